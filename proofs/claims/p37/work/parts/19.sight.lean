theorem dX10_arePairs_0 : decode cX10_arePairs 0 = .ok (.iload_n 2, 1) := by decide +kernel
theorem dX10_arePairs_1 : decode cX10_arePairs 1 = .ok (.iconst 2, 1) := by decide +kernel
theorem dX10_arePairs_2 : decode cX10_arePairs 2 = .ok (.if_icmp .lt 21, 3) := by decide +kernel
theorem dX10_arePairs_23 : decode cX10_arePairs 23 = .ok (.iconst 0, 1) := by decide +kernel
theorem dX10_arePairs_24 : decode cX10_arePairs 24 = .ok (.ireturn, 1) := by decide +kernel
theorem dX10_arePairs_5 : decode cX10_arePairs 5 = .ok (.iload_n 2, 1) := by decide +kernel
theorem dX10_arePairs_6 : decode cX10_arePairs 6 = .ok (.bipush 12, 2) := by decide +kernel
theorem dX10_arePairs_8 : decode cX10_arePairs 8 = .ok (.if_icmp .gt 15, 3) := by decide +kernel
theorem dX10_arePairs_11 : decode cX10_arePairs 11 = .ok (.iload_n 2, 1) := by decide +kernel
theorem dX10_arePairs_12 : decode cX10_arePairs 12 = .ok (.iconst 2, 1) := by decide +kernel
theorem dX10_arePairs_13 : decode cX10_arePairs 13 = .ok (.irem, 1) := by decide +kernel
theorem dX10_arePairs_14 : decode cX10_arePairs 14 = .ok (.ifCond .ne 9, 3) := by decide +kernel
theorem dX10_arePairs_17 : decode cX10_arePairs 17 = .ok (.iload_n 2, 1) := by decide +kernel
theorem dX10_arePairs_18 : decode cX10_arePairs 18 = .ok (.aload_n 1, 1) := by decide +kernel
theorem dX10_arePairs_19 : decode cX10_arePairs 19 = .ok (.arraylength, 1) := by decide +kernel
theorem dX10_arePairs_20 : decode cX10_arePairs 20 = .ok (.if_icmp .le 5, 3) := by decide +kernel
theorem dX10_arePairs_25 : decode cX10_arePairs 25 = .ok (.iconst 0, 1) := by decide +kernel
theorem dX10_arePairs_26 : decode cX10_arePairs 26 = .ok (.istore_n 3, 1) := by decide +kernel
theorem dX10_arePairs_27 : decode cX10_arePairs 27 = .ok (.iload_n 3, 1) := by decide +kernel
theorem dX10_arePairs_28 : decode cX10_arePairs 28 = .ok (.iconst 1, 1) := by decide +kernel
theorem dX10_arePairs_29 : decode cX10_arePairs 29 = .ok (.iadd, 1) := by decide +kernel
theorem dX10_arePairs_30 : decode cX10_arePairs 30 = .ok (.iload_n 2, 1) := by decide +kernel
theorem dX10_arePairs_31 : decode cX10_arePairs 31 = .ok (.if_icmp .ge 38, 3) := by decide +kernel
theorem dX10_arePairs_69 : decode cX10_arePairs 69 = .ok (.iconst 1, 1) := by decide +kernel
theorem dX10_arePairs_70 : decode cX10_arePairs 70 = .ok (.ireturn, 1) := by decide +kernel
theorem dX10_arePairs_34 : decode cX10_arePairs 34 = .ok (.aload_n 0, 1) := by decide +kernel
theorem dX10_arePairs_35 : decode cX10_arePairs 35 = .ok (.aload_n 1, 1) := by decide +kernel
theorem dX10_arePairs_36 : decode cX10_arePairs 36 = .ok (.iload_n 3, 1) := by decide +kernel
theorem dX10_arePairs_37 : decode cX10_arePairs 37 = .ok (.baload, 1) := by decide +kernel
theorem dX10_arePairs_38 : decode cX10_arePairs 38 = .ok (.invokevirtual 43, 3) := by decide +kernel
theorem dX10_arePairs_41 : decode cX10_arePairs 41 = .ok (.ifCond .eq 20, 3) := by decide +kernel
theorem dX10_arePairs_44 : decode cX10_arePairs 44 = .ok (.aload_n 1, 1) := by decide +kernel
theorem dX10_arePairs_45 : decode cX10_arePairs 45 = .ok (.iload_n 3, 1) := by decide +kernel
theorem dX10_arePairs_46 : decode cX10_arePairs 46 = .ok (.iconst 1, 1) := by decide +kernel
theorem dX10_arePairs_47 : decode cX10_arePairs 47 = .ok (.iadd, 1) := by decide +kernel
theorem dX10_arePairs_48 : decode cX10_arePairs 48 = .ok (.baload, 1) := by decide +kernel
theorem dX10_arePairs_49 : decode cX10_arePairs 49 = .ok (.ifCond .lt 12, 3) := by decide +kernel
theorem dX10_arePairs_61 : decode cX10_arePairs 61 = .ok (.iconst 0, 1) := by decide +kernel
theorem dX10_arePairs_62 : decode cX10_arePairs 62 = .ok (.ireturn, 1) := by decide +kernel
theorem dX10_arePairs_52 : decode cX10_arePairs 52 = .ok (.aload_n 1, 1) := by decide +kernel
theorem dX10_arePairs_53 : decode cX10_arePairs 53 = .ok (.iload_n 3, 1) := by decide +kernel
theorem dX10_arePairs_54 : decode cX10_arePairs 54 = .ok (.iconst 1, 1) := by decide +kernel
theorem dX10_arePairs_55 : decode cX10_arePairs 55 = .ok (.iadd, 1) := by decide +kernel
theorem dX10_arePairs_56 : decode cX10_arePairs 56 = .ok (.baload, 1) := by decide +kernel
theorem dX10_arePairs_57 : decode cX10_arePairs 57 = .ok (.iconst 1, 1) := by decide +kernel
theorem dX10_arePairs_58 : decode cX10_arePairs 58 = .ok (.if_icmp .le 5, 3) := by decide +kernel
theorem dX10_arePairs_63 : decode cX10_arePairs 63 = .ok (.iinc 3 2, 3) := by decide +kernel
theorem dX10_arePairs_66 : decode cX10_arePairs 66 = .ok (.goto (-39), 3) := by decide +kernel
theorem dX10_allDoSo_0 : decode cX10_allDoSo 0 = .ok (.iconst 0, 1) := by decide +kernel
theorem dX10_allDoSo_1 : decode cX10_allDoSo 1 = .ok (.istore 4, 2) := by decide +kernel
theorem dX10_allDoSo_3 : decode cX10_allDoSo 3 = .ok (.iload 4, 2) := by decide +kernel
theorem dX10_allDoSo_5 : decode cX10_allDoSo 5 = .ok (.iconst 1, 1) := by decide +kernel
theorem dX10_allDoSo_6 : decode cX10_allDoSo 6 = .ok (.iadd, 1) := by decide +kernel
theorem dX10_allDoSo_7 : decode cX10_allDoSo 7 = .ok (.iload_n 3, 1) := by decide +kernel
theorem dX10_allDoSo_8 : decode cX10_allDoSo 8 = .ok (.if_icmp .ge 47, 3) := by decide +kernel
theorem dX10_allDoSo_55 : decode cX10_allDoSo 55 = .ok (.iconst 1, 1) := by decide +kernel
theorem dX10_allDoSo_56 : decode cX10_allDoSo 56 = .ok (.ireturn, 1) := by decide +kernel
theorem dX10_allDoSo_11 : decode cX10_allDoSo 11 = .ok (.iload 4, 2) := by decide +kernel
theorem dX10_allDoSo_13 : decode cX10_allDoSo 13 = .ok (.iconst 1, 1) := by decide +kernel
theorem dX10_allDoSo_14 : decode cX10_allDoSo 14 = .ok (.iadd, 1) := by decide +kernel
theorem dX10_allDoSo_15 : decode cX10_allDoSo 15 = .ok (.aload_n 2, 1) := by decide +kernel
theorem dX10_allDoSo_16 : decode cX10_allDoSo 16 = .ok (.arraylength, 1) := by decide +kernel
theorem dX10_allDoSo_17 : decode cX10_allDoSo 17 = .ok (.if_icmp .ge 38, 3) := by decide +kernel
theorem dX10_allDoSo_20 : decode cX10_allDoSo 20 = .ok (.aload_n 0, 1) := by decide +kernel
theorem dX10_allDoSo_21 : decode cX10_allDoSo 21 = .ok (.aload_n 2, 1) := by decide +kernel
theorem dX10_allDoSo_22 : decode cX10_allDoSo 22 = .ok (.iload 4, 2) := by decide +kernel
theorem dX10_allDoSo_24 : decode cX10_allDoSo 24 = .ok (.baload, 1) := by decide +kernel
theorem dX10_allDoSo_25 : decode cX10_allDoSo 25 = .ok (.iload_n 1, 1) := by decide +kernel
theorem dX10_allDoSo_26 : decode cX10_allDoSo 26 = .ok (.invokevirtual 47, 3) := by decide +kernel
theorem dX10_allDoSo_29 : decode cX10_allDoSo 29 = .ok (.aload_n 2, 1) := by decide +kernel
theorem dX10_allDoSo_30 : decode cX10_allDoSo 30 = .ok (.iload 4, 2) := by decide +kernel
theorem dX10_allDoSo_32 : decode cX10_allDoSo 32 = .ok (.iconst 1, 1) := by decide +kernel
theorem dX10_allDoSo_33 : decode cX10_allDoSo 33 = .ok (.iadd, 1) := by decide +kernel
theorem dX10_allDoSo_34 : decode cX10_allDoSo 34 = .ok (.baload, 1) := by decide +kernel
theorem dX10_allDoSo_35 : decode cX10_allDoSo 35 = .ok (.iconst 1, 1) := by decide +kernel
theorem dX10_allDoSo_36 : decode cX10_allDoSo 36 = .ok (.if_icmp .ne 7, 3) := by decide +kernel
theorem dX10_allDoSo_43 : decode cX10_allDoSo 43 = .ok (.iconst 0, 1) := by decide +kernel
theorem dX10_allDoSo_44 : decode cX10_allDoSo 44 = .ok (.if_icmp .eq 5, 3) := by decide +kernel
theorem dX10_allDoSo_49 : decode cX10_allDoSo 49 = .ok (.iinc 4 2, 3) := by decide +kernel
theorem dX10_allDoSo_52 : decode cX10_allDoSo 52 = .ok (.goto (-49), 3) := by decide +kernel
theorem dX10_allDoSo_47 : decode cX10_allDoSo 47 = .ok (.iconst 0, 1) := by decide +kernel
theorem dX10_allDoSo_48 : decode cX10_allDoSo 48 = .ok (.ireturn, 1) := by decide +kernel
theorem dX10_allDoSo_39 : decode cX10_allDoSo 39 = .ok (.iconst 1, 1) := by decide +kernel
theorem dX10_allDoSo_40 : decode cX10_allDoSo 40 = .ok (.goto 4, 3) := by decide +kernel
theorem dX10_mostLeft_0 : decode cX10_mostLeft 0 = .ok (.iconst 0, 1) := by decide +kernel
theorem dX10_mostLeft_1 : decode cX10_mostLeft 1 = .ok (.istore_n 3, 1) := by decide +kernel
theorem dX10_mostLeft_2 : decode cX10_mostLeft 2 = .ok (.iconst 0, 1) := by decide +kernel
theorem dX10_mostLeft_3 : decode cX10_mostLeft 3 = .ok (.istore 4, 2) := by decide +kernel
theorem dX10_mostLeft_5 : decode cX10_mostLeft 5 = .ok (.iload 4, 2) := by decide +kernel
theorem dX10_mostLeft_7 : decode cX10_mostLeft 7 = .ok (.bipush 36, 2) := by decide +kernel
theorem dX10_mostLeft_9 : decode cX10_mostLeft 9 = .ok (.if_icmp .ge 53, 3) := by decide +kernel
theorem dX10_mostLeft_12 : decode cX10_mostLeft 12 = .ok (.aload_n 0, 1) := by decide +kernel
theorem dX10_mostLeft_13 : decode cX10_mostLeft 13 = .ok (.getfield 9, 3) := by decide +kernel
theorem dX10_mostLeft_16 : decode cX10_mostLeft 16 = .ok (.iload 4, 2) := by decide +kernel
theorem dX10_mostLeft_18 : decode cX10_mostLeft 18 = .ok (.lshr, 1) := by decide +kernel
theorem dX10_mostLeft_19 : decode cX10_mostLeft 19 = .ok (.lconst 1, 1) := by decide +kernel
theorem dX10_mostLeft_20 : decode cX10_mostLeft 20 = .ok (.land, 1) := by decide +kernel
theorem dX10_mostLeft_21 : decode cX10_mostLeft 21 = .ok (.lconst 1, 1) := by decide +kernel
theorem dX10_mostLeft_22 : decode cX10_mostLeft 22 = .ok (.lcmp, 1) := by decide +kernel
theorem dX10_mostLeft_23 : decode cX10_mostLeft 23 = .ok (.ifCond .ne 7, 3) := by decide +kernel
theorem dX10_mostLeft_30 : decode cX10_mostLeft 30 = .ok (.iconst 0, 1) := by decide +kernel
theorem dX10_mostLeft_26 : decode cX10_mostLeft 26 = .ok (.iconst 1, 1) := by decide +kernel
theorem dX10_mostLeft_27 : decode cX10_mostLeft 27 = .ok (.goto 4, 3) := by decide +kernel
theorem dX10_mostLeft_31 : decode cX10_mostLeft 31 = .ok (.istore 5, 2) := by decide +kernel
theorem dX10_mostLeft_33 : decode cX10_mostLeft 33 = .ok (.iload_n 3, 1) := by decide +kernel
theorem dX10_mostLeft_34 : decode cX10_mostLeft 34 = .ok (.iload 5, 2) := by decide +kernel
theorem dX10_mostLeft_36 : decode cX10_mostLeft 36 = .ok (.ifCond .eq 17, 3) := by decide +kernel
theorem dX10_mostLeft_53 : decode cX10_mostLeft 53 = .ok (.iconst 0, 1) := by decide +kernel
theorem dX10_mostLeft_54 : decode cX10_mostLeft 54 = .ok (.iadd, 1) := by decide +kernel
theorem dX10_mostLeft_55 : decode cX10_mostLeft 55 = .ok (.istore_n 3, 1) := by decide +kernel
theorem dX10_mostLeft_56 : decode cX10_mostLeft 56 = .ok (.iinc 4 1, 3) := by decide +kernel
theorem dX10_mostLeft_59 : decode cX10_mostLeft 59 = .ok (.goto (-54), 3) := by decide +kernel
theorem dX10_mostLeft_39 : decode cX10_mostLeft 39 = .ok (.aload_n 1, 1) := by decide +kernel
theorem dX10_mostLeft_40 : decode cX10_mostLeft 40 = .ok (.iload_n 2, 1) := by decide +kernel
theorem dX10_mostLeft_41 : decode cX10_mostLeft 41 = .ok (.iload 4, 2) := by decide +kernel
theorem dX10_mostLeft_43 : decode cX10_mostLeft 43 = .ok (.invokevirtual 47, 3) := by decide +kernel
theorem dX10_mostLeft_46 : decode cX10_mostLeft 46 = .ok (.ifCond .eq 7, 3) := by decide +kernel
theorem dX10_mostLeft_49 : decode cX10_mostLeft 49 = .ok (.iconst 1, 1) := by decide +kernel
theorem dX10_mostLeft_50 : decode cX10_mostLeft 50 = .ok (.goto 4, 3) := by decide +kernel
theorem dX10_mostLeft_62 : decode cX10_mostLeft 62 = .ok (.iload_n 3, 1) := by decide +kernel
theorem dX10_mostLeft_63 : decode cX10_mostLeft 63 = .ok (.aload_n 0, 1) := by decide +kernel
theorem dX10_mostLeft_64 : decode cX10_mostLeft 64 = .ok (.getfield 9, 3) := by decide +kernel
theorem dX10_mostLeft_67 : decode cX10_mostLeft 67 = .ok (.invokestatic 37, 3) := by decide +kernel
theorem dX10_mostLeft_70 : decode cX10_mostLeft 70 = .ok (.iload_n 3, 1) := by decide +kernel
theorem dX10_mostLeft_71 : decode cX10_mostLeft 71 = .ok (.isub, 1) := by decide +kernel
theorem dX10_mostLeft_72 : decode cX10_mostLeft 72 = .ok (.invokestatic 57, 3) := by decide +kernel
theorem dX10_mostLeft_75 : decode cX10_mostLeft 75 = .ok (.ireturn, 1) := by decide +kernel
theorem dX10_boatToSend_0 : decode cX10_boatToSend 0 = .ok (.iconst (-1), 1) := by decide +kernel
theorem dX10_boatToSend_1 : decode cX10_boatToSend 1 = .ok (.istore_n 2, 1) := by decide +kernel
theorem dX10_boatToSend_2 : decode cX10_boatToSend 2 = .ok (.bipush 37, 2) := by decide +kernel
theorem dX10_boatToSend_4 : decode cX10_boatToSend 4 = .ok (.istore_n 3, 1) := by decide +kernel
theorem dX10_boatToSend_5 : decode cX10_boatToSend 5 = .ok (.iconst 0, 1) := by decide +kernel
theorem dX10_boatToSend_6 : decode cX10_boatToSend 6 = .ok (.istore 4, 2) := by decide +kernel
theorem dX10_boatToSend_8 : decode cX10_boatToSend 8 = .ok (.iload 4, 2) := by decide +kernel
theorem dX10_boatToSend_10 : decode cX10_boatToSend 10 = .ok (.aload_n 1, 1) := by decide +kernel
theorem dX10_boatToSend_11 : decode cX10_boatToSend 11 = .ok (.getfield 50, 3) := by decide +kernel
theorem dX10_boatToSend_14 : decode cX10_boatToSend 14 = .ok (.if_icmp .ge 30, 3) := by decide +kernel
theorem dX10_boatToSend_44 : decode cX10_boatToSend 44 = .ok (.iload_n 2, 1) := by decide +kernel
theorem dX10_boatToSend_45 : decode cX10_boatToSend 45 = .ok (.ireturn, 1) := by decide +kernel
theorem dX10_boatToSend_17 : decode cX10_boatToSend 17 = .ok (.aload_n 0, 1) := by decide +kernel
theorem dX10_boatToSend_18 : decode cX10_boatToSend 18 = .ok (.aload_n 1, 1) := by decide +kernel
theorem dX10_boatToSend_19 : decode cX10_boatToSend 19 = .ok (.iload 4, 2) := by decide +kernel
theorem dX10_boatToSend_21 : decode cX10_boatToSend 21 = .ok (.invokevirtual 53, 3) := by decide +kernel
theorem dX10_boatToSend_24 : decode cX10_boatToSend 24 = .ok (.istore 5, 2) := by decide +kernel
theorem dX10_boatToSend_26 : decode cX10_boatToSend 26 = .ok (.iload 5, 2) := by decide +kernel
theorem dX10_boatToSend_28 : decode cX10_boatToSend 28 = .ok (.iload_n 3, 1) := by decide +kernel
theorem dX10_boatToSend_29 : decode cX10_boatToSend 29 = .ok (.if_icmp .ge 9, 3) := by decide +kernel
theorem dX10_boatToSend_38 : decode cX10_boatToSend 38 = .ok (.iinc 4 1, 3) := by decide +kernel
theorem dX10_boatToSend_41 : decode cX10_boatToSend 41 = .ok (.goto (-33), 3) := by decide +kernel
theorem dX10_boatToSend_32 : decode cX10_boatToSend 32 = .ok (.iload 4, 2) := by decide +kernel
theorem dX10_boatToSend_34 : decode cX10_boatToSend 34 = .ok (.istore_n 2, 1) := by decide +kernel
theorem dX10_boatToSend_35 : decode cX10_boatToSend 35 = .ok (.iload 5, 2) := by decide +kernel
theorem dX10_boatToSend_37 : decode cX10_boatToSend 37 = .ok (.istore_n 3, 1) := by decide +kernel
theorem dX10_look_0 : decode cX10_look 0 = .ok (.aload_n 1, 1) := by decide +kernel
theorem dX10_look_1 : decode cX10_look 1 = .ok (.aload_n 2, 1) := by decide +kernel
theorem dX10_look_2 : decode cX10_look 2 = .ok (.iload_n 3, 1) := by decide +kernel
theorem dX10_look_3 : decode cX10_look 3 = .ok (.invokestatic 19, 3) := by decide +kernel
theorem dX10_look_6 : decode cX10_look 6 = .ok (.ifCond .ne 5, 3) := by decide +kernel
theorem dX10_look_11 : decode cX10_look 11 = .ok (.lconst 0, 1) := by decide +kernel
theorem dX10_look_12 : decode cX10_look 12 = .ok (.lstore 4, 2) := by decide +kernel
theorem dX10_look_14 : decode cX10_look 14 = .ok (.iconst 0, 1) := by decide +kernel
theorem dX10_look_15 : decode cX10_look 15 = .ok (.istore 6, 2) := by decide +kernel
theorem dX10_look_17 : decode cX10_look 17 = .ok (.iload 6, 2) := by decide +kernel
theorem dX10_look_19 : decode cX10_look 19 = .ok (.bipush 36, 2) := by decide +kernel
theorem dX10_look_21 : decode cX10_look 21 = .ok (.if_icmp .ge 46, 3) := by decide +kernel
theorem dX10_look_24 : decode cX10_look 24 = .ok (.aload_n 1, 1) := by decide +kernel
theorem dX10_look_25 : decode cX10_look 25 = .ok (.iload 6, 2) := by decide +kernel
theorem dX10_look_27 : decode cX10_look 27 = .ok (.bipush 6, 2) := by decide +kernel
theorem dX10_look_29 : decode cX10_look 29 = .ok (.irem, 1) := by decide +kernel
theorem dX10_look_30 : decode cX10_look 30 = .ok (.iload 6, 2) := by decide +kernel
theorem dX10_look_32 : decode cX10_look 32 = .ok (.bipush 6, 2) := by decide +kernel
theorem dX10_look_34 : decode cX10_look 34 = .ok (.idiv, 1) := by decide +kernel
theorem dX10_look_35 : decode cX10_look 35 = .ok (.invokevirtual 23, 3) := by decide +kernel
theorem dX10_look_38 : decode cX10_look 38 = .ok (.ifCond .eq 23, 3) := by decide +kernel
theorem dX10_look_41 : decode cX10_look 41 = .ok (.aload_n 1, 1) := by decide +kernel
theorem dX10_look_42 : decode cX10_look 42 = .ok (.iload 6, 2) := by decide +kernel
theorem dX10_look_44 : decode cX10_look 44 = .ok (.aload_n 2, 1) := by decide +kernel
theorem dX10_look_45 : decode cX10_look 45 = .ok (.iload_n 3, 1) := by decide +kernel
theorem dX10_look_46 : decode cX10_look 46 = .ok (.invokestatic 29, 3) := by decide +kernel
theorem dX10_look_49 : decode cX10_look 49 = .ok (.ifCond .eq 12, 3) := by decide +kernel
theorem dX10_look_61 : decode cX10_look 61 = .ok (.iinc 6 1, 3) := by decide +kernel
theorem dX10_look_64 : decode cX10_look 64 = .ok (.goto (-47), 3) := by decide +kernel
theorem dX10_look_52 : decode cX10_look 52 = .ok (.lload 4, 2) := by decide +kernel
theorem dX10_look_54 : decode cX10_look 54 = .ok (.lconst 1, 1) := by decide +kernel
theorem dX10_look_55 : decode cX10_look 55 = .ok (.iload 6, 2) := by decide +kernel
theorem dX10_look_57 : decode cX10_look 57 = .ok (.lshl, 1) := by decide +kernel
theorem dX10_look_58 : decode cX10_look 58 = .ok (.lor, 1) := by decide +kernel
theorem dX10_look_59 : decode cX10_look 59 = .ok (.lstore 4, 2) := by decide +kernel
theorem dX10_look_67 : decode cX10_look 67 = .ok (.lload 4, 2) := by decide +kernel
theorem dX10_look_69 : decode cX10_look 69 = .ok (.lconst 0, 1) := by decide +kernel
theorem dX10_look_70 : decode cX10_look 70 = .ok (.lcmp, 1) := by decide +kernel
theorem dX10_look_71 : decode cX10_look 71 = .ok (.ifCond .eq 18, 3) := by decide +kernel
theorem dX10_look_89 : decode cX10_look 89 = .ok (.lload 4, 2) := by decide +kernel
theorem dX10_look_91 : decode cX10_look 91 = .ok (.invokestatic 37, 3) := by decide +kernel
theorem dX10_look_94 : decode cX10_look 94 = .ok (.ireturn, 1) := by decide +kernel
theorem dX10_look_74 : decode cX10_look 74 = .ok (.aload_n 0, 1) := by decide +kernel
theorem dX10_look_75 : decode cX10_look 75 = .ok (.lload 4, 2) := by decide +kernel
theorem dX10_look_77 : decode cX10_look 77 = .ok (.putfield 9, 3) := by decide +kernel
theorem dX10_look_80 : decode cX10_look 80 = .ok (.aload_n 0, 1) := by decide +kernel
theorem dX10_look_81 : decode cX10_look 81 = .ok (.aload_n 0, 1) := by decide +kernel
theorem dX10_look_82 : decode cX10_look 82 = .ok (.aload_n 1, 1) := by decide +kernel
theorem dX10_look_83 : decode cX10_look 83 = .ok (.invokevirtual 33, 3) := by decide +kernel
theorem dX10_look_86 : decode cX10_look 86 = .ok (.putfield 15, 3) := by decide +kernel
theorem dX10_look_9 : decode cX10_look 9 = .ok (.iconst (-1), 1) := by decide +kernel
theorem dX10_look_10 : decode cX10_look 10 = .ok (.ireturn, 1) := by decide +kernel
theorem dX10_cellAt_0 : decode cX10_cellAt 0 = .ok (.iconst 0, 1) := by decide +kernel
theorem dX10_cellAt_1 : decode cX10_cellAt 1 = .ok (.istore_n 2, 1) := by decide +kernel
theorem dX10_cellAt_2 : decode cX10_cellAt 2 = .ok (.iconst 0, 1) := by decide +kernel
theorem dX10_cellAt_3 : decode cX10_cellAt 3 = .ok (.istore_n 3, 1) := by decide +kernel
theorem dX10_cellAt_4 : decode cX10_cellAt 4 = .ok (.iload_n 3, 1) := by decide +kernel
theorem dX10_cellAt_5 : decode cX10_cellAt 5 = .ok (.bipush 36, 2) := by decide +kernel
theorem dX10_cellAt_7 : decode cX10_cellAt 7 = .ok (.if_icmp .ge 36, 3) := by decide +kernel
theorem dX10_cellAt_10 : decode cX10_cellAt 10 = .ok (.iload_n 1, 1) := by decide +kernel
theorem dX10_cellAt_11 : decode cX10_cellAt 11 = .ok (.ifCond .lt 32, 3) := by decide +kernel
theorem dX10_cellAt_43 : decode cX10_cellAt 43 = .ok (.iconst (-1), 1) := by decide +kernel
theorem dX10_cellAt_44 : decode cX10_cellAt 44 = .ok (.ireturn, 1) := by decide +kernel
theorem dX10_cellAt_14 : decode cX10_cellAt 14 = .ok (.aload_n 0, 1) := by decide +kernel
theorem dX10_cellAt_15 : decode cX10_cellAt 15 = .ok (.getfield 9, 3) := by decide +kernel
theorem dX10_cellAt_18 : decode cX10_cellAt 18 = .ok (.iload_n 3, 1) := by decide +kernel
theorem dX10_cellAt_19 : decode cX10_cellAt 19 = .ok (.lshr, 1) := by decide +kernel
theorem dX10_cellAt_20 : decode cX10_cellAt 20 = .ok (.lconst 1, 1) := by decide +kernel
theorem dX10_cellAt_21 : decode cX10_cellAt 21 = .ok (.land, 1) := by decide +kernel
theorem dX10_cellAt_22 : decode cX10_cellAt 22 = .ok (.lconst 1, 1) := by decide +kernel
theorem dX10_cellAt_23 : decode cX10_cellAt 23 = .ok (.lcmp, 1) := by decide +kernel
theorem dX10_cellAt_24 : decode cX10_cellAt 24 = .ok (.ifCond .ne 13, 3) := by decide +kernel
theorem dX10_cellAt_37 : decode cX10_cellAt 37 = .ok (.iinc 3 1, 3) := by decide +kernel
theorem dX10_cellAt_40 : decode cX10_cellAt 40 = .ok (.goto (-36), 3) := by decide +kernel
theorem dX10_cellAt_27 : decode cX10_cellAt 27 = .ok (.iload_n 2, 1) := by decide +kernel
theorem dX10_cellAt_28 : decode cX10_cellAt 28 = .ok (.iload_n 1, 1) := by decide +kernel
theorem dX10_cellAt_29 : decode cX10_cellAt 29 = .ok (.if_icmp .ne 5, 3) := by decide +kernel
theorem dX10_cellAt_34 : decode cX10_cellAt 34 = .ok (.iinc 2 1, 3) := by decide +kernel
theorem dX10_cellAt_32 : decode cX10_cellAt 32 = .ok (.iload_n 3, 1) := by decide +kernel
theorem dX10_cellAt_33 : decode cX10_cellAt 33 = .ok (.ireturn, 1) := by decide +kernel
set_option maxRecDepth 100000 in
theorem ggX10_arePairs_X7_isBoat : GoodIn wsX10_arePairs wsX7_isBoat := goodIn_r _ [5, 6, 7, 8, 9, 10, 11, 12, 13, 14, 15, 16, 17, 18, 19, 20, 21, 22, 23, 24, 25] rfl (by decide +kernel)
set_option maxRecDepth 100000 in
theorem ggX10_allDoSo_X7_wouldFloat : GoodIn wsX10_allDoSo wsX7_wouldFloat := goodIn_r _ [5, 6, 7, 8, 9, 4, 10, 11, 12, 13, 14, 15, 16, 17, 18, 19, 20, 21, 22, 23, 24, 25, 26, 27, 28, 29, 30, 31, 32, 33, 34, 35, 36, 37, 38, 39, 40, 41, 42, 43, 44, 45, 46, 47] rfl (by decide +kernel)
set_option maxRecDepth 100000 in
theorem ggX10_mostLeft_X7_wouldFloat : GoodIn wsX10_mostLeft wsX7_wouldFloat := goodIn_r _ [10, 11, 12, 13, 14, 9, 15, 16, 17, 18, 19, 20, 21, 22, 23, 24, 25, 26, 27, 28, 29, 30, 31, 32, 33, 43, 44, 45, 46, 47, 48, 49, 50, 51, 52, 53, 54, 55, 56, 57, 58, 59, 60, 61] rfl (by decide +kernel)
set_option maxRecDepth 100000 in
theorem ggX10_mostLeft_J13_bitCount_95d88 : GoodIn wsX10_mostLeft wsJ13_bitCount_95d88 := goodIn_r _ [37, 38, 39, 40] rfl (by decide +kernel)
set_option maxRecDepth 100000 in
theorem ggX10_boatToSend_X10_mostLeft : GoodIn wsX10_boatToSend wsX10_mostLeft := goodIn_r _ [6, 7, 8, 9, 10, 11, 12, 13, 14, 15, 16, 17, 18, 19, 20, 21, 22, 23, 24, 25, 26, 27, 28, 29, 30, 31, 32, 33, 34, 35, 36, 37, 38, 39, 40, 41, 42, 43, 44, 45, 46, 66, 67, 47, 48, 49, 50, 51, 52, 53, 54, 55, 56, 57, 58, 59, 60, 61, 62, 63, 64, 65] rfl (by decide +kernel)
set_option maxRecDepth 100000 in
theorem ggX10_look_X10_arePairs : GoodIn wsX10_look wsX10_arePairs := goodIn_r _ [6, 7, 8, 9, 10, 11, 12, 67, 68, 69, 70, 71, 72, 73, 74, 75, 76, 77, 78, 79, 80, 81, 82, 83, 84, 85] rfl (by decide +kernel)
set_option maxRecDepth 100000 in
theorem ggX10_look_X7_isCell : GoodIn wsX10_look wsX7_isCell := goodIn_r _ [16, 17, 18, 67, 68, 69, 70, 71, 72, 73, 74, 75, 76, 77, 78, 79, 80, 81, 82, 83, 84, 85] rfl (by decide +kernel)
set_option maxRecDepth 100000 in
theorem ggX10_look_X10_allDoSo : GoodIn wsX10_look wsX10_allDoSo := goodIn_r _ [21, 22, 23, 24, 10, 25, 26, 27, 8, 9, 11, 12, 28, 29, 30, 31, 32, 33, 34, 35, 36, 37, 38, 39, 40, 41, 42, 43, 44, 67, 68, 69, 70, 71, 72, 73, 74, 75, 76, 77, 78, 79, 80, 81, 82, 83, 84, 85] rfl (by decide +kernel)
set_option maxRecDepth 100000 in
theorem ggX10_look_J13_bitCount_95d88 : GoodIn wsX10_look wsJ13_bitCount_95d88 := goodIn_r _ [61, 62, 63, 64] rfl (by decide +kernel)
set_option maxRecDepth 100000 in
theorem ggX10_look_X10_boatToSend : GoodIn wsX10_look wsX10_boatToSend := goodIn_r _ [48, 49, 50, 51, 52, 5, 53, 1, 54, 55, 56, 57, 22, 23, 24, 10, 25, 26, 27, 8, 9, 11, 12, 28, 29, 30, 31, 32, 33, 34, 35, 36, 37, 38, 39, 40, 41, 42, 43, 44, 58, 59, 60, 61, 62, 63, 64, 67, 68, 69, 70, 71, 72, 73, 74, 75, 76, 77, 78, 79, 80, 81, 82, 83, 84, 85, 65, 66] rfl (by decide +kernel)
set_option maxRecDepth 100000 in
theorem gX10_arePairs_X7_isBoat : GoodIn wsX10_arePairs (wsV RX10 43 RX7 yX7_isBoat wsX7_isBoat) := goodIn_app (goodIn_of _ (by decide +kernel)) ggX10_arePairs_X7_isBoat
set_option maxRecDepth 100000 in
theorem gX10_allDoSo_X7_wouldFloat : GoodIn wsX10_allDoSo (wsV RX10 47 RX7 yX7_wouldFloat wsX7_wouldFloat) := goodIn_app (goodIn_of _ (by decide +kernel)) ggX10_allDoSo_X7_wouldFloat
set_option maxRecDepth 100000 in
theorem gX10_mostLeft_X7_wouldFloat : GoodIn wsX10_mostLeft (wsV RX10 47 RX7 yX7_wouldFloat wsX7_wouldFloat) := goodIn_app (goodIn_of _ (by decide +kernel)) ggX10_mostLeft_X7_wouldFloat
set_option maxRecDepth 100000 in
theorem gX10_mostLeft_J13_bitCount_95d88 : GoodIn wsX10_mostLeft (va_wsS RX10 37 yJ13_bitCount_95d88 wsJ13_bitCount_95d88) := goodIn_app (goodIn_of _ (by decide +kernel)) ggX10_mostLeft_J13_bitCount_95d88
set_option maxRecDepth 100000 in
theorem gX10_boatToSend_X10_mostLeft : GoodIn wsX10_boatToSend (wsV RX10 53 RX10 yX10_mostLeft wsX10_mostLeft) := goodIn_app (goodIn_of _ (by decide +kernel)) ggX10_boatToSend_X10_mostLeft
set_option maxRecDepth 100000 in
theorem gX10_look_X10_arePairs : GoodIn wsX10_look (va_wsS RX10 19 yX10_arePairs wsX10_arePairs) := goodIn_app (goodIn_of _ (by decide +kernel)) ggX10_look_X10_arePairs
set_option maxRecDepth 100000 in
theorem gX10_look_X7_isCell : GoodIn wsX10_look (wsV RX10 23 RX7 yX7_isCell wsX7_isCell) := goodIn_app (goodIn_of _ (by decide +kernel)) ggX10_look_X7_isCell
set_option maxRecDepth 100000 in
theorem gX10_look_X10_allDoSo : GoodIn wsX10_look (va_wsS RX10 29 yX10_allDoSo wsX10_allDoSo) := goodIn_app (goodIn_of _ (by decide +kernel)) ggX10_look_X10_allDoSo
set_option maxRecDepth 100000 in
theorem gX10_look_J13_bitCount_95d88 : GoodIn wsX10_look (va_wsS RX10 37 yJ13_bitCount_95d88 wsJ13_bitCount_95d88) := goodIn_app (goodIn_of _ (by decide +kernel)) ggX10_look_J13_bitCount_95d88
set_option maxRecDepth 100000 in
theorem gX10_look_X10_boatToSend : GoodIn wsX10_look (wsV RX10 33 RX10 yX10_boatToSend wsX10_boatToSend) := goodIn_app (goodIn_of _ (by decide +kernel)) ggX10_look_X10_boatToSend
set_option maxRecDepth 20000 in
theorem lf_i_arePairs_1   : (nI 0) = nI 0 ∨ (nI 0) = nI 1 := by
  try have k_0 := ia_n 0 (by first | decide | omega)
  try have k_1 := ia_n 1 (by first | decide | omega)
  try simp only [ia_lt, ia_le, ia_eq, ia_m1, ia_0, ia_1, ne_eq, true_and, and_true, false_and, and_false, or_false, false_or, or_true, true_or, not_true_eq_false, not_false_eq_true] at *
  all_goals omega
set_option maxRecDepth 20000 in
theorem lf_i_arePairs_2   : (nI 0) = nI 0 ∨ (nI 0) = nI 1 := by
  try have k_0 := ia_n 0 (by first | decide | omega)
  try have k_1 := ia_n 1 (by first | decide | omega)
  try simp only [ia_lt, ia_le, ia_eq, ia_m1, ia_0, ia_1, ne_eq, true_and, and_true, false_and, and_false, or_false, false_or, or_true, true_or, not_true_eq_false, not_false_eq_true] at *
  all_goals omega
set_option maxRecDepth 20000 in
theorem lf_i_arePairs_3   : (nI 0) = nI 0 ∨ (nI 0) = nI 1 := by
  try have k_0 := ia_n 0 (by first | decide | omega)
  try have k_1 := ia_n 1 (by first | decide | omega)
  try simp only [ia_lt, ia_le, ia_eq, ia_m1, ia_0, ia_1, ne_eq, true_and, and_true, false_and, and_false, or_false, false_or, or_true, true_or, not_true_eq_false, not_false_eq_true] at *
  all_goals omega
set_option maxRecDepth 20000 in
theorem lf_i_arePairs_4   : (nI 1) = nI 0 ∨ (nI 1) = nI 1 := by
  try have k_0 := ia_n 1 (by first | decide | omega)
  try have k_1 := ia_n 0 (by first | decide | omega)
  try simp only [ia_lt, ia_le, ia_eq, ia_m1, ia_0, ia_1, ne_eq, true_and, and_true, false_and, and_false, or_false, false_or, or_true, true_or, not_true_eq_false, not_false_eq_true] at *
  all_goals omega
set_option maxRecDepth 20000 in
theorem lf_i_arePairs_5   : (nI 0) = nI 0 ∨ (nI 0) = nI 1 := by
  try have k_0 := ia_n 0 (by first | decide | omega)
  try have k_1 := ia_n 1 (by first | decide | omega)
  try simp only [ia_lt, ia_le, ia_eq, ia_m1, ia_0, ia_1, ne_eq, true_and, and_true, false_and, and_false, or_false, false_or, or_true, true_or, not_true_eq_false, not_false_eq_true] at *
  all_goals omega
set_option maxRecDepth 20000 in
theorem lf_i_arePairs_6 (boats : Nat) (rtapeF : Nat → Int32) (x : Int32) (y3 : Int32) (k11 : Nat) (n14 : Nat) (y18 : Int32) (y26 : Int32) (y29 : Int32) (iv_a_5 : boats ≤ 6) (c1 : ¬ x < nI 2) (c2 : ¬ nI 12 < x) (e4 : y3 = x - x / (nI 2) * (nI 2)) (c5 : y3 = 0) (c6 : x ≤ nI 940) (j12 : k11 ≤ 12) (hm16 : 12 - k11 < n14 + 1) (c17 : ¬ x ≤ nI (k11 + 1)) (e19 : y18 = rtapeF k11) (t22 : 0 ≤ y18.toInt) (t23 : y18.toInt < boats) (e27 : y26 = rtapeF (k11 + 1)) (c28 : ¬ y26 < 0) (e30 : y29 = rtapeF (k11 + 1)) (c31 : y29 ≤ nI 1) : (k11 + 2) ≤ 12 := by
  have b_x := ia_b x
  have b_y3 := ia_b y3
  have b_y18 := ia_b y18
  have b_y26 := ia_b y26
  have b_y29 := ia_b y29
  try have k_0 := ia_n 2 (by first | decide | omega)
  try have k_1 := ia_n 12 (by first | decide | omega)
  try have k_2 := ia_n 940 (by first | decide | omega)
  try have k_3 := ia_n (k11 + 1) (by first | decide | omega)
  try have k_4 := ia_n 1 (by first | decide | omega)
  try simp only [ia_lt, ia_le, ia_eq, ia_m1, ia_0, ia_1, ne_eq, true_and, and_true, false_and, and_false, or_false, false_or, or_true, true_or, not_true_eq_false, not_false_eq_true] at *
  all_goals omega
set_option maxRecDepth 20000 in
theorem lf_i_arePairs_7 (boats : Nat) (rtapeF : Nat → Int32) (x : Int32) (y3 : Int32) (k11 : Nat) (n14 : Nat) (y18 : Int32) (y26 : Int32) (y29 : Int32) (iv_a_5 : boats ≤ 6) (c1 : ¬ x < nI 2) (c2 : ¬ nI 12 < x) (e4 : y3 = x - x / (nI 2) * (nI 2)) (c5 : y3 = 0) (c6 : x ≤ nI 940) (j12 : k11 ≤ 12) (hm16 : 12 - k11 < n14 + 1) (c17 : ¬ x ≤ nI (k11 + 1)) (e19 : y18 = rtapeF k11) (t22 : 0 ≤ y18.toInt) (t23 : y18.toInt < boats) (e27 : y26 = rtapeF (k11 + 1)) (c28 : ¬ y26 < 0) (e30 : y29 = rtapeF (k11 + 1)) (c31 : y29 ≤ nI 1) : 12 - (k11 + 2) < n14 := by
  have b_x := ia_b x
  have b_y3 := ia_b y3
  have b_y18 := ia_b y18
  have b_y26 := ia_b y26
  have b_y29 := ia_b y29
  try have k_0 := ia_n 2 (by first | decide | omega)
  try have k_1 := ia_n 12 (by first | decide | omega)
  try have k_2 := ia_n 940 (by first | decide | omega)
  try have k_3 := ia_n (k11 + 1) (by first | decide | omega)
  try have k_4 := ia_n 1 (by first | decide | omega)
  try simp only [ia_lt, ia_le, ia_eq, ia_m1, ia_0, ia_1, ne_eq, true_and, and_true, false_and, and_false, or_false, false_or, or_true, true_or, not_true_eq_false, not_false_eq_true] at *
  all_goals omega
set_option maxRecDepth 20000 in
theorem lf_i_arePairs_8   : (nI 0) = nI 0 ∨ (nI 0) = nI 1 := by
  try have k_0 := ia_n 0 (by first | decide | omega)
  try have k_1 := ia_n 1 (by first | decide | omega)
  try simp only [ia_lt, ia_le, ia_eq, ia_m1, ia_0, ia_1, ne_eq, true_and, and_true, false_and, and_false, or_false, false_or, or_true, true_or, not_true_eq_false, not_false_eq_true] at *
  all_goals omega
set_option maxRecDepth 20000 in
theorem lf_i_arePairs_9   : (nI 0) = nI 0 ∨ (nI 0) = nI 1 := by
  try have k_0 := ia_n 0 (by first | decide | omega)
  try have k_1 := ia_n 1 (by first | decide | omega)
  try simp only [ia_lt, ia_le, ia_eq, ia_m1, ia_0, ia_1, ne_eq, true_and, and_true, false_and, and_false, or_false, false_or, or_true, true_or, not_true_eq_false, not_false_eq_true] at *
  all_goals omega
set_option maxRecDepth 20000 in
theorem lf_i_arePairs_10   : 0 ≤ 12 := by
  try simp only [ia_lt, ia_le, ia_eq, ia_m1, ia_0, ia_1, ne_eq, true_and, and_true, false_and, and_false, or_false, false_or, or_true, true_or, not_true_eq_false, not_false_eq_true] at *
  all_goals omega
set_option maxRecDepth 20000 in
theorem lf_i_arePairs_11   : (nI 0) = nI 0 ∨ (nI 0) = nI 1 := by
  try have k_0 := ia_n 0 (by first | decide | omega)
  try have k_1 := ia_n 1 (by first | decide | omega)
  try simp only [ia_lt, ia_le, ia_eq, ia_m1, ia_0, ia_1, ne_eq, true_and, and_true, false_and, and_false, or_false, false_or, or_true, true_or, not_true_eq_false, not_false_eq_true] at *
  all_goals omega
set_option maxHeartbeats 4000000 in
set_option maxRecDepth 100000 in
theorem c_i_arePairs (l : Launch) (dC : Nat → ClassId) (dI : Nat → Nat → Nat) (ky : Nat → ClassId) (a : Nat) (wide : Nat) (high : Nat) (heat : Int32) (cools : Int32) (skinHeat : Int32) (today : Int32) (stirs : Int32) (steps : Int32) (lumps : Nat) (boats : Nat) (thickness : Nat) (lumpNames : Nat) (lumpCells : Nat) (boatNames : Nat) (boatCells : Nat) (loads : Nat) (spoons : Nat) (spoonsLeft : Nat) (depths : Nat) (rtape : Nat) (rtapeF : Nat → Int32) (x : Int32) (iv_a_0 : 2 ≤ wide) (iv_a_1 : wide ≤ 6) (iv_a_2 : 2 ≤ high) (iv_a_3 : high ≤ 6) (iv_a_4 : lumps ≤ 6) (iv_a_5 : boats ≤ 6) : Met l yX10_arePairs wsX10_arePairs ({ frames := 1, cells := 0, slots := 0, locals := 21 }) (PcP dC dI ky [.ref a, .ref rtape, .int x] [(a, .inr (7, [.int (nI wide), .int (nI high), .int heat, .int cools, .int skinHeat, .int today, .int stirs, .int steps, .int (nI lumps), .int (nI boats), .ref thickness, .ref lumpNames, .ref lumpCells, .ref boatNames, .ref boatCells, .ref loads, .ref spoons, .ref spoonsLeft, .ref depths])), (rtape, .inl (ky 2, 940, .inl rtapeF))]) (vp_Si (fun r : Int32 => r = nI 0 ∨ r = nI 1)) 0 0 (fun _ => False) := by
  refine Met.ofW (cc := cX10_arePairs) (maxL := 4) (ret := (some .boolean)) (by decide) rfl ?_
  intro p e s m args below meth c s₁ B hml hv
  obtain ⟨rfl, hP, hK⟩ := hv
  have hx := B.exec
  have hb := B.bytes
  have hr := B.returns
  have hts := atoms_spec (ws := wsX10_arePairs) B.pre
  have hown : s.vm.findClass RX10 = some m.cls := findClass_of_methodNamed B.named
  have hlocks := B.notSynchronized
  have hl := lv_entry ([.ref a, .ref rtape, .int x]) (n := 4) (Nat.le_of_ble_eq_true rfl)
  rw [lg_entry_eq]
  generalize (lg_sl ([.ref a, .ref rtape, .int x]) ++ List.replicate (4 - (lg_sl ([.ref a, .ref rtape, .int x])).length) Slot.unset).toArray = ls at hl ⊢
  have hl : lv_has ls 4 [(0, .ref a), (1, .ref rtape), (2, .int x)] := hl
  refine q_name (fun Q hQ => ?_)
  generalize ([.ref a, .ref rtape, .int x] : List Value).toArray = args at hts hQ ⊢
  refine lv_iload_n hx hb dX10_arePairs_0 rfl (lv_at hl 2 rfl) ?_
  refine lv_iconst (v := nI 2) hx hb dX10_arePairs_1 (by decide) ?_
  refine lv_icmp_lt (tgt := 23) hx hb dX10_arePairs_2 (by decide) (fun c1 => ?_) (fun c1 => ?_)
  · refine lv_iconst (v := nI 0) hx hb dX10_arePairs_23 (by decide) ?_
    rw [hQ]
    exact W.zret (v := nI 0) hx hb hr (by decide) (fun t9 ht9 hW9 => ⟨nI 0, rfl, (lf_i_arePairs_1), ht9⟩) (fun _ h => absurd h List.not_mem_nil) dX10_arePairs_24
  · refine lv_iload_n hx hb dX10_arePairs_5 rfl (lv_at hl 2 rfl) ?_
    refine lv_bipush (v := nI 12) hx hb dX10_arePairs_6 (by decide) ?_
    refine lv_icmp_gt (tgt := 23) hx hb dX10_arePairs_8 (by decide) (fun c2 => ?_) (fun c2 => ?_)
    · refine lv_iconst (v := nI 0) hx hb dX10_arePairs_23 (by decide) ?_
      rw [hQ]
      exact W.zret (v := nI 0) hx hb hr (by decide) (fun t9 ht9 hW9 => ⟨nI 0, rfl, (lf_i_arePairs_2), ht9⟩) (fun _ h => absurd h List.not_mem_nil) dX10_arePairs_24
    · refine lv_iload_n hx hb dX10_arePairs_11 rfl (lv_at hl 2 rfl) ?_
      refine lv_iconst (v := nI 2) hx hb dX10_arePairs_12 (by decide) ?_
      refine lv_irem hx hb dX10_arePairs_13 (by decide) ?_
      refine lv_topi (fun y3 e4 => ?_)
      refine lv_if_ne (tgt := 23) hx hb dX10_arePairs_14 (by decide) (fun c5 => ?_) (fun c5 => ?_)
      · refine lv_iconst (v := nI 0) hx hb dX10_arePairs_23 (by decide) ?_
        rw [hQ]
        exact W.zret (v := nI 0) hx hb hr (by decide) (fun t9 ht9 hW9 => ⟨nI 0, rfl, (lf_i_arePairs_3), ht9⟩) (fun _ h => absurd h List.not_mem_nil) dX10_arePairs_24
      · refine lv_iload_n hx hb dX10_arePairs_17 rfl (lv_at hl 2 rfl) ?_
        refine lv_aload_n hx hb dX10_arePairs_18 rfl (lv_at hl 1 rfl) ?_
        refine va_alen (v := nI 940) hx hb hK hP 1 2 rfl rfl rfl dX10_arePairs_19 ?_
        refine lv_icmp_le (tgt := 25) hx hb dX10_arePairs_20 (by decide) (fun c6 => ?_) (fun c6 => ?_)
        · refine lv_iconst (v := nI 0) hx hb dX10_arePairs_25 (by decide) ?_
          refine lv_istore_n (lv' := [(3, .int (nI 0)), (0, .ref a), (1, .ref rtape), (2, .int x)]) hx hb dX10_arePairs_26 rfl hl (by decide) rfl (fun ls hl => ?_)
          have hL13 : ∀ (n14 : Nat) (k11 : Nat), (k11 ≤ 12) → 12 - k11 < n14 → ∀ (ls : Array Slot), lv_has ls 4 [(3, .int (nI k11)), (0, .ref a), (1, .ref rtape), (2, .int x)] → W p l e (headSpec wsX10_arePairs ({ frames := 1, cells := 0, slots := 0, locals := 21 })).room s m args below meth c s.heap [] 0 0 Q (F0 m 27 ls []) := by
            intro n14
            induction n14 with
            | zero => intro k11 _ h9; exact absurd h9 (Nat.not_lt_zero _)
            | succ n14 ih15 =>
              intro k11 j12 hm16 ls hl
              refine lv_iload_n hx hb dX10_arePairs_27 rfl (lv_at hl 0 rfl) ?_
              refine lv_iconst (v := nI 1) hx hb dX10_arePairs_28 (by decide) ?_
              refine lv_iadd hx hb dX10_arePairs_29 ?_
              refine r_ti (nI (k11 + 1)) (nI_add _ _) ?_
              refine lv_iload_n hx hb dX10_arePairs_30 rfl (lv_at hl 3 rfl) ?_
              refine lv_icmp_ge (tgt := 69) hx hb dX10_arePairs_31 (by decide) (fun c17 => ?_) (fun c17 => ?_)
              · refine lv_iconst (v := nI 1) hx hb dX10_arePairs_69 (by decide) ?_
                rw [hQ]
                exact W.zret (v := nI 1) hx hb hr (by decide) (fun t9 ht9 hW9 => ⟨nI 1, rfl, (lf_i_arePairs_4), ht9⟩) (fun _ h => absurd h List.not_mem_nil) dX10_arePairs_70
              · refine lv_aload_n hx hb dX10_arePairs_34 rfl (lv_at hl 1 rfl) ?_
                refine lv_aload_n hx hb dX10_arePairs_35 rfl (lv_at hl 2 rfl) ?_
                refine lv_iload_n hx hb dX10_arePairs_36 rfl (lv_at hl 0 rfl) ?_
                obtain ⟨y18, e19⟩ : ∃ z9, z9 = rtapeF k11 := ⟨_, rfl⟩
                refine r_bald hx hb hK hP 1 rfl k11 (by omega) (by decide) y18 e19.symm dX10_arePairs_37 ?_
                refine vp_callSi (W.runV (As := [.int y18]) (rest := []) ⟨hx, hb, hml, hown, hts⟩ (c_s_isBoat l dC dI ky a wide high heat cools skinHeat today stirs steps lumps boats thickness lumpNames lumpCells boatNames boatCells loads spoons spoonsLeft depths y18 iv_a_0 iv_a_1 iv_a_2 iv_a_3 iv_a_4 iv_a_5) (cwV 1 hts gX10_arePairs_X7_isBoat rfl rfl rfl (by decide +kernel) ⟨(Nat.le_of_ble_eq_true rfl), (Nat.le_of_ble_eq_true rfl)⟩) (pre_PV hK hP [0] rfl (ci := 7) (q0 := 0) rfl rfl) rfl rfl hl.1 rfl (lv_room (Nat.le_of_ble_eq_true rfl)) dX10_arePairs_38 ⟨(Nat.le_of_ble_eq_true rfl), (Nat.le_of_ble_eq_true rfl)⟩) (fun r20 p21 => ?_)
                rcases p21 with ⟨rfl, t22, t23⟩ | ⟨rfl, t24⟩
                · refine lv_if_eq (tgt := 61) hx hb dX10_arePairs_41 (by decide) (fun c25 => absurd c25 (by decide)) (fun c25 => ?_)
                  refine lv_aload_n hx hb dX10_arePairs_44 rfl (lv_at hl 2 rfl) ?_
                  refine lv_iload_n hx hb dX10_arePairs_45 rfl (lv_at hl 0 rfl) ?_
                  refine lv_iconst (v := nI 1) hx hb dX10_arePairs_46 (by decide) ?_
                  refine lv_iadd hx hb dX10_arePairs_47 ?_
                  refine r_ti (nI (k11 + 1)) (nI_add _ _) ?_
                  obtain ⟨y26, e27⟩ : ∃ z9, z9 = rtapeF (k11 + 1) := ⟨_, rfl⟩
                  refine r_bald hx hb hK hP 1 rfl (k11 + 1) (by omega) (by decide) y26 e27.symm dX10_arePairs_48 ?_
                  refine lv_if_lt (tgt := 61) hx hb dX10_arePairs_49 (by decide) (fun c28 => ?_) (fun c28 => ?_)
                  · refine lv_iconst (v := nI 0) hx hb dX10_arePairs_61 (by decide) ?_
                    rw [hQ]
                    exact W.zret (v := nI 0) hx hb hr (by decide) (fun t9 ht9 hW9 => ⟨nI 0, rfl, (lf_i_arePairs_5), ht9⟩) (fun _ h => absurd h List.not_mem_nil) dX10_arePairs_62
                  · refine lv_aload_n hx hb dX10_arePairs_52 rfl (lv_at hl 2 rfl) ?_
                    refine lv_iload_n hx hb dX10_arePairs_53 rfl (lv_at hl 0 rfl) ?_
                    refine lv_iconst (v := nI 1) hx hb dX10_arePairs_54 (by decide) ?_
                    refine lv_iadd hx hb dX10_arePairs_55 ?_
                    refine r_ti (nI (k11 + 1)) (nI_add _ _) ?_
                    obtain ⟨y29, e30⟩ : ∃ z9, z9 = rtapeF (k11 + 1) := ⟨_, rfl⟩
                    refine r_bald hx hb hK hP 1 rfl (k11 + 1) (by omega) (by decide) y29 e30.symm dX10_arePairs_56 ?_
                    refine lv_iconst (v := nI 1) hx hb dX10_arePairs_57 (by decide) ?_
                    refine lv_icmp_le (tgt := 63) hx hb dX10_arePairs_58 (by decide) (fun c31 => ?_) (fun c31 => ?_)
                    · refine lv_iinc (v := nI (k11 + 2)) (lv' := [(3, .int (nI (k11 + 2))), (0, .ref a), (1, .ref rtape), (2, .int x)]) hx hb dX10_arePairs_63 hl (k := 0) rfl (show nI k11 + nI 2 = nI (k11 + 2) from nI_add _ _) (by decide) rfl (fun ls hl => ?_)
                      refine lv_goto (tgt := 27) hx hb dX10_arePairs_66 (by decide) ?_
                      exact ih15 (k11 + 2) (lf_i_arePairs_6 boats rtapeF x y3 k11 n14 y18 y26 y29 iv_a_5 c1 c2 e4 c5 c6 j12 hm16 c17 e19 t22 t23 e27 c28 e30 c31) (lf_i_arePairs_7 boats rtapeF x y3 k11 n14 y18 y26 y29 iv_a_5 c1 c2 e4 c5 c6 j12 hm16 c17 e19 t22 t23 e27 c28 e30 c31) _ (lv_sub hl [0, 1, 2, 3] rfl)
                    · refine lv_iconst (v := nI 0) hx hb dX10_arePairs_61 (by decide) ?_
                      rw [hQ]
                      exact W.zret (v := nI 0) hx hb hr (by decide) (fun t9 ht9 hW9 => ⟨nI 0, rfl, (lf_i_arePairs_8), ht9⟩) (fun _ h => absurd h List.not_mem_nil) dX10_arePairs_62
                · refine lv_if_eq (tgt := 61) hx hb dX10_arePairs_41 (by decide) (fun c32 => ?_) (fun c32 => absurd (by decide) c32)
                  refine lv_iconst (v := nI 0) hx hb dX10_arePairs_61 (by decide) ?_
                  rw [hQ]
                  exact W.zret (v := nI 0) hx hb hr (by decide) (fun t9 ht9 hW9 => ⟨nI 0, rfl, (lf_i_arePairs_9), ht9⟩) (fun _ h => absurd h List.not_mem_nil) dX10_arePairs_62
          exact hL13 ((12 - 0) + 1) 0 (lf_i_arePairs_10) (Nat.lt_succ_self _) _ (lv_sub hl [0, 1, 2, 3] rfl)
        · refine lv_iconst (v := nI 0) hx hb dX10_arePairs_23 (by decide) ?_
          rw [hQ]
          exact W.zret (v := nI 0) hx hb hr (by decide) (fun t9 ht9 hW9 => ⟨nI 0, rfl, (lf_i_arePairs_11), ht9⟩) (fun _ h => absurd h List.not_mem_nil) dX10_arePairs_24
set_option maxRecDepth 20000 in
theorem lf_i_allDoSo_1   : (nI 1) = nI 0 ∨ (nI 1) = nI 1 := by
  try have k_0 := ia_n 1 (by first | decide | omega)
  try have k_1 := ia_n 0 (by first | decide | omega)
  try simp only [ia_lt, ia_le, ia_eq, ia_m1, ia_0, ia_1, ne_eq, true_and, and_true, false_and, and_false, or_false, false_or, or_true, true_or, not_true_eq_false, not_false_eq_true] at *
  all_goals omega
set_option maxRecDepth 20000 in
theorem lf_i_allDoSo_2   : (nI 1) = nI 0 ∨ (nI 1) = nI 1 := by
  try have k_0 := ia_n 1 (by first | decide | omega)
  try have k_1 := ia_n 0 (by first | decide | omega)
  try simp only [ia_lt, ia_le, ia_eq, ia_m1, ia_0, ia_1, ne_eq, true_and, and_true, false_and, and_false, or_false, false_or, or_true, true_or, not_true_eq_false, not_false_eq_true] at *
  all_goals omega
set_option maxRecDepth 20000 in
theorem lf_i_allDoSo_3 (rtapeF : Nat → Int32) (x : Int32) (k5 : Nat) (n8 : Nat) (y13 : Int32) (y17 : Int32) (j6 : k5 ≤ 940) (hm10 : 940 - k5 < n8 + 1) (c11 : ¬ x ≤ nI (k5 + 1)) (c12 : (k5 + 1) < 940) (e14 : y13 = rtapeF k5) (e18 : y17 = rtapeF (k5 + 1)) (c19 : y17 ≠ nI 1) : (k5 + 2) ≤ 940 := by
  have b_x := ia_b x
  have b_y13 := ia_b y13
  have b_y17 := ia_b y17
  try have k_0 := ia_n (k5 + 1) (by first | decide | omega)
  try have k_1 := ia_n 1 (by first | decide | omega)
  try simp only [ia_lt, ia_le, ia_eq, ia_m1, ia_0, ia_1, ne_eq, true_and, and_true, false_and, and_false, or_false, false_or, or_true, true_or, not_true_eq_false, not_false_eq_true] at *
  all_goals omega
set_option maxRecDepth 20000 in
theorem lf_i_allDoSo_4 (rtapeF : Nat → Int32) (x : Int32) (k5 : Nat) (n8 : Nat) (y13 : Int32) (y17 : Int32) (j6 : k5 ≤ 940) (hm10 : 940 - k5 < n8 + 1) (c11 : ¬ x ≤ nI (k5 + 1)) (c12 : (k5 + 1) < 940) (e14 : y13 = rtapeF k5) (e18 : y17 = rtapeF (k5 + 1)) (c19 : y17 ≠ nI 1) : 940 - (k5 + 2) < n8 := by
  have b_x := ia_b x
  have b_y13 := ia_b y13
  have b_y17 := ia_b y17
  try have k_0 := ia_n (k5 + 1) (by first | decide | omega)
  try have k_1 := ia_n 1 (by first | decide | omega)
  try simp only [ia_lt, ia_le, ia_eq, ia_m1, ia_0, ia_1, ne_eq, true_and, and_true, false_and, and_false, or_false, false_or, or_true, true_or, not_true_eq_false, not_false_eq_true] at *
  all_goals omega
set_option maxRecDepth 20000 in
theorem lf_i_allDoSo_5   : (nI 0) = nI 0 ∨ (nI 0) = nI 1 := by
  try have k_0 := ia_n 0 (by first | decide | omega)
  try have k_1 := ia_n 1 (by first | decide | omega)
  try simp only [ia_lt, ia_le, ia_eq, ia_m1, ia_0, ia_1, ne_eq, true_and, and_true, false_and, and_false, or_false, false_or, or_true, true_or, not_true_eq_false, not_false_eq_true] at *
  all_goals omega
set_option maxRecDepth 20000 in
theorem lf_i_allDoSo_6 (rtapeF : Nat → Int32) (x : Int32) (k5 : Nat) (n8 : Nat) (y13 : Int32) (y17 : Int32) (j6 : k5 ≤ 940) (hm10 : 940 - k5 < n8 + 1) (c11 : ¬ x ≤ nI (k5 + 1)) (c12 : (k5 + 1) < 940) (e14 : y13 = rtapeF k5) (e18 : y17 = rtapeF (k5 + 1)) (c19 : y17 = nI 1) : (k5 + 2) ≤ 940 := by
  have b_x := ia_b x
  have b_y13 := ia_b y13
  have b_y17 := ia_b y17
  try have k_0 := ia_n (k5 + 1) (by first | decide | omega)
  try have k_1 := ia_n 1 (by first | decide | omega)
  try simp only [ia_lt, ia_le, ia_eq, ia_m1, ia_0, ia_1, ne_eq, true_and, and_true, false_and, and_false, or_false, false_or, or_true, true_or, not_true_eq_false, not_false_eq_true] at *
  all_goals omega
set_option maxRecDepth 20000 in
theorem lf_i_allDoSo_7 (rtapeF : Nat → Int32) (x : Int32) (k5 : Nat) (n8 : Nat) (y13 : Int32) (y17 : Int32) (j6 : k5 ≤ 940) (hm10 : 940 - k5 < n8 + 1) (c11 : ¬ x ≤ nI (k5 + 1)) (c12 : (k5 + 1) < 940) (e14 : y13 = rtapeF k5) (e18 : y17 = rtapeF (k5 + 1)) (c19 : y17 = nI 1) : 940 - (k5 + 2) < n8 := by
  have b_x := ia_b x
  have b_y13 := ia_b y13
  have b_y17 := ia_b y17
  try have k_0 := ia_n (k5 + 1) (by first | decide | omega)
  try have k_1 := ia_n 1 (by first | decide | omega)
  try simp only [ia_lt, ia_le, ia_eq, ia_m1, ia_0, ia_1, ne_eq, true_and, and_true, false_and, and_false, or_false, false_or, or_true, true_or, not_true_eq_false, not_false_eq_true] at *
  all_goals omega
set_option maxRecDepth 20000 in
theorem lf_i_allDoSo_8   : (nI 0) = nI 0 ∨ (nI 0) = nI 1 := by
  try have k_0 := ia_n 0 (by first | decide | omega)
  try have k_1 := ia_n 1 (by first | decide | omega)
  try simp only [ia_lt, ia_le, ia_eq, ia_m1, ia_0, ia_1, ne_eq, true_and, and_true, false_and, and_false, or_false, false_or, or_true, true_or, not_true_eq_false, not_false_eq_true] at *
  all_goals omega
set_option maxRecDepth 20000 in
theorem lf_i_allDoSo_9   : 0 ≤ 940 := by
  try simp only [ia_lt, ia_le, ia_eq, ia_m1, ia_0, ia_1, ne_eq, true_and, and_true, false_and, and_false, or_false, false_or, or_true, true_or, not_true_eq_false, not_false_eq_true] at *
  all_goals omega
set_option maxHeartbeats 4000000 in
set_option maxRecDepth 100000 in
theorem c_i_allDoSo (l : Launch) (dC : Nat → ClassId) (dI : Nat → Nat → Nat) (ky : Nat → ClassId) (a : Nat) (wide : Nat) (high : Nat) (heat : Int32) (cools : Int32) (skinHeat : Int32) (today : Int32) (stirs : Int32) (steps : Int32) (lumps : Nat) (boats : Nat) (thickness : Nat) (lumpNames : Nat) (lumpCells : Nat) (boatNames : Nat) (boatCells : Nat) (loads : Nat) (spoons : Nat) (spoonsLeft : Nat) (depths : Nat) (thicknessF : Nat → Int32) (lumpCellsF : Nat → Int32) (loadsF : Nat → Int32) (rtape : Nat) (rtapeF : Nat → Int32) (y : Int32) (x : Int32) (iv_a_0 : 2 ≤ wide) (iv_a_1 : wide ≤ 6) (iv_a_2 : 2 ≤ high) (iv_a_3 : high ≤ 6) (iv_a_4 : lumps ≤ 6) (iv_a_5 : boats ≤ 6) : Met l yX10_allDoSo wsX10_allDoSo ({ frames := 2, cells := 0, slots := 0, locals := 44 }) (PcP dC dI ky [.ref a, .int y, .ref rtape, .int x] [(a, .inr (7, [.int (nI wide), .int (nI high), .int heat, .int cools, .int skinHeat, .int today, .int stirs, .int steps, .int (nI lumps), .int (nI boats), .ref thickness, .ref lumpNames, .ref lumpCells, .ref boatNames, .ref boatCells, .ref loads, .ref spoons, .ref spoonsLeft, .ref depths])), (thickness, .inl (ky 0, 36, .inl thicknessF)), (lumpCells, .inl (ky 0, 6, .inl lumpCellsF)), (loads, .inl (ky 0, 6, .inl loadsF)), (rtape, .inl (ky 2, 940, .inl rtapeF))]) (vp_Si (fun r : Int32 => r = nI 0 ∨ r = nI 1)) 0 0 (fun _ => False) := by
  refine Met.ofW (cc := cX10_allDoSo) (maxL := 5) (ret := (some .boolean)) (by decide) rfl ?_
  intro p e s m args below meth c s₁ B hml hv
  obtain ⟨rfl, hP, hK⟩ := hv
  have hx := B.exec
  have hb := B.bytes
  have hr := B.returns
  have hts := atoms_spec (ws := wsX10_allDoSo) B.pre
  have hown : s.vm.findClass RX10 = some m.cls := findClass_of_methodNamed B.named
  have hlocks := B.notSynchronized
  have hl := lv_entry ([.ref a, .int y, .ref rtape, .int x]) (n := 5) (Nat.le_of_ble_eq_true rfl)
  rw [lg_entry_eq]
  generalize (lg_sl ([.ref a, .int y, .ref rtape, .int x]) ++ List.replicate (5 - (lg_sl ([.ref a, .int y, .ref rtape, .int x])).length) Slot.unset).toArray = ls at hl ⊢
  have hl : lv_has ls 5 [(0, .ref a), (1, .int y), (2, .ref rtape), (3, .int x)] := hl
  refine q_name (fun Q hQ => ?_)
  generalize ([.ref a, .int y, .ref rtape, .int x] : List Value).toArray = args at hts hQ ⊢
  refine lv_iconst (v := nI 0) hx hb dX10_allDoSo_0 (by decide) ?_
  refine lv_istore (lv' := [(4, .int (nI 0)), (0, .ref a), (1, .int y), (2, .ref rtape), (3, .int x)]) hx hb dX10_allDoSo_1 hl (by decide) rfl (fun ls hl => ?_)
  have hL7 : ∀ (n8 : Nat) (k5 : Nat), (k5 ≤ 940) → 940 - k5 < n8 → ∀ (ls : Array Slot), lv_has ls 5 [(4, .int (nI k5)), (0, .ref a), (1, .int y), (2, .ref rtape), (3, .int x)] → W p l e (headSpec wsX10_allDoSo ({ frames := 2, cells := 0, slots := 0, locals := 44 })).room s m args below meth c s.heap [] 0 0 Q (F0 m 3 ls []) := by
    intro n8
    induction n8 with
    | zero => intro k5 _ h9; exact absurd h9 (Nat.not_lt_zero _)
    | succ n8 ih9 =>
      intro k5 j6 hm10 ls hl
      refine lv_iload hx hb dX10_allDoSo_3 (lv_at hl 0 rfl) ?_
      refine lv_iconst (v := nI 1) hx hb dX10_allDoSo_5 (by decide) ?_
      refine lv_iadd hx hb dX10_allDoSo_6 ?_
      refine r_ti (nI (k5 + 1)) (nI_add _ _) ?_
      refine lv_iload_n hx hb dX10_allDoSo_7 rfl (lv_at hl 4 rfl) ?_
      refine lv_icmp_ge (tgt := 55) hx hb dX10_allDoSo_8 (by decide) (fun c11 => ?_) (fun c11 => ?_)
      · refine lv_iconst (v := nI 1) hx hb dX10_allDoSo_55 (by decide) ?_
        rw [hQ]
        exact W.zret (v := nI 1) hx hb hr (by decide) (fun t9 ht9 hW9 => ⟨nI 1, rfl, (lf_i_allDoSo_1), ht9⟩) (fun _ h => absurd h List.not_mem_nil) dX10_allDoSo_56
      · refine lv_iload hx hb dX10_allDoSo_11 (lv_at hl 0 rfl) ?_
        refine lv_iconst (v := nI 1) hx hb dX10_allDoSo_13 (by decide) ?_
        refine lv_iadd hx hb dX10_allDoSo_14 ?_
        refine r_ti (nI (k5 + 1)) (nI_add _ _) ?_
        refine lv_aload_n hx hb dX10_allDoSo_15 rfl (lv_at hl 3 rfl) ?_
        refine va_alen (v := nI 940) hx hb hK hP 4 2 rfl rfl rfl dX10_allDoSo_16 ?_
        refine n_icmp_ge (x := (k5 + 1)) (y := 940) (tgt := 55) hx hb (by omega) (by omega) dX10_allDoSo_17 (by decide) (fun c12 => ?_) (fun c12 => ?_)
        · refine lv_iconst (v := nI 1) hx hb dX10_allDoSo_55 (by decide) ?_
          rw [hQ]
          exact W.zret (v := nI 1) hx hb hr (by decide) (fun t9 ht9 hW9 => ⟨nI 1, rfl, (lf_i_allDoSo_2), ht9⟩) (fun _ h => absurd h List.not_mem_nil) dX10_allDoSo_56
        · refine lv_aload_n hx hb dX10_allDoSo_20 rfl (lv_at hl 1 rfl) ?_
          refine lv_aload_n hx hb dX10_allDoSo_21 rfl (lv_at hl 3 rfl) ?_
          refine lv_iload hx hb dX10_allDoSo_22 (lv_at hl 0 rfl) ?_
          obtain ⟨y13, e14⟩ : ∃ z9, z9 = rtapeF k5 := ⟨_, rfl⟩
          refine r_bald hx hb hK hP 4 rfl k5 (by omega) (by decide) y13 e14.symm dX10_allDoSo_24 ?_
          refine lv_iload_n hx hb dX10_allDoSo_25 rfl (lv_at hl 2 rfl) ?_
          refine vp_callSi (W.runV (As := [.int y13, .int y]) (rest := []) ⟨hx, hb, hml, hown, hts⟩ (c_s_wouldFloat l dC dI ky a wide high heat cools skinHeat today stirs steps lumps boats thickness lumpNames lumpCells boatNames boatCells loads spoons spoonsLeft depths thicknessF lumpCellsF loadsF y13 y iv_a_0 iv_a_1 iv_a_2 iv_a_3 iv_a_4 iv_a_5) (cwV 2 hts gX10_allDoSo_X7_wouldFloat rfl rfl rfl (by decide +kernel) ⟨(Nat.le_of_ble_eq_true rfl), (Nat.le_of_ble_eq_true rfl)⟩) (pre_PV hK hP [0, 1, 2, 3] rfl (ci := 7) (q0 := 0) rfl rfl) rfl rfl hl.1 rfl (lv_room (Nat.le_of_ble_eq_true rfl)) dX10_allDoSo_26 ⟨(Nat.le_of_ble_eq_true rfl), (Nat.le_of_ble_eq_true rfl)⟩) (fun r15 p16 => ?_)
          refine lv_aload_n hx hb dX10_allDoSo_29 rfl (lv_at hl 3 rfl) ?_
          refine lv_iload hx hb dX10_allDoSo_30 (lv_at hl 0 rfl) ?_
          refine lv_iconst (v := nI 1) hx hb dX10_allDoSo_32 (by decide) ?_
          refine lv_iadd hx hb dX10_allDoSo_33 ?_
          refine r_ti (nI (k5 + 1)) (nI_add _ _) ?_
          obtain ⟨y17, e18⟩ : ∃ z9, z9 = rtapeF (k5 + 1) := ⟨_, rfl⟩
          refine r_bald hx hb hK hP 4 rfl (k5 + 1) (by omega) (by decide) y17 e18.symm dX10_allDoSo_34 ?_
          refine lv_iconst (v := nI 1) hx hb dX10_allDoSo_35 (by decide) ?_
          refine lv_icmp_ne (tgt := 43) hx hb dX10_allDoSo_36 (by decide) (fun c19 => ?_) (fun c19 => ?_)
          · refine lv_iconst (v := nI 0) hx hb dX10_allDoSo_43 (by decide) ?_
            refine lv_icmp_eq (tgt := 49) hx hb dX10_allDoSo_44 (by decide) (fun c20 => ?_) (fun c20 => ?_)
            · refine lv_iinc (v := nI (k5 + 2)) (lv' := [(4, .int (nI (k5 + 2))), (0, .ref a), (1, .int y), (2, .ref rtape), (3, .int x)]) hx hb dX10_allDoSo_49 hl (k := 0) rfl (show nI k5 + nI 2 = nI (k5 + 2) from nI_add _ _) (by decide) rfl (fun ls hl => ?_)
              refine lv_goto (tgt := 3) hx hb dX10_allDoSo_52 (by decide) ?_
              exact ih9 (k5 + 2) (lf_i_allDoSo_3 rtapeF x k5 n8 y13 y17 j6 hm10 c11 c12 e14 e18 c19) (lf_i_allDoSo_4 rtapeF x k5 n8 y13 y17 j6 hm10 c11 c12 e14 e18 c19) _ (lv_sub hl [0, 1, 2, 3, 4] rfl)
            · refine lv_iconst (v := nI 0) hx hb dX10_allDoSo_47 (by decide) ?_
              rw [hQ]
              exact W.zret (v := nI 0) hx hb hr (by decide) (fun t9 ht9 hW9 => ⟨nI 0, rfl, (lf_i_allDoSo_5), ht9⟩) (fun _ h => absurd h List.not_mem_nil) dX10_allDoSo_48
          · refine lv_iconst (v := nI 1) hx hb dX10_allDoSo_39 (by decide) ?_
            refine lv_goto (tgt := 44) hx hb dX10_allDoSo_40 (by decide) ?_
            refine lv_icmp_eq (tgt := 49) hx hb dX10_allDoSo_44 (by decide) (fun c21 => ?_) (fun c21 => ?_)
            · refine lv_iinc (v := nI (k5 + 2)) (lv' := [(4, .int (nI (k5 + 2))), (0, .ref a), (1, .int y), (2, .ref rtape), (3, .int x)]) hx hb dX10_allDoSo_49 hl (k := 0) rfl (show nI k5 + nI 2 = nI (k5 + 2) from nI_add _ _) (by decide) rfl (fun ls hl => ?_)
              refine lv_goto (tgt := 3) hx hb dX10_allDoSo_52 (by decide) ?_
              exact ih9 (k5 + 2) (lf_i_allDoSo_6 rtapeF x k5 n8 y13 y17 j6 hm10 c11 c12 e14 e18 c19) (lf_i_allDoSo_7 rtapeF x k5 n8 y13 y17 j6 hm10 c11 c12 e14 e18 c19) _ (lv_sub hl [0, 1, 2, 3, 4] rfl)
            · refine lv_iconst (v := nI 0) hx hb dX10_allDoSo_47 (by decide) ?_
              rw [hQ]
              exact W.zret (v := nI 0) hx hb hr (by decide) (fun t9 ht9 hW9 => ⟨nI 0, rfl, (lf_i_allDoSo_8), ht9⟩) (fun _ h => absurd h List.not_mem_nil) dX10_allDoSo_48
  exact hL7 ((940 - 0) + 1) 0 (lf_i_allDoSo_9) (Nat.lt_succ_self _) _ (lv_sub hl [0, 1, 2, 3, 4] rfl)
set_option maxRecDepth 20000 in
theorem lf_i_mostLeft_1 (k8 : Nat) (n12 : Nat) (j10 : k8 ≤ 36) (hm14 : 36 - k8 < n12 + 1) (c15 : k8 < 36) : (k8 + 1) ≤ 36 := by
  try simp only [ia_lt, ia_le, ia_eq, ia_m1, ia_0, ia_1, ne_eq, true_and, and_true, false_and, and_false, or_false, false_or, or_true, true_or, not_true_eq_false, not_false_eq_true] at *
  all_goals omega
set_option maxRecDepth 20000 in
theorem lf_i_mostLeft_2 (k8 : Nat) (n12 : Nat) (j10 : k8 ≤ 36) (hm14 : 36 - k8 < n12 + 1) (c15 : k8 < 36) : 36 - (k8 + 1) < n12 := by
  try simp only [ia_lt, ia_le, ia_eq, ia_m1, ia_0, ia_1, ne_eq, true_and, and_true, false_and, and_false, or_false, false_or, or_true, true_or, not_true_eq_false, not_false_eq_true] at *
  all_goals omega
set_option maxRecDepth 20000 in
theorem lf_i_mostLeft_3 (k8 : Nat) (n12 : Nat) (j10 : k8 ≤ 36) (hm14 : 36 - k8 < n12 + 1) (c15 : k8 < 36) : (k8 + 1) ≤ 36 := by
  try simp only [ia_lt, ia_le, ia_eq, ia_m1, ia_0, ia_1, ne_eq, true_and, and_true, false_and, and_false, or_false, false_or, or_true, true_or, not_true_eq_false, not_false_eq_true] at *
  all_goals omega
set_option maxRecDepth 20000 in
theorem lf_i_mostLeft_4 (k8 : Nat) (n12 : Nat) (j10 : k8 ≤ 36) (hm14 : 36 - k8 < n12 + 1) (c15 : k8 < 36) : 36 - (k8 + 1) < n12 := by
  try simp only [ia_lt, ia_le, ia_eq, ia_m1, ia_0, ia_1, ne_eq, true_and, and_true, false_and, and_false, or_false, false_or, or_true, true_or, not_true_eq_false, not_false_eq_true] at *
  all_goals omega
set_option maxRecDepth 20000 in
theorem lf_i_mostLeft_5 (k8 : Nat) (n12 : Nat) (j10 : k8 ≤ 36) (hm14 : 36 - k8 < n12 + 1) (c15 : k8 < 36) : (k8 + 1) ≤ 36 := by
  try simp only [ia_lt, ia_le, ia_eq, ia_m1, ia_0, ia_1, ne_eq, true_and, and_true, false_and, and_false, or_false, false_or, or_true, true_or, not_true_eq_false, not_false_eq_true] at *
  all_goals omega
set_option maxRecDepth 20000 in
theorem lf_i_mostLeft_6 (k8 : Nat) (n12 : Nat) (j10 : k8 ≤ 36) (hm14 : 36 - k8 < n12 + 1) (c15 : k8 < 36) : 36 - (k8 + 1) < n12 := by
  try simp only [ia_lt, ia_le, ia_eq, ia_m1, ia_0, ia_1, ne_eq, true_and, and_true, false_and, and_false, or_false, false_or, or_true, true_or, not_true_eq_false, not_false_eq_true] at *
  all_goals omega
set_option maxRecDepth 20000 in
theorem lf_i_mostLeft_7   : (nI 0) = nI 0 ∨ (nI 0) = nI 1 := by
  try have k_0 := ia_n 0 (by first | decide | omega)
  try have k_1 := ia_n 1 (by first | decide | omega)
  try simp only [ia_lt, ia_le, ia_eq, ia_m1, ia_0, ia_1, ne_eq, true_and, and_true, false_and, and_false, or_false, false_or, or_true, true_or, not_true_eq_false, not_false_eq_true] at *
  all_goals omega
set_option maxRecDepth 20000 in
theorem lf_i_mostLeft_8   : (nI 1) = nI 0 ∨ (nI 1) = nI 1 := by
  try have k_0 := ia_n 1 (by first | decide | omega)
  try have k_1 := ia_n 0 (by first | decide | omega)
  try simp only [ia_lt, ia_le, ia_eq, ia_m1, ia_0, ia_1, ne_eq, true_and, and_true, false_and, and_false, or_false, false_or, or_true, true_or, not_true_eq_false, not_false_eq_true] at *
  all_goals omega
set_option maxRecDepth 20000 in
theorem lf_i_mostLeft_9   : 0 ≤ 36 := by
  try simp only [ia_lt, ia_le, ia_eq, ia_m1, ia_0, ia_1, ne_eq, true_and, and_true, false_and, and_false, or_false, false_or, or_true, true_or, not_true_eq_false, not_false_eq_true] at *
  all_goals omega
set_option maxHeartbeats 4000000 in
set_option maxRecDepth 100000 in
theorem c_i_mostLeft (l : Launch) (dC : Nat → ClassId) (dI : Nat → Nat → Nat) (ky : Nat → ClassId) (si : Nat) (icellBits : Int64) (ibestBoat : Int32) (a : Nat) (wide : Nat) (high : Nat) (heat : Int32) (cools : Int32) (skinHeat : Int32) (today : Int32) (stirs : Int32) (steps : Int32) (lumps : Nat) (boats : Nat) (thickness : Nat) (lumpNames : Nat) (lumpCells : Nat) (boatNames : Nat) (boatCells : Nat) (loads : Nat) (spoons : Nat) (spoonsLeft : Nat) (depths : Nat) (thicknessF : Nat → Int32) (lumpCellsF : Nat → Int32) (loadsF : Nat → Int32) (x : Int32) (iv_a_0 : 2 ≤ wide) (iv_a_1 : wide ≤ 6) (iv_a_2 : 2 ≤ high) (iv_a_3 : high ≤ 6) (iv_a_4 : lumps ≤ 6) (iv_a_5 : boats ≤ 6) : Met l yX10_mostLeft wsX10_mostLeft ({ frames := 2, cells := 0, slots := 0, locals := 44 }) (PcP dC dI ky [.ref si, .ref a, .int x] [(si, .inr (10, [.long icellBits, .int ibestBoat])), (a, .inr (7, [.int (nI wide), .int (nI high), .int heat, .int cools, .int skinHeat, .int today, .int stirs, .int steps, .int (nI lumps), .int (nI boats), .ref thickness, .ref lumpNames, .ref lumpCells, .ref boatNames, .ref boatCells, .ref loads, .ref spoons, .ref spoonsLeft, .ref depths])), (thickness, .inl (ky 0, 36, .inl thicknessF)), (lumpCells, .inl (ky 0, 6, .inl lumpCellsF)), (loads, .inl (ky 0, 6, .inl loadsF))]) (vp_Si (fun r : Int32 => True)) 0 0 (fun _ => False) := by
  refine Met.ofW (cc := cX10_mostLeft) (maxL := 6) (ret := (some .int)) (by decide) rfl ?_
  intro p e s m args below meth c s₁ B hml hv
  obtain ⟨rfl, hP, hK⟩ := hv
  have hx := B.exec
  have hb := B.bytes
  have hr := B.returns
  have hts := atoms_spec (ws := wsX10_mostLeft) B.pre
  have hown : s.vm.findClass RX10 = some m.cls := findClass_of_methodNamed B.named
  have hlocks := B.notSynchronized
  have hin10 : ∀ w ∈ u_ws RX10 TX10 2, w ∈ wsX10_mostLeft := by decide +kernel
  have hl := lv_entry ([.ref si, .ref a, .int x]) (n := 6) (Nat.le_of_ble_eq_true rfl)
  rw [lg_entry_eq]
  generalize (lg_sl ([.ref si, .ref a, .int x]) ++ List.replicate (6 - (lg_sl ([.ref si, .ref a, .int x])).length) Slot.unset).toArray = ls at hl ⊢
  have hl : lv_has ls 6 [(0, .ref si), (1, .ref a), (2, .int x)] := hl
  refine q_name (fun Q hQ => ?_)
  generalize ([.ref si, .ref a, .int x] : List Value).toArray = args at hts hQ ⊢
  refine lv_iconst (v := nI 0) hx hb dX10_mostLeft_0 (by decide) ?_
  refine lv_istore_n (lv' := [(3, .int (nI 0)), (0, .ref si), (1, .ref a), (2, .int x)]) hx hb dX10_mostLeft_1 rfl hl (by decide) rfl (fun ls hl => ?_)
  refine lv_iconst (v := nI 0) hx hb dX10_mostLeft_2 (by decide) ?_
  refine lv_istore (lv' := [(4, .int (nI 0)), (3, .int (nI 0)), (0, .ref si), (1, .ref a), (2, .int x)]) hx hb dX10_mostLeft_3 hl (by decide) rfl (fun ls hl => ?_)
  have hL11 : ∀ (n12 : Nat) (k8 : Nat) (x9 : Int32), (k8 ≤ 36) → 36 - k8 < n12 → ∀ (ls : Array Slot), lv_has ls 6 [(4, .int (nI k8)), (3, .int x9), (0, .ref si), (1, .ref a), (2, .int x)] → W p l e (headSpec wsX10_mostLeft ({ frames := 2, cells := 0, slots := 0, locals := 44 })).room s m args below meth c s.heap [] 0 0 Q (F0 m 5 ls []) := by
    intro n12
    induction n12 with
    | zero => intro k8 x9 _ h9; exact absurd h9 (Nat.not_lt_zero _)
    | succ n12 ih13 =>
      intro k8 x9 j10 hm14 ls hl
      refine lv_iload hx hb dX10_mostLeft_5 (lv_at hl 0 rfl) ?_
      refine lv_bipush (v := nI 36) hx hb dX10_mostLeft_7 (by decide) ?_
      refine n_icmp_ge (x := k8) (y := 36) (tgt := 62) hx hb (by omega) (by omega) dX10_mostLeft_9 (by decide) (fun c15 => ?_) (fun c15 => ?_)
      · refine lv_iload_n hx hb dX10_mostLeft_62 rfl (lv_at hl 1 rfl) ?_
        refine lv_aload_n hx hb dX10_mostLeft_63 rfl (lv_at hl 2 rfl) ?_
        refine va_get (D := (dC, dI)) (ci := 10) (v := .long icellBits) (C := RX10) (T := TX10) (N := 2) hx hb hts hin10 hown hK hP 0 rfl rfl 0 (by decide) (hts (.fieldLink RX10 9 "PorridgeSea$Sighting" "cellBits" "J") (List.mem_of_getElem? (i := 1) rfl)) (fun _ h9 => h9) rfl dX10_mostLeft_64 ?_
        refine vp_callSi (W.runS (As := [.long icellBits]) (rest := [.int x9]) ⟨hx, hb, hml, hown, hts⟩ (c_j_bitL l dC dI ky icellBits) (va_cwS 1 hts gX10_mostLeft_J13_bitCount_95d88 rfl rfl rfl (by decide +kernel) ⟨(Nat.le_of_ble_eq_true rfl), (Nat.le_of_ble_eq_true rfl)⟩) (pre_PS hK hP [] rfl) rfl rfl hl.1 rfl (lv_room (Nat.le_of_ble_eq_true rfl)) dX10_mostLeft_67 ⟨(Nat.le_of_ble_eq_true rfl), (Nat.le_of_ble_eq_true rfl)⟩) (fun r16 p17 => ?_)
        refine lv_iload_n hx hb dX10_mostLeft_70 rfl (lv_at hl 1 rfl) ?_
        refine lv_isub hx hb dX10_mostLeft_71 ?_
        refine lv_topi (fun y18 e19 => ?_)
        refine va_mmax hx hb (by rw [hml]; exact hl.1.symm) hown (hts _ (List.mem_of_getElem? (i := 2) rfl)) (hts _ (List.mem_of_getElem? (i := 3) rfl)) (hts _ (List.mem_of_getElem? (i := 4) rfl)) (hts _ (List.mem_of_getElem? (i := 5) rfl)) (Nat.le_of_ble_eq_true rfl) (Nat.le_of_ble_eq_true rfl) (Nat.le_of_ble_eq_true rfl) (Nat.le_of_ble_eq_true rfl) dX10_mostLeft_72 ?_
        refine lv_topi (fun y20 e21 => ?_)
        rw [hQ]
        exact W.iret (v := y20) hx hb hr (fun t9 ht9 hW9 => ⟨y20, rfl, trivial, ht9⟩) (fun _ h => absurd h List.not_mem_nil) dX10_mostLeft_75
      · refine lv_aload_n hx hb dX10_mostLeft_12 rfl (lv_at hl 2 rfl) ?_
        refine va_get (D := (dC, dI)) (ci := 10) (v := .long icellBits) (C := RX10) (T := TX10) (N := 2) hx hb hts hin10 hown hK hP 0 rfl rfl 0 (by decide) (hts (.fieldLink RX10 9 "PorridgeSea$Sighting" "cellBits" "J") (List.mem_of_getElem? (i := 1) rfl)) (fun _ h9 => h9) rfl dX10_mostLeft_13 ?_
        refine lv_iload hx hb dX10_mostLeft_16 (lv_at hl 0 rfl) ?_
        obtain ⟨w22, e23⟩ : ∃ z9 : Int64, z9 = icellBits >>> ((nI k8).toInt64 &&& 63) := ⟨_, rfl⟩
        refine lv_lshr (v := w22) hx hb dX10_mostLeft_18 e23.symm ?_
        refine lv_lconst (v := 1) hx hb dX10_mostLeft_19 (by decide) ?_
        refine lv_land hx hb dX10_mostLeft_20 ?_
        refine lv_topl (fun w24 e25 => ?_)
        refine lv_lconst (v := 1) hx hb dX10_mostLeft_21 (by decide) ?_
        refine W.lcmp hx hb dX10_mostLeft_22 ?_
        refine lv_topi (fun y26 e27 => ?_)
        have hJ31 : ∀ (x29 : Int32), (x29 = nI 0 ∨ x29 = nI 1) → ∀ (ls : Array Slot), lv_has ls 6 [(4, .int (nI k8)), (3, .int x9), (0, .ref si), (1, .ref a), (2, .int x)] → W p l e (headSpec wsX10_mostLeft ({ frames := 2, cells := 0, slots := 0, locals := 44 })).room s m args below meth c s.heap [] 0 0 Q (F0 m 31 ls [.int x29]) := by
          intro x29 j30 ls hl
          refine lv_istore (lv' := [(5, .int x29), (4, .int (nI k8)), (3, .int x9), (0, .ref si), (1, .ref a), (2, .int x)]) hx hb dX10_mostLeft_31 hl (by decide) rfl (fun ls hl => ?_)
          refine lv_iload_n hx hb dX10_mostLeft_33 rfl (lv_at hl 2 rfl) ?_
          refine lv_iload hx hb dX10_mostLeft_34 (lv_at hl 0 rfl) ?_
          refine lv_if_eq (tgt := 53) hx hb dX10_mostLeft_36 (by decide) (fun c32 => ?_) (fun c32 => ?_)
          · refine lv_iconst (v := nI 0) hx hb dX10_mostLeft_53 (by decide) ?_
            refine lv_iadd hx hb dX10_mostLeft_54 ?_
            refine lv_topi (fun y33 e34 => ?_)
            refine lv_istore_n (lv' := [(3, .int y33), (5, .int x29), (4, .int (nI k8)), (0, .ref si), (1, .ref a), (2, .int x)]) hx hb dX10_mostLeft_55 rfl hl (by decide) rfl (fun ls hl => ?_)
            refine lv_iinc (v := nI (k8 + 1)) (lv' := [(4, .int (nI (k8 + 1))), (3, .int y33), (5, .int x29), (0, .ref si), (1, .ref a), (2, .int x)]) hx hb dX10_mostLeft_56 hl (k := 2) rfl (show nI k8 + nI 1 = nI (k8 + 1) from nI_add _ _) (by decide) rfl (fun ls hl => ?_)
            refine lv_goto (tgt := 5) hx hb dX10_mostLeft_59 (by decide) ?_
            exact ih13 (k8 + 1) y33 (lf_i_mostLeft_1 k8 n12 j10 hm14 c15) (lf_i_mostLeft_2 k8 n12 j10 hm14 c15) _ (lv_sub hl [0, 1, 3, 4, 5] rfl)
          · refine lv_aload_n hx hb dX10_mostLeft_39 rfl (lv_at hl 4 rfl) ?_
            refine lv_iload_n hx hb dX10_mostLeft_40 rfl (lv_at hl 5 rfl) ?_
            refine lv_iload hx hb dX10_mostLeft_41 (lv_at hl 1 rfl) ?_
            refine vp_callSi (W.runV (As := [.int x, .int (nI k8)]) (rest := [.int x9]) ⟨hx, hb, hml, hown, hts⟩ (c_s_wouldFloat l dC dI ky a wide high heat cools skinHeat today stirs steps lumps boats thickness lumpNames lumpCells boatNames boatCells loads spoons spoonsLeft depths thicknessF lumpCellsF loadsF x (nI k8) iv_a_0 iv_a_1 iv_a_2 iv_a_3 iv_a_4 iv_a_5) (cwV 2 hts gX10_mostLeft_X7_wouldFloat rfl rfl rfl (by decide +kernel) ⟨(Nat.le_of_ble_eq_true rfl), (Nat.le_of_ble_eq_true rfl)⟩) (pre_PV hK hP [1, 2, 3, 4] rfl (ci := 7) (q0 := 1) rfl rfl) rfl rfl hl.1 rfl (lv_room (Nat.le_of_ble_eq_true rfl)) dX10_mostLeft_43 ⟨(Nat.le_of_ble_eq_true rfl), (Nat.le_of_ble_eq_true rfl)⟩) (fun r35 p36 => ?_)
            refine lv_if_eq (tgt := 53) hx hb dX10_mostLeft_46 (by decide) (fun c37 => ?_) (fun c37 => ?_)
            · refine lv_iconst (v := nI 0) hx hb dX10_mostLeft_53 (by decide) ?_
              refine lv_iadd hx hb dX10_mostLeft_54 ?_
              refine lv_topi (fun y38 e39 => ?_)
              refine lv_istore_n (lv' := [(3, .int y38), (5, .int x29), (4, .int (nI k8)), (0, .ref si), (1, .ref a), (2, .int x)]) hx hb dX10_mostLeft_55 rfl hl (by decide) rfl (fun ls hl => ?_)
              refine lv_iinc (v := nI (k8 + 1)) (lv' := [(4, .int (nI (k8 + 1))), (3, .int y38), (5, .int x29), (0, .ref si), (1, .ref a), (2, .int x)]) hx hb dX10_mostLeft_56 hl (k := 2) rfl (show nI k8 + nI 1 = nI (k8 + 1) from nI_add _ _) (by decide) rfl (fun ls hl => ?_)
              refine lv_goto (tgt := 5) hx hb dX10_mostLeft_59 (by decide) ?_
              exact ih13 (k8 + 1) y38 (lf_i_mostLeft_3 k8 n12 j10 hm14 c15) (lf_i_mostLeft_4 k8 n12 j10 hm14 c15) _ (lv_sub hl [0, 1, 3, 4, 5] rfl)
            · refine lv_iconst (v := nI 1) hx hb dX10_mostLeft_49 (by decide) ?_
              refine lv_goto (tgt := 54) hx hb dX10_mostLeft_50 (by decide) ?_
              refine lv_iadd hx hb dX10_mostLeft_54 ?_
              refine lv_topi (fun y40 e41 => ?_)
              refine lv_istore_n (lv' := [(3, .int y40), (5, .int x29), (4, .int (nI k8)), (0, .ref si), (1, .ref a), (2, .int x)]) hx hb dX10_mostLeft_55 rfl hl (by decide) rfl (fun ls hl => ?_)
              refine lv_iinc (v := nI (k8 + 1)) (lv' := [(4, .int (nI (k8 + 1))), (3, .int y40), (5, .int x29), (0, .ref si), (1, .ref a), (2, .int x)]) hx hb dX10_mostLeft_56 hl (k := 2) rfl (show nI k8 + nI 1 = nI (k8 + 1) from nI_add _ _) (by decide) rfl (fun ls hl => ?_)
              refine lv_goto (tgt := 5) hx hb dX10_mostLeft_59 (by decide) ?_
              exact ih13 (k8 + 1) y40 (lf_i_mostLeft_5 k8 n12 j10 hm14 c15) (lf_i_mostLeft_6 k8 n12 j10 hm14 c15) _ (lv_sub hl [0, 1, 3, 4, 5] rfl)
        refine lv_if_ne (tgt := 30) hx hb dX10_mostLeft_23 (by decide) (fun c28 => ?_) (fun c28 => ?_)
        · refine lv_iconst (v := nI 0) hx hb dX10_mostLeft_30 (by decide) ?_
          exact hJ31 (nI 0) (lf_i_mostLeft_7) _ (lv_sub hl [0, 1, 2, 3, 4] rfl)
        · refine lv_iconst (v := nI 1) hx hb dX10_mostLeft_26 (by decide) ?_
          refine lv_goto (tgt := 31) hx hb dX10_mostLeft_27 (by decide) ?_
          exact hJ31 (nI 1) (lf_i_mostLeft_8) _ (lv_sub hl [0, 1, 2, 3, 4] rfl)
  exact hL11 ((36 - 0) + 1) 0 (nI 0) (lf_i_mostLeft_9) (Nat.lt_succ_self _) _ (lv_sub hl [0, 1, 2, 3, 4] rfl)
set_option maxRecDepth 20000 in
theorem lf_i_boatToSend_1 (boats : Nat) (k9 : Nat) (n14 : Nat) (iv_a_5 : boats ≤ 6) (j12 : k9 ≤ 6) (hm16 : 6 - k9 < n14 + 1) (c17 : k9 < boats) (p19 : True) : (k9 + 1) ≤ 6 := by
  try simp only [ia_lt, ia_le, ia_eq, ia_m1, ia_0, ia_1, ne_eq, true_and, and_true, false_and, and_false, or_false, false_or, or_true, true_or, not_true_eq_false, not_false_eq_true] at *
  all_goals omega
set_option maxRecDepth 20000 in
theorem lf_i_boatToSend_2 (boats : Nat) (k9 : Nat) (n14 : Nat) (iv_a_5 : boats ≤ 6) (j12 : k9 ≤ 6) (hm16 : 6 - k9 < n14 + 1) (c17 : k9 < boats) (p19 : True) : 6 - (k9 + 1) < n14 := by
  try simp only [ia_lt, ia_le, ia_eq, ia_m1, ia_0, ia_1, ne_eq, true_and, and_true, false_and, and_false, or_false, false_or, or_true, true_or, not_true_eq_false, not_false_eq_true] at *
  all_goals omega
set_option maxRecDepth 20000 in
theorem lf_i_boatToSend_3 (boats : Nat) (k9 : Nat) (n14 : Nat) (iv_a_5 : boats ≤ 6) (j12 : k9 ≤ 6) (hm16 : 6 - k9 < n14 + 1) (c17 : k9 < boats) (p19 : True) : (k9 + 1) ≤ 6 := by
  try simp only [ia_lt, ia_le, ia_eq, ia_m1, ia_0, ia_1, ne_eq, true_and, and_true, false_and, and_false, or_false, false_or, or_true, true_or, not_true_eq_false, not_false_eq_true] at *
  all_goals omega
set_option maxRecDepth 20000 in
theorem lf_i_boatToSend_4 (boats : Nat) (k9 : Nat) (n14 : Nat) (iv_a_5 : boats ≤ 6) (j12 : k9 ≤ 6) (hm16 : 6 - k9 < n14 + 1) (c17 : k9 < boats) (p19 : True) : 6 - (k9 + 1) < n14 := by
  try simp only [ia_lt, ia_le, ia_eq, ia_m1, ia_0, ia_1, ne_eq, true_and, and_true, false_and, and_false, or_false, false_or, or_true, true_or, not_true_eq_false, not_false_eq_true] at *
  all_goals omega
set_option maxRecDepth 20000 in
theorem lf_i_boatToSend_5   : 0 ≤ 6 := by
  try simp only [ia_lt, ia_le, ia_eq, ia_m1, ia_0, ia_1, ne_eq, true_and, and_true, false_and, and_false, or_false, false_or, or_true, true_or, not_true_eq_false, not_false_eq_true] at *
  all_goals omega
set_option maxHeartbeats 4000000 in
set_option maxRecDepth 100000 in
theorem c_i_boatToSend (l : Launch) (dC : Nat → ClassId) (dI : Nat → Nat → Nat) (ky : Nat → ClassId) (si : Nat) (icellBits : Int64) (ibestBoat : Int32) (a : Nat) (wide : Nat) (high : Nat) (heat : Int32) (cools : Int32) (skinHeat : Int32) (today : Int32) (stirs : Int32) (steps : Int32) (lumps : Nat) (boats : Nat) (thickness : Nat) (lumpNames : Nat) (lumpCells : Nat) (boatNames : Nat) (boatCells : Nat) (loads : Nat) (spoons : Nat) (spoonsLeft : Nat) (depths : Nat) (thicknessF : Nat → Int32) (lumpCellsF : Nat → Int32) (loadsF : Nat → Int32) (iv_a_0 : 2 ≤ wide) (iv_a_1 : wide ≤ 6) (iv_a_2 : 2 ≤ high) (iv_a_3 : high ≤ 6) (iv_a_4 : lumps ≤ 6) (iv_a_5 : boats ≤ 6) : Met l yX10_boatToSend wsX10_boatToSend ({ frames := 3, cells := 0, slots := 0, locals := 69 }) (PcP dC dI ky [.ref si, .ref a] [(si, .inr (10, [.long icellBits, .int ibestBoat])), (a, .inr (7, [.int (nI wide), .int (nI high), .int heat, .int cools, .int skinHeat, .int today, .int stirs, .int steps, .int (nI lumps), .int (nI boats), .ref thickness, .ref lumpNames, .ref lumpCells, .ref boatNames, .ref boatCells, .ref loads, .ref spoons, .ref spoonsLeft, .ref depths])), (thickness, .inl (ky 0, 36, .inl thicknessF)), (lumpCells, .inl (ky 0, 6, .inl lumpCellsF)), (loads, .inl (ky 0, 6, .inl loadsF))]) (vp_Si (fun r : Int32 => True)) 0 0 (fun _ => False) := by
  refine Met.ofW (cc := cX10_boatToSend) (maxL := 6) (ret := (some .int)) (by decide) rfl ?_
  intro p e s m args below meth c s₁ B hml hv
  obtain ⟨rfl, hP, hK⟩ := hv
  have hx := B.exec
  have hb := B.bytes
  have hr := B.returns
  have hts := atoms_spec (ws := wsX10_boatToSend) B.pre
  have hown : s.vm.findClass RX10 = some m.cls := findClass_of_methodNamed B.named
  have hlocks := B.notSynchronized
  have hin7 : ∀ w ∈ u_ws RX7 TX7 19, w ∈ wsX10_boatToSend := by decide +kernel
  have hl := lv_entry ([.ref si, .ref a]) (n := 6) (Nat.le_of_ble_eq_true rfl)
  rw [lg_entry_eq]
  generalize (lg_sl ([.ref si, .ref a]) ++ List.replicate (6 - (lg_sl ([.ref si, .ref a])).length) Slot.unset).toArray = ls at hl ⊢
  have hl : lv_has ls 6 [(0, .ref si), (1, .ref a)] := hl
  refine q_name (fun Q hQ => ?_)
  generalize ([.ref si, .ref a] : List Value).toArray = args at hts hQ ⊢
  refine lv_iconst (v := (-1 : Int32)) hx hb dX10_boatToSend_0 (by decide) ?_
  refine lv_istore_n (lv' := [(2, .int (-1 : Int32)), (0, .ref si), (1, .ref a)]) hx hb dX10_boatToSend_1 rfl hl (by decide) rfl (fun ls hl => ?_)
  refine lv_bipush (v := nI 37) hx hb dX10_boatToSend_2 (by decide) ?_
  refine lv_istore_n (lv' := [(3, .int (nI 37)), (2, .int (-1 : Int32)), (0, .ref si), (1, .ref a)]) hx hb dX10_boatToSend_4 rfl hl (by decide) rfl (fun ls hl => ?_)
  refine lv_iconst (v := nI 0) hx hb dX10_boatToSend_5 (by decide) ?_
  refine lv_istore (lv' := [(4, .int (nI 0)), (3, .int (nI 37)), (2, .int (-1 : Int32)), (0, .ref si), (1, .ref a)]) hx hb dX10_boatToSend_6 hl (by decide) rfl (fun ls hl => ?_)
  have hL13 : ∀ (n14 : Nat) (k9 : Nat) (x10 : Int32) (x11 : Int32), (k9 ≤ 6) → 6 - k9 < n14 → ∀ (ls : Array Slot), lv_has ls 6 [(4, .int (nI k9)), (3, .int x10), (2, .int x11), (0, .ref si), (1, .ref a)] → W p l e (headSpec wsX10_boatToSend ({ frames := 3, cells := 0, slots := 0, locals := 69 })).room s m args below meth c s.heap [] 0 0 Q (F0 m 8 ls []) := by
    intro n14
    induction n14 with
    | zero => intro k9 x10 x11 _ h9; exact absurd h9 (Nat.not_lt_zero _)
    | succ n14 ih15 =>
      intro k9 x10 x11 j12 hm16 ls hl
      refine lv_iload hx hb dX10_boatToSend_8 (lv_at hl 0 rfl) ?_
      refine lv_aload_n hx hb dX10_boatToSend_10 rfl (lv_at hl 4 rfl) ?_
      refine va_get (D := (dC, dI)) (ci := 7) (v := .int (nI boats)) (C := RX7) (T := TX7) (N := 19) hx hb hts hin7 hown hK hP 1 rfl rfl 9 (by decide) (hts (.fieldLink RX10 50 "PorridgeSea$Sea" "boats" "I") (List.mem_of_getElem? (i := 1) rfl)) (fun _ h9 => h9) rfl dX10_boatToSend_11 ?_
      refine n_icmp_ge (x := k9) (y := boats) (tgt := 44) hx hb (by omega) (by omega) dX10_boatToSend_14 (by decide) (fun c17 => ?_) (fun c17 => ?_)
      · refine lv_iload_n hx hb dX10_boatToSend_44 rfl (lv_at hl 2 rfl) ?_
        rw [hQ]
        exact W.iret (v := x11) hx hb hr (fun t9 ht9 hW9 => ⟨x11, rfl, trivial, ht9⟩) (fun _ h => absurd h List.not_mem_nil) dX10_boatToSend_45
      · refine lv_aload_n hx hb dX10_boatToSend_17 rfl (lv_at hl 3 rfl) ?_
        refine lv_aload_n hx hb dX10_boatToSend_18 rfl (lv_at hl 4 rfl) ?_
        refine lv_iload hx hb dX10_boatToSend_19 (lv_at hl 0 rfl) ?_
        refine vp_callSi (W.runV (As := [.ref a, .int (nI k9)]) (rest := []) ⟨hx, hb, hml, hown, hts⟩ (c_i_mostLeft l dC dI ky si icellBits ibestBoat a wide high heat cools skinHeat today stirs steps lumps boats thickness lumpNames lumpCells boatNames boatCells loads spoons spoonsLeft depths thicknessF lumpCellsF loadsF (nI k9) iv_a_0 iv_a_1 iv_a_2 iv_a_3 iv_a_4 iv_a_5) (cwV 2 hts gX10_boatToSend_X10_mostLeft rfl rfl rfl (by decide +kernel) ⟨(Nat.le_of_ble_eq_true rfl), (Nat.le_of_ble_eq_true rfl)⟩) (pre_PV hK hP [0, 1, 2, 3, 4] rfl (ci := 10) (q0 := 0) rfl rfl) rfl rfl hl.1 rfl (lv_room (Nat.le_of_ble_eq_true rfl)) dX10_boatToSend_21 ⟨(Nat.le_of_ble_eq_true rfl), (Nat.le_of_ble_eq_true rfl)⟩) (fun r18 p19 => ?_)
        refine lv_istore (lv' := [(5, .int r18), (4, .int (nI k9)), (3, .int x10), (2, .int x11), (0, .ref si), (1, .ref a)]) hx hb dX10_boatToSend_24 hl (by decide) rfl (fun ls hl => ?_)
        refine lv_iload hx hb dX10_boatToSend_26 (lv_at hl 0 rfl) ?_
        refine lv_iload_n hx hb dX10_boatToSend_28 rfl (lv_at hl 2 rfl) ?_
        refine lv_icmp_ge (tgt := 38) hx hb dX10_boatToSend_29 (by decide) (fun c20 => ?_) (fun c20 => ?_)
        · refine lv_iinc (v := nI (k9 + 1)) (lv' := [(4, .int (nI (k9 + 1))), (5, .int r18), (3, .int x10), (2, .int x11), (0, .ref si), (1, .ref a)]) hx hb dX10_boatToSend_38 hl (k := 1) rfl (show nI k9 + nI 1 = nI (k9 + 1) from nI_add _ _) (by decide) rfl (fun ls hl => ?_)
          refine lv_goto (tgt := 8) hx hb dX10_boatToSend_41 (by decide) ?_
          exact ih15 (k9 + 1) x10 x11 (lf_i_boatToSend_1 boats k9 n14 iv_a_5 j12 hm16 c17 p19) (lf_i_boatToSend_2 boats k9 n14 iv_a_5 j12 hm16 c17 p19) _ (lv_sub hl [0, 2, 3, 4, 5] rfl)
        · refine lv_iload hx hb dX10_boatToSend_32 (lv_at hl 1 rfl) ?_
          refine lv_istore_n (lv' := [(2, .int (nI k9)), (5, .int r18), (4, .int (nI k9)), (3, .int x10), (0, .ref si), (1, .ref a)]) hx hb dX10_boatToSend_34 rfl hl (by decide) rfl (fun ls hl => ?_)
          refine lv_iload hx hb dX10_boatToSend_35 (lv_at hl 1 rfl) ?_
          refine lv_istore_n (lv' := [(3, .int r18), (2, .int (nI k9)), (5, .int r18), (4, .int (nI k9)), (0, .ref si), (1, .ref a)]) hx hb dX10_boatToSend_37 rfl hl (by decide) rfl (fun ls hl => ?_)
          refine lv_iinc (v := nI (k9 + 1)) (lv' := [(4, .int (nI (k9 + 1))), (3, .int r18), (2, .int (nI k9)), (5, .int r18), (0, .ref si), (1, .ref a)]) hx hb dX10_boatToSend_38 hl (k := 3) rfl (show nI k9 + nI 1 = nI (k9 + 1) from nI_add _ _) (by decide) rfl (fun ls hl => ?_)
          refine lv_goto (tgt := 8) hx hb dX10_boatToSend_41 (by decide) ?_
          exact ih15 (k9 + 1) r18 (nI k9) (lf_i_boatToSend_3 boats k9 n14 iv_a_5 j12 hm16 c17 p19) (lf_i_boatToSend_4 boats k9 n14 iv_a_5 j12 hm16 c17 p19) _ (lv_sub hl [0, 1, 2, 4, 5] rfl)
  exact hL13 ((6 - 0) + 1) 0 (nI 37) (-1 : Int32) (lf_i_boatToSend_5) (Nat.lt_succ_self _) _ (lv_sub hl [0, 1, 2, 3, 4] rfl)
set_option maxRecDepth 20000 in
theorem lf_i_look_1 (wide : Nat) (high : Nat) (k10 : Nat) (n14 : Nat) (iv_a_0 : 2 ≤ wide) (iv_a_1 : wide ≤ 6) (iv_a_2 : 2 ≤ high) (iv_a_3 : high ≤ 6) (j12 : k10 ≤ 36) (hm16 : 36 - k10 < n14 + 1) (c17 : k10 < 36) (t29 : 0 ≤ (nI (k10 % 6)).toInt) (t30 : (nI (k10 % 6)).toInt < wide) (t31 : 0 ≤ (nI (k10 / 6)).toInt) (t32 : (nI (k10 / 6)).toInt < high) : (k10 + 1) ≤ 36 := by
  try have k_0 := ia_n (k10 % 6) (by first | decide | omega)
  try have k_1 := ia_n (k10 / 6) (by first | decide | omega)
  try simp only [ia_lt, ia_le, ia_eq, ia_m1, ia_0, ia_1, ne_eq, true_and, and_true, false_and, and_false, or_false, false_or, or_true, true_or, not_true_eq_false, not_false_eq_true] at *
  all_goals omega
set_option maxRecDepth 20000 in
theorem lf_i_look_2 (wide : Nat) (high : Nat) (k10 : Nat) (n14 : Nat) (iv_a_0 : 2 ≤ wide) (iv_a_1 : wide ≤ 6) (iv_a_2 : 2 ≤ high) (iv_a_3 : high ≤ 6) (j12 : k10 ≤ 36) (hm16 : 36 - k10 < n14 + 1) (c17 : k10 < 36) (t29 : 0 ≤ (nI (k10 % 6)).toInt) (t30 : (nI (k10 % 6)).toInt < wide) (t31 : 0 ≤ (nI (k10 / 6)).toInt) (t32 : (nI (k10 / 6)).toInt < high) : 36 - (k10 + 1) < n14 := by
  try have k_0 := ia_n (k10 % 6) (by first | decide | omega)
  try have k_1 := ia_n (k10 / 6) (by first | decide | omega)
  try simp only [ia_lt, ia_le, ia_eq, ia_m1, ia_0, ia_1, ne_eq, true_and, and_true, false_and, and_false, or_false, false_or, or_true, true_or, not_true_eq_false, not_false_eq_true] at *
  all_goals omega
set_option maxRecDepth 20000 in
theorem lf_i_look_3 (wide : Nat) (high : Nat) (k10 : Nat) (n14 : Nat) (iv_a_0 : 2 ≤ wide) (iv_a_1 : wide ≤ 6) (iv_a_2 : 2 ≤ high) (iv_a_3 : high ≤ 6) (j12 : k10 ≤ 36) (hm16 : 36 - k10 < n14 + 1) (c17 : k10 < 36) (t29 : 0 ≤ (nI (k10 % 6)).toInt) (t30 : (nI (k10 % 6)).toInt < wide) (t31 : 0 ≤ (nI (k10 / 6)).toInt) (t32 : (nI (k10 / 6)).toInt < high) : (k10 + 1) ≤ 36 := by
  try have k_0 := ia_n (k10 % 6) (by first | decide | omega)
  try have k_1 := ia_n (k10 / 6) (by first | decide | omega)
  try simp only [ia_lt, ia_le, ia_eq, ia_m1, ia_0, ia_1, ne_eq, true_and, and_true, false_and, and_false, or_false, false_or, or_true, true_or, not_true_eq_false, not_false_eq_true] at *
  all_goals omega
set_option maxRecDepth 20000 in
theorem lf_i_look_4 (wide : Nat) (high : Nat) (k10 : Nat) (n14 : Nat) (iv_a_0 : 2 ≤ wide) (iv_a_1 : wide ≤ 6) (iv_a_2 : 2 ≤ high) (iv_a_3 : high ≤ 6) (j12 : k10 ≤ 36) (hm16 : 36 - k10 < n14 + 1) (c17 : k10 < 36) (t29 : 0 ≤ (nI (k10 % 6)).toInt) (t30 : (nI (k10 % 6)).toInt < wide) (t31 : 0 ≤ (nI (k10 / 6)).toInt) (t32 : (nI (k10 / 6)).toInt < high) : 36 - (k10 + 1) < n14 := by
  try have k_0 := ia_n (k10 % 6) (by first | decide | omega)
  try have k_1 := ia_n (k10 / 6) (by first | decide | omega)
  try simp only [ia_lt, ia_le, ia_eq, ia_m1, ia_0, ia_1, ne_eq, true_and, and_true, false_and, and_false, or_false, false_or, or_true, true_or, not_true_eq_false, not_false_eq_true] at *
  all_goals omega
set_option maxRecDepth 20000 in
theorem lf_i_look_5 (wide : Nat) (high : Nat) (k10 : Nat) (n14 : Nat) (iv_a_0 : 2 ≤ wide) (iv_a_1 : wide ≤ 6) (iv_a_2 : 2 ≤ high) (iv_a_3 : high ≤ 6) (j12 : k10 ≤ 36) (hm16 : 36 - k10 < n14 + 1) (c17 : k10 < 36) (t33 : ¬ (0 ≤ (nI (k10 % 6)).toInt ∧ (nI (k10 % 6)).toInt < wide ∧ 0 ≤ (nI (k10 / 6)).toInt ∧ (nI (k10 / 6)).toInt < high)) : (k10 + 1) ≤ 36 := by
  try have k_0 := ia_n (k10 % 6) (by first | decide | omega)
  try have k_1 := ia_n (k10 / 6) (by first | decide | omega)
  try simp only [ia_lt, ia_le, ia_eq, ia_m1, ia_0, ia_1, ne_eq, true_and, and_true, false_and, and_false, or_false, false_or, or_true, true_or, not_true_eq_false, not_false_eq_true] at *
  all_goals omega
set_option maxRecDepth 20000 in
theorem lf_i_look_6 (wide : Nat) (high : Nat) (k10 : Nat) (n14 : Nat) (iv_a_0 : 2 ≤ wide) (iv_a_1 : wide ≤ 6) (iv_a_2 : 2 ≤ high) (iv_a_3 : high ≤ 6) (j12 : k10 ≤ 36) (hm16 : 36 - k10 < n14 + 1) (c17 : k10 < 36) (t33 : ¬ (0 ≤ (nI (k10 % 6)).toInt ∧ (nI (k10 % 6)).toInt < wide ∧ 0 ≤ (nI (k10 / 6)).toInt ∧ (nI (k10 / 6)).toInt < high)) : 36 - (k10 + 1) < n14 := by
  try have k_0 := ia_n (k10 % 6) (by first | decide | omega)
  try have k_1 := ia_n (k10 / 6) (by first | decide | omega)
  try simp only [ia_lt, ia_le, ia_eq, ia_m1, ia_0, ia_1, ne_eq, true_and, and_true, false_and, and_false, or_false, false_or, or_true, true_or, not_true_eq_false, not_false_eq_true] at *
  all_goals omega
set_option maxRecDepth 20000 in
theorem lf_i_look_7   : 0 ≤ 36 := by
  try simp only [ia_lt, ia_le, ia_eq, ia_m1, ia_0, ia_1, ne_eq, true_and, and_true, false_and, and_false, or_false, false_or, or_true, true_or, not_true_eq_false, not_false_eq_true] at *
  all_goals omega
set_option maxHeartbeats 4000000 in
set_option maxRecDepth 100000 in
theorem c_i_look (l : Launch) (dC : Nat → ClassId) (dI : Nat → Nat → Nat) (ky : Nat → ClassId) (sz : Nat) (si : Nat) (icellBits : Int64) (ibestBoat : Int32) (a : Nat) (wide : Nat) (high : Nat) (heat : Int32) (cools : Int32) (skinHeat : Int32) (today : Int32) (stirs : Int32) (steps : Int32) (lumps : Nat) (boats : Nat) (thickness : Nat) (lumpNames : Nat) (lumpCells : Nat) (boatNames : Nat) (boatCells : Nat) (loads : Nat) (spoons : Nat) (spoonsLeft : Nat) (depths : Nat) (thicknessF : Nat → Int32) (lumpCellsF : Nat → Int32) (loadsF : Nat → Int32) (rtape : Nat) (rtapeF : Nat → Int32) (x : Int32) (iv_a_0 : 2 ≤ wide) (iv_a_1 : wide ≤ 6) (iv_a_2 : 2 ≤ high) (iv_a_3 : high ≤ 6) (iv_a_4 : lumps ≤ 6) (iv_a_5 : boats ≤ 6) : Met l yX10_look wsX10_look ({ frames := 4, cells := 0, slots := 0, locals := 94 }) (PcU dC dI ky [.ref si, .ref a, .ref rtape, .int x] [(si, .inr (10, [.long icellBits, .int ibestBoat])), (a, .inr (7, [.int (nI wide), .int (nI high), .int heat, .int cools, .int skinHeat, .int today, .int stirs, .int steps, .int (nI lumps), .int (nI boats), .ref thickness, .ref lumpNames, .ref lumpCells, .ref boatNames, .ref boatCells, .ref loads, .ref spoons, .ref spoonsLeft, .ref depths])), (thickness, .inl (ky 0, 36, .inl thicknessF)), (lumpCells, .inl (ky 0, 6, .inl lumpCellsF)), (loads, .inl (ky 0, 6, .inl loadsF)), (rtape, .inl (ky 2, 940, .inl rtapeF))] sz) (va_Qi (fun (r : Int32) (u : Int64 × Int32) => match u with | (icellBitsG, ibestBoatG) => True) (BU dC dI ky (fun (u : Int64 × Int32) => match u with | (icellBitsG, ibestBoatG) => [(si, .inr (10, [.long icellBitsG, .int ibestBoatG])), (a, .inr (7, [.int (nI wide), .int (nI high), .int heat, .int cools, .int skinHeat, .int today, .int stirs, .int steps, .int (nI lumps), .int (nI boats), .ref thickness, .ref lumpNames, .ref lumpCells, .ref boatNames, .ref boatCells, .ref loads, .ref spoons, .ref spoonsLeft, .ref depths])), (thickness, .inl (ky 0, 36, .inl thicknessF)), (lumpCells, .inl (ky 0, 6, .inl lumpCellsF)), (loads, .inl (ky 0, 6, .inl loadsF)), (rtape, .inl (ky 2, 940, .inl rtapeF))]) (va_A [(si, .inr (10, [.long icellBits, .int ibestBoat])), (a, .inr (7, [.int (nI wide), .int (nI high), .int heat, .int cools, .int skinHeat, .int today, .int stirs, .int steps, .int (nI lumps), .int (nI boats), .ref thickness, .ref lumpNames, .ref lumpCells, .ref boatNames, .ref boatCells, .ref loads, .ref spoons, .ref spoonsLeft, .ref depths])), (thickness, .inl (ky 0, 36, .inl thicknessF)), (lumpCells, .inl (ky 0, 6, .inl lumpCellsF)), (loads, .inl (ky 0, 6, .inl loadsF)), (rtape, .inl (ky 2, 940, .inl rtapeF))] sz)) (va_A [(si, .inr (10, [.long icellBits, .int ibestBoat])), (a, .inr (7, [.int (nI wide), .int (nI high), .int heat, .int cools, .int skinHeat, .int today, .int stirs, .int steps, .int (nI lumps), .int (nI boats), .ref thickness, .ref lumpNames, .ref lumpCells, .ref boatNames, .ref boatCells, .ref loads, .ref spoons, .ref spoonsLeft, .ref depths])), (thickness, .inl (ky 0, 36, .inl thicknessF)), (lumpCells, .inl (ky 0, 6, .inl lumpCellsF)), (loads, .inl (ky 0, 6, .inl loadsF)), (rtape, .inl (ky 2, 940, .inl rtapeF))] sz)) 0 0 (va_A [(si, .inr (10, [.long icellBits, .int ibestBoat])), (a, .inr (7, [.int (nI wide), .int (nI high), .int heat, .int cools, .int skinHeat, .int today, .int stirs, .int steps, .int (nI lumps), .int (nI boats), .ref thickness, .ref lumpNames, .ref lumpCells, .ref boatNames, .ref boatCells, .ref loads, .ref spoons, .ref spoonsLeft, .ref depths])), (thickness, .inl (ky 0, 36, .inl thicknessF)), (lumpCells, .inl (ky 0, 6, .inl lumpCellsF)), (loads, .inl (ky 0, 6, .inl loadsF)), (rtape, .inl (ky 2, 940, .inl rtapeF))] sz) := by
  refine Met.ofW (cc := cX10_look) (maxL := 7) (ret := (some .int)) (by decide) rfl ?_
  intro p e s m args below meth c s₁ B hml hv
  obtain ⟨rfl, hsz, hP, hK, hD0⟩ := hv
  have hx := B.exec
  have hb := B.bytes
  have hr := B.returns
  have hts := atoms_spec (ws := wsX10_look) B.pre
  have hown : s.vm.findClass RX10 = some m.cls := findClass_of_methodNamed B.named
  have hlocks := B.notSynchronized
  have hin10 : ∀ w ∈ u_ws RX10 TX10 2, w ∈ wsX10_look := by decide +kernel
  subst hsz
  have hD := hD0.self (sz := s.heap.size)
  generalize hAe : va_A [(si, .inr (10, [.long icellBits, .int ibestBoat])), (a, .inr (7, [.int (nI wide), .int (nI high), .int heat, .int cools, .int skinHeat, .int today, .int stirs, .int steps, .int (nI lumps), .int (nI boats), .ref thickness, .ref lumpNames, .ref lumpCells, .ref boatNames, .ref boatCells, .ref loads, .ref spoons, .ref spoonsLeft, .ref depths])), (thickness, .inl (ky 0, 36, .inl thicknessF)), (lumpCells, .inl (ky 0, 6, .inl lumpCellsF)), (loads, .inl (ky 0, 6, .inl loadsF)), (rtape, .inl (ky 2, 940, .inl rtapeF))] s.heap.size = A at hD ⊢
  have hA : ∀ q : Nat, s.heap.size ≤ q → A q := fun q h => by rw [← hAe]; exact Or.inr h
  have hS : va_S A s.heap s.heap [] := va_S.rf
  have hl := lv_entry ([.ref si, .ref a, .ref rtape, .int x]) (n := 7) (Nat.le_of_ble_eq_true rfl)
  rw [lg_entry_eq]
  generalize (lg_sl ([.ref si, .ref a, .ref rtape, .int x]) ++ List.replicate (7 - (lg_sl ([.ref si, .ref a, .ref rtape, .int x])).length) Slot.unset).toArray = ls at hl ⊢
  have hl : lv_has ls 7 [(0, .ref si), (1, .ref a), (2, .ref rtape), (3, .int x)] := hl
  refine q_name (fun Q hQ => ?_)
  generalize ([.ref si, .ref a, .ref rtape, .int x] : List Value).toArray = args at hts hQ ⊢
  refine lv_aload_n hx hb dX10_look_0 rfl (lv_at hl 1 rfl) ?_
  refine lv_aload_n hx hb dX10_look_1 rfl (lv_at hl 2 rfl) ?_
  refine lv_iload_n hx hb dX10_look_2 rfl (lv_at hl 3 rfl) ?_
  refine vp_callSi (W.runS (As := [.ref a, .ref rtape, .int x]) (rest := []) ⟨hx, hb, hml, hown, hts⟩ (c_i_arePairs l dC dI ky a wide high heat cools skinHeat today stirs steps lumps boats thickness lumpNames lumpCells boatNames boatCells loads spoons spoonsLeft depths rtape rtapeF x iv_a_0 iv_a_1 iv_a_2 iv_a_3 iv_a_4 iv_a_5) (va_cwS 3 hts gX10_look_X10_arePairs rfl rfl rfl (by decide +kernel) ⟨(Nat.le_of_ble_eq_true rfl), (Nat.le_of_ble_eq_true rfl)⟩) (pre_PS hK hP [1, 5] rfl) rfl rfl hl.1 rfl (lv_room (Nat.le_of_ble_eq_true rfl)) dX10_look_3 ⟨(Nat.le_of_ble_eq_true rfl), (Nat.le_of_ble_eq_true rfl)⟩) (fun r1 p2 => ?_)
  refine lv_if_ne (tgt := 11) hx hb dX10_look_6 (by decide) (fun c3 => ?_) (fun c3 => ?_)
  · refine lv_lconst (v := 0) hx hb dX10_look_11 (by decide) ?_
    refine lv_lstore (lv' := [(4, .long 0), (0, .ref si), (1, .ref a), (2, .ref rtape), (3, .int x)]) hx hb dX10_look_12 hl (by decide) rfl (fun ls hl => ?_)
    refine lv_iconst (v := nI 0) hx hb dX10_look_14 (by decide) ?_
    refine lv_istore (lv' := [(6, .int (nI 0)), (4, .long 0), (0, .ref si), (1, .ref a), (2, .ref rtape), (3, .int x)]) hx hb dX10_look_15 hl (by decide) rfl (fun ls hl => ?_)
    have hL13 : ∀ (n14 : Nat) (k10 : Nat) (w11 : Int64), (k10 ≤ 36) → 36 - k10 < n14 → ∀ (H : Heap) (locs : List Loc) (ls : Array Slot), va_P (dC, dI) vwCl [(si, .inr (10, [.long icellBits, .int ibestBoat])), (a, .inr (7, [.int (nI wide), .int (nI high), .int heat, .int cools, .int skinHeat, .int today, .int stirs, .int steps, .int (nI lumps), .int (nI boats), .ref thickness, .ref lumpNames, .ref lumpCells, .ref boatNames, .ref boatCells, .ref loads, .ref spoons, .ref spoonsLeft, .ref depths])), (thickness, .inl (ky 0, 36, .inl thicknessF)), (lumpCells, .inl (ky 0, 6, .inl lumpCellsF)), (loads, .inl (ky 0, 6, .inl loadsF)), (rtape, .inl (ky 2, 940, .inl rtapeF))] H → va_D A [(si, .inr (10, [.long icellBits, .int ibestBoat])), (a, .inr (7, [.int (nI wide), .int (nI high), .int heat, .int cools, .int skinHeat, .int today, .int stirs, .int steps, .int (nI lumps), .int (nI boats), .ref thickness, .ref lumpNames, .ref lumpCells, .ref boatNames, .ref boatCells, .ref loads, .ref spoons, .ref spoonsLeft, .ref depths])), (thickness, .inl (ky 0, 36, .inl thicknessF)), (lumpCells, .inl (ky 0, 6, .inl lumpCellsF)), (loads, .inl (ky 0, 6, .inl loadsF)), (rtape, .inl (ky 2, 940, .inl rtapeF))] → va_S A s.heap H locs → lv_has ls 7 [(6, .int (nI k10)), (4, .long w11), (0, .ref si), (1, .ref a), (2, .ref rtape), (3, .int x)] → W p l e (headSpec wsX10_look ({ frames := 4, cells := 0, slots := 0, locals := 94 })).room s m args below meth c H locs 0 0 Q (F0 m 17 ls []) := by
      intro n14
      induction n14 with
      | zero => intro k10 w11 _ h9; exact absurd h9 (Nat.not_lt_zero _)
      | succ n14 ih15 =>
        intro k10 w11 j12 hm16 H locs ls hP hD hS hl
        refine lv_iload hx hb dX10_look_17 (lv_at hl 0 rfl) ?_
        refine lv_bipush (v := nI 36) hx hb dX10_look_19 (by decide) ?_
        refine n_icmp_ge (x := k10) (y := 36) (tgt := 67) hx hb (by omega) (by omega) dX10_look_21 (by decide) (fun c17 => ?_) (fun c17 => ?_)
        · refine lv_lload hx hb dX10_look_67 (lv_at hl 1 rfl) ?_
          refine lv_lconst (v := 0) hx hb dX10_look_69 (by decide) ?_
          refine W.lcmp hx hb dX10_look_70 ?_
          refine lv_topi (fun y18 e19 => ?_)
          refine lv_if_eq (tgt := 89) hx hb dX10_look_71 (by decide) (fun c20 => ?_) (fun c20 => ?_)
          · refine lv_lload hx hb dX10_look_89 (lv_at hl 1 rfl) ?_
            refine vp_callSi (W.runS (As := [.long w11]) (rest := []) ⟨hx, hb, hml, hown, hts⟩ (c_j_bitL l dC dI ky w11) (va_cwS 1 hts gX10_look_J13_bitCount_95d88 rfl rfl rfl (by decide +kernel) ⟨(Nat.le_of_ble_eq_true rfl), (Nat.le_of_ble_eq_true rfl)⟩) (pre_PS hK hP [] rfl) rfl rfl hl.1 rfl (lv_room (Nat.le_of_ble_eq_true rfl)) dX10_look_91 ⟨(Nat.le_of_ble_eq_true rfl), (Nat.le_of_ble_eq_true rfl)⟩) (fun r21 p22 => ?_)
            rw [hQ]
            exact W.iret (v := r21) hx hb hr (fun t9 ht9 hW9 => ⟨⟨r21, (icellBits, ibestBoat), rfl, trivial, by rw [ht9]; exact hP, va_K.moved hW9.alike hK, hD⟩, hS.F ht9⟩) hS.2.2 dX10_look_94
          · refine lv_aload_n hx hb dX10_look_74 rfl (lv_at hl 2 rfl) ?_
            refine lv_lload hx hb dX10_look_75 (lv_at hl 1 rfl) ?_
            refine va_put (D := (dC, dI)) (ci := 10) (v := .long w11) (ty := .long) (C := RX10) (T := TX10) (N := 2) hx hb hts hin10 tyX10 tyX10_ok nmX10 hown hK hP hD hS 0 rfl rfl 0 (by decide) (hts (.fieldLink RX10 9 "PorridgeSea$Sighting" "cellBits" "J") (List.mem_of_getElem? (i := 1) rfl)) (fun _ h9 => h9) rfl (by decide +kernel) rfl rfl (Nat.le_of_ble_eq_true rfl) dX10_look_77 (fun H locs hP hD hS => ?_)
            have hP : va_P (dC, dI) vwCl [(si, .inr (10, [.long w11, .int ibestBoat])), (a, .inr (7, [.int (nI wide), .int (nI high), .int heat, .int cools, .int skinHeat, .int today, .int stirs, .int steps, .int (nI lumps), .int (nI boats), .ref thickness, .ref lumpNames, .ref lumpCells, .ref boatNames, .ref boatCells, .ref loads, .ref spoons, .ref spoonsLeft, .ref depths])), (thickness, .inl (ky 0, 36, .inl thicknessF)), (lumpCells, .inl (ky 0, 6, .inl lumpCellsF)), (loads, .inl (ky 0, 6, .inl loadsF)), (rtape, .inl (ky 2, 940, .inl rtapeF))] H := hP
            have hD : va_D A [(si, .inr (10, [.long w11, .int ibestBoat])), (a, .inr (7, [.int (nI wide), .int (nI high), .int heat, .int cools, .int skinHeat, .int today, .int stirs, .int steps, .int (nI lumps), .int (nI boats), .ref thickness, .ref lumpNames, .ref lumpCells, .ref boatNames, .ref boatCells, .ref loads, .ref spoons, .ref spoonsLeft, .ref depths])), (thickness, .inl (ky 0, 36, .inl thicknessF)), (lumpCells, .inl (ky 0, 6, .inl lumpCellsF)), (loads, .inl (ky 0, 6, .inl loadsF)), (rtape, .inl (ky 2, 940, .inl rtapeF))] := hD
            refine lv_aload_n hx hb dX10_look_80 rfl (lv_at hl 2 rfl) ?_
            refine lv_aload_n hx hb dX10_look_81 rfl (lv_at hl 2 rfl) ?_
            refine lv_aload_n hx hb dX10_look_82 rfl (lv_at hl 3 rfl) ?_
            refine vp_callSi (W.runV (As := [.ref a]) (rest := [.ref si]) ⟨hx, hb, hml, hown, hts⟩ (c_i_boatToSend l dC dI ky si w11 ibestBoat a wide high heat cools skinHeat today stirs steps lumps boats thickness lumpNames lumpCells boatNames boatCells loads spoons spoonsLeft depths thicknessF lumpCellsF loadsF iv_a_0 iv_a_1 iv_a_2 iv_a_3 iv_a_4 iv_a_5) (cwV 1 hts gX10_look_X10_boatToSend rfl rfl rfl (by decide +kernel) ⟨(Nat.le_of_ble_eq_true rfl), (Nat.le_of_ble_eq_true rfl)⟩) (pre_PV hK hP [0, 1, 2, 3, 4] rfl (ci := 10) (q0 := 0) rfl rfl) rfl rfl hl.1 rfl (lv_room (Nat.le_of_ble_eq_true rfl)) dX10_look_83 ⟨(Nat.le_of_ble_eq_true rfl), (Nat.le_of_ble_eq_true rfl)⟩) (fun r23 p24 => ?_)
            refine va_put (D := (dC, dI)) (ci := 10) (v := .int r23) (ty := .int) (C := RX10) (T := TX10) (N := 2) hx hb hts hin10 tyX10 tyX10_ok nmX10 hown hK hP hD hS 0 rfl rfl 1 (by decide) (hts (.fieldLink RX10 15 "PorridgeSea$Sighting" "bestBoat" "I") (List.mem_of_getElem? (i := 2) rfl)) (fun _ h9 => h9) rfl (by decide +kernel) rfl rfl (Nat.le_of_ble_eq_true rfl) dX10_look_86 (fun H locs hP hD hS => ?_)
            have hP : va_P (dC, dI) vwCl [(si, .inr (10, [.long w11, .int r23])), (a, .inr (7, [.int (nI wide), .int (nI high), .int heat, .int cools, .int skinHeat, .int today, .int stirs, .int steps, .int (nI lumps), .int (nI boats), .ref thickness, .ref lumpNames, .ref lumpCells, .ref boatNames, .ref boatCells, .ref loads, .ref spoons, .ref spoonsLeft, .ref depths])), (thickness, .inl (ky 0, 36, .inl thicknessF)), (lumpCells, .inl (ky 0, 6, .inl lumpCellsF)), (loads, .inl (ky 0, 6, .inl loadsF)), (rtape, .inl (ky 2, 940, .inl rtapeF))] H := hP
            have hD : va_D A [(si, .inr (10, [.long w11, .int r23])), (a, .inr (7, [.int (nI wide), .int (nI high), .int heat, .int cools, .int skinHeat, .int today, .int stirs, .int steps, .int (nI lumps), .int (nI boats), .ref thickness, .ref lumpNames, .ref lumpCells, .ref boatNames, .ref boatCells, .ref loads, .ref spoons, .ref spoonsLeft, .ref depths])), (thickness, .inl (ky 0, 36, .inl thicknessF)), (lumpCells, .inl (ky 0, 6, .inl lumpCellsF)), (loads, .inl (ky 0, 6, .inl loadsF)), (rtape, .inl (ky 2, 940, .inl rtapeF))] := hD
            refine lv_lload hx hb dX10_look_89 (lv_at hl 1 rfl) ?_
            refine vp_callSi (W.runS (As := [.long w11]) (rest := []) ⟨hx, hb, hml, hown, hts⟩ (c_j_bitL l dC dI ky w11) (va_cwS 1 hts gX10_look_J13_bitCount_95d88 rfl rfl rfl (by decide +kernel) ⟨(Nat.le_of_ble_eq_true rfl), (Nat.le_of_ble_eq_true rfl)⟩) (pre_PS hK hP [] rfl) rfl rfl hl.1 rfl (lv_room (Nat.le_of_ble_eq_true rfl)) dX10_look_91 ⟨(Nat.le_of_ble_eq_true rfl), (Nat.le_of_ble_eq_true rfl)⟩) (fun r25 p26 => ?_)
            rw [hQ]
            exact W.iret (v := r25) hx hb hr (fun t9 ht9 hW9 => ⟨⟨r25, (w11, r23), rfl, trivial, by rw [ht9]; exact hP, va_K.moved hW9.alike hK, hD⟩, hS.F ht9⟩) hS.2.2 dX10_look_94
        · refine lv_aload_n hx hb dX10_look_24 rfl (lv_at hl 3 rfl) ?_
          refine lv_iload hx hb dX10_look_25 (lv_at hl 0 rfl) ?_
          refine lv_bipush (v := nI 6) hx hb dX10_look_27 (by decide) ?_
          refine lv_irem hx hb dX10_look_29 (by decide) ?_
          refine r_ti (nI (k10 % 6)) (pk_rem (by omega) (by omega) (by omega)) ?_
          refine lv_iload hx hb dX10_look_30 (lv_at hl 0 rfl) ?_
          refine lv_bipush (v := nI 6) hx hb dX10_look_32 (by decide) ?_
          refine lv_idiv hx hb dX10_look_34 (by decide) ?_
          refine r_ti (nI (k10 / 6)) (pk_div (by omega) (by omega) (by omega)) ?_
          refine vp_callSi (W.runV (As := [.int (nI (k10 % 6)), .int (nI (k10 / 6))]) (rest := []) ⟨hx, hb, hml, hown, hts⟩ (c_s_isCell l dC dI ky a wide high heat cools skinHeat today stirs steps lumps boats thickness lumpNames lumpCells boatNames boatCells loads spoons spoonsLeft depths (nI (k10 % 6)) (nI (k10 / 6)) iv_a_0 iv_a_1 iv_a_2 iv_a_3 iv_a_4 iv_a_5) (cwV 2 hts gX10_look_X7_isCell rfl rfl rfl (by decide +kernel) ⟨(Nat.le_of_ble_eq_true rfl), (Nat.le_of_ble_eq_true rfl)⟩) (pre_PV hK hP [1] rfl (ci := 7) (q0 := 1) rfl rfl) rfl rfl hl.1 rfl (lv_room (Nat.le_of_ble_eq_true rfl)) dX10_look_35 ⟨(Nat.le_of_ble_eq_true rfl), (Nat.le_of_ble_eq_true rfl)⟩) (fun r27 p28 => ?_)
          rcases p28 with ⟨rfl, t29, t30, t31, t32⟩ | ⟨rfl, t33⟩
          · refine lv_if_eq (tgt := 61) hx hb dX10_look_38 (by decide) (fun c34 => absurd c34 (by decide)) (fun c34 => ?_)
            refine lv_aload_n hx hb dX10_look_41 rfl (lv_at hl 3 rfl) ?_
            refine lv_iload hx hb dX10_look_42 (lv_at hl 0 rfl) ?_
            refine lv_aload_n hx hb dX10_look_44 rfl (lv_at hl 4 rfl) ?_
            refine lv_iload_n hx hb dX10_look_45 rfl (lv_at hl 5 rfl) ?_
            refine vp_callSi (W.runS (As := [.ref a, .int (nI k10), .ref rtape, .int x]) (rest := []) ⟨hx, hb, hml, hown, hts⟩ (c_i_allDoSo l dC dI ky a wide high heat cools skinHeat today stirs steps lumps boats thickness lumpNames lumpCells boatNames boatCells loads spoons spoonsLeft depths thicknessF lumpCellsF loadsF rtape rtapeF (nI k10) x iv_a_0 iv_a_1 iv_a_2 iv_a_3 iv_a_4 iv_a_5) (va_cwS 4 hts gX10_look_X10_allDoSo rfl rfl rfl (by decide +kernel) ⟨(Nat.le_of_ble_eq_true rfl), (Nat.le_of_ble_eq_true rfl)⟩) (pre_PS hK hP [1, 2, 3, 4, 5] rfl) rfl rfl hl.1 rfl (lv_room (Nat.le_of_ble_eq_true rfl)) dX10_look_46 ⟨(Nat.le_of_ble_eq_true rfl), (Nat.le_of_ble_eq_true rfl)⟩) (fun r35 p36 => ?_)
            refine lv_if_eq (tgt := 61) hx hb dX10_look_49 (by decide) (fun c37 => ?_) (fun c37 => ?_)
            · refine lv_iinc (v := nI (k10 + 1)) (lv' := [(6, .int (nI (k10 + 1))), (4, .long w11), (0, .ref si), (1, .ref a), (2, .ref rtape), (3, .int x)]) hx hb dX10_look_61 hl (k := 0) rfl (show nI k10 + nI 1 = nI (k10 + 1) from nI_add _ _) (by decide) rfl (fun ls hl => ?_)
              refine lv_goto (tgt := 17) hx hb dX10_look_64 (by decide) ?_
              exact ih15 (k10 + 1) w11 (lf_i_look_1 wide high k10 n14 iv_a_0 iv_a_1 iv_a_2 iv_a_3 j12 hm16 c17 t29 t30 t31 t32) (lf_i_look_2 wide high k10 n14 iv_a_0 iv_a_1 iv_a_2 iv_a_3 j12 hm16 c17 t29 t30 t31 t32) _ _ _ hP hD hS (lv_sub hl [0, 1, 2, 3, 4, 5] rfl)
            · refine lv_lload hx hb dX10_look_52 (lv_at hl 1 rfl) ?_
              refine lv_lconst (v := 1) hx hb dX10_look_54 (by decide) ?_
              refine lv_iload hx hb dX10_look_55 (lv_at hl 0 rfl) ?_
              obtain ⟨w38, e39⟩ : ∃ z9 : Int64, z9 = 1 <<< ((nI k10).toInt64 &&& 63) := ⟨_, rfl⟩
              refine lv_lshl (v := w38) hx hb dX10_look_57 e39.symm ?_
              refine lv_lor hx hb dX10_look_58 ?_
              refine lv_topl (fun w40 e41 => ?_)
              refine lv_lstore (lv' := [(4, .long w40), (6, .int (nI k10)), (0, .ref si), (1, .ref a), (2, .ref rtape), (3, .int x)]) hx hb dX10_look_59 hl (by decide) rfl (fun ls hl => ?_)
              refine lv_iinc (v := nI (k10 + 1)) (lv' := [(6, .int (nI (k10 + 1))), (4, .long w40), (0, .ref si), (1, .ref a), (2, .ref rtape), (3, .int x)]) hx hb dX10_look_61 hl (k := 1) rfl (show nI k10 + nI 1 = nI (k10 + 1) from nI_add _ _) (by decide) rfl (fun ls hl => ?_)
              refine lv_goto (tgt := 17) hx hb dX10_look_64 (by decide) ?_
              exact ih15 (k10 + 1) w40 (lf_i_look_3 wide high k10 n14 iv_a_0 iv_a_1 iv_a_2 iv_a_3 j12 hm16 c17 t29 t30 t31 t32) (lf_i_look_4 wide high k10 n14 iv_a_0 iv_a_1 iv_a_2 iv_a_3 j12 hm16 c17 t29 t30 t31 t32) _ _ _ hP hD hS (lv_sub hl [0, 1, 2, 3, 4, 5] rfl)
          · refine lv_if_eq (tgt := 61) hx hb dX10_look_38 (by decide) (fun c42 => ?_) (fun c42 => absurd (by decide) c42)
            refine lv_iinc (v := nI (k10 + 1)) (lv' := [(6, .int (nI (k10 + 1))), (4, .long w11), (0, .ref si), (1, .ref a), (2, .ref rtape), (3, .int x)]) hx hb dX10_look_61 hl (k := 0) rfl (show nI k10 + nI 1 = nI (k10 + 1) from nI_add _ _) (by decide) rfl (fun ls hl => ?_)
            refine lv_goto (tgt := 17) hx hb dX10_look_64 (by decide) ?_
            exact ih15 (k10 + 1) w11 (lf_i_look_5 wide high k10 n14 iv_a_0 iv_a_1 iv_a_2 iv_a_3 j12 hm16 c17 t33) (lf_i_look_6 wide high k10 n14 iv_a_0 iv_a_1 iv_a_2 iv_a_3 j12 hm16 c17 t33) _ _ _ hP hD hS (lv_sub hl [0, 1, 2, 3, 4, 5] rfl)
    exact hL13 ((36 - 0) + 1) 0 0 (lf_i_look_7) (Nat.lt_succ_self _) _ _ _ hP hD hS (lv_sub hl [0, 1, 2, 3, 4, 5] rfl)
  · refine lv_iconst (v := (-1 : Int32)) hx hb dX10_look_9 (by decide) ?_
    rw [hQ]
    exact W.iret (v := (-1 : Int32)) hx hb hr (fun t9 ht9 hW9 => ⟨⟨(-1 : Int32), (icellBits, ibestBoat), rfl, trivial, by rw [ht9]; exact hP, va_K.moved hW9.alike hK, hD⟩, hS.F ht9⟩) hS.2.2 dX10_look_10
set_option maxRecDepth 20000 in
theorem lf_i_cellAt_1 (k8 : Nat) (n12 : Nat) (j10 : k8 ≤ 36) (hm14 : 36 - k8 < n12 + 1) (c15 : k8 < 36) : (k8 + 1) ≤ 36 := by
  try simp only [ia_lt, ia_le, ia_eq, ia_m1, ia_0, ia_1, ne_eq, true_and, and_true, false_and, and_false, or_false, false_or, or_true, true_or, not_true_eq_false, not_false_eq_true] at *
  all_goals omega
set_option maxRecDepth 20000 in
theorem lf_i_cellAt_2 (k8 : Nat) (n12 : Nat) (j10 : k8 ≤ 36) (hm14 : 36 - k8 < n12 + 1) (c15 : k8 < 36) : 36 - (k8 + 1) < n12 := by
  try simp only [ia_lt, ia_le, ia_eq, ia_m1, ia_0, ia_1, ne_eq, true_and, and_true, false_and, and_false, or_false, false_or, or_true, true_or, not_true_eq_false, not_false_eq_true] at *
  all_goals omega
set_option maxRecDepth 20000 in
theorem lf_i_cellAt_3 (k8 : Nat) (n12 : Nat) (j10 : k8 ≤ 36) (hm14 : 36 - k8 < n12 + 1) (c15 : k8 < 36) : (k8 + 1) ≤ 36 := by
  try simp only [ia_lt, ia_le, ia_eq, ia_m1, ia_0, ia_1, ne_eq, true_and, and_true, false_and, and_false, or_false, false_or, or_true, true_or, not_true_eq_false, not_false_eq_true] at *
  all_goals omega
set_option maxRecDepth 20000 in
theorem lf_i_cellAt_4 (k8 : Nat) (n12 : Nat) (j10 : k8 ≤ 36) (hm14 : 36 - k8 < n12 + 1) (c15 : k8 < 36) : 36 - (k8 + 1) < n12 := by
  try simp only [ia_lt, ia_le, ia_eq, ia_m1, ia_0, ia_1, ne_eq, true_and, and_true, false_and, and_false, or_false, false_or, or_true, true_or, not_true_eq_false, not_false_eq_true] at *
  all_goals omega
set_option maxRecDepth 20000 in
theorem lf_i_cellAt_5   : 0 ≤ 36 := by
  try simp only [ia_lt, ia_le, ia_eq, ia_m1, ia_0, ia_1, ne_eq, true_and, and_true, false_and, and_false, or_false, false_or, or_true, true_or, not_true_eq_false, not_false_eq_true] at *
  all_goals omega
set_option maxHeartbeats 4000000 in
set_option maxRecDepth 100000 in
theorem c_i_cellAt (l : Launch) (dC : Nat → ClassId) (dI : Nat → Nat → Nat) (ky : Nat → ClassId) (si : Nat) (icellBits : Int64) (ibestBoat : Int32) (x : Int32)  : Met l yX10_cellAt wsX10_cellAt ({ frames := 0, cells := 0, slots := 0, locals := 0 }) (PcP dC dI ky [.ref si, .int x] [(si, .inr (10, [.long icellBits, .int ibestBoat]))]) (vp_Si (fun r : Int32 => True)) 0 0 (fun _ => False) := by
  refine Met.ofW (cc := cX10_cellAt) (maxL := 4) (ret := (some .int)) (by decide) rfl ?_
  intro p e s m args below meth c s₁ B hml hv
  obtain ⟨rfl, hP, hK⟩ := hv
  have hx := B.exec
  have hb := B.bytes
  have hr := B.returns
  have hts := atoms_spec (ws := wsX10_cellAt) B.pre
  have hown : s.vm.findClass RX10 = some m.cls := findClass_of_methodNamed B.named
  have hlocks := B.notSynchronized
  have hin10 : ∀ w ∈ u_ws RX10 TX10 2, w ∈ wsX10_cellAt := by decide +kernel
  have hl := lv_entry ([.ref si, .int x]) (n := 4) (Nat.le_of_ble_eq_true rfl)
  rw [lg_entry_eq]
  generalize (lg_sl ([.ref si, .int x]) ++ List.replicate (4 - (lg_sl ([.ref si, .int x])).length) Slot.unset).toArray = ls at hl ⊢
  have hl : lv_has ls 4 [(0, .ref si), (1, .int x)] := hl
  refine q_name (fun Q hQ => ?_)
  generalize ([.ref si, .int x] : List Value).toArray = args at hts hQ ⊢
  refine lv_iconst (v := nI 0) hx hb dX10_cellAt_0 (by decide) ?_
  refine lv_istore_n (lv' := [(2, .int (nI 0)), (0, .ref si), (1, .int x)]) hx hb dX10_cellAt_1 rfl hl (by decide) rfl (fun ls hl => ?_)
  refine lv_iconst (v := nI 0) hx hb dX10_cellAt_2 (by decide) ?_
  refine lv_istore_n (lv' := [(3, .int (nI 0)), (2, .int (nI 0)), (0, .ref si), (1, .int x)]) hx hb dX10_cellAt_3 rfl hl (by decide) rfl (fun ls hl => ?_)
  have hL11 : ∀ (n12 : Nat) (k8 : Nat) (k9 : Nat), (k8 ≤ 36) → 36 - k8 < n12 → ∀ (ls : Array Slot), lv_has ls 4 [(3, .int (nI k8)), (2, .int (nI k9)), (0, .ref si), (1, .int x)] → W p l e (headSpec wsX10_cellAt ({ frames := 0, cells := 0, slots := 0, locals := 0 })).room s m args below meth c s.heap [] 0 0 Q (F0 m 4 ls []) := by
    intro n12
    induction n12 with
    | zero => intro k8 k9 _ h9; exact absurd h9 (Nat.not_lt_zero _)
    | succ n12 ih13 =>
      intro k8 k9 j10 hm14 ls hl
      refine lv_iload_n hx hb dX10_cellAt_4 rfl (lv_at hl 0 rfl) ?_
      refine lv_bipush (v := nI 36) hx hb dX10_cellAt_5 (by decide) ?_
      refine n_icmp_ge (x := k8) (y := 36) (tgt := 43) hx hb (by omega) (by omega) dX10_cellAt_7 (by decide) (fun c15 => ?_) (fun c15 => ?_)
      · refine lv_iconst (v := (-1 : Int32)) hx hb dX10_cellAt_43 (by decide) ?_
        rw [hQ]
        exact W.iret (v := (-1 : Int32)) hx hb hr (fun t9 ht9 hW9 => ⟨(-1 : Int32), rfl, trivial, ht9⟩) (fun _ h => absurd h List.not_mem_nil) dX10_cellAt_44
      · refine lv_iload_n hx hb dX10_cellAt_10 rfl (lv_at hl 3 rfl) ?_
        refine lv_if_lt (tgt := 43) hx hb dX10_cellAt_11 (by decide) (fun c16 => ?_) (fun c16 => ?_)
        · refine lv_iconst (v := (-1 : Int32)) hx hb dX10_cellAt_43 (by decide) ?_
          rw [hQ]
          exact W.iret (v := (-1 : Int32)) hx hb hr (fun t9 ht9 hW9 => ⟨(-1 : Int32), rfl, trivial, ht9⟩) (fun _ h => absurd h List.not_mem_nil) dX10_cellAt_44
        · refine lv_aload_n hx hb dX10_cellAt_14 rfl (lv_at hl 2 rfl) ?_
          refine va_get (D := (dC, dI)) (ci := 10) (v := .long icellBits) (C := RX10) (T := TX10) (N := 2) hx hb hts hin10 hown hK hP 0 rfl rfl 0 (by decide) (hts (.fieldLink RX10 9 "PorridgeSea$Sighting" "cellBits" "J") (List.mem_of_getElem? (i := 1) rfl)) (fun _ h9 => h9) rfl dX10_cellAt_15 ?_
          refine lv_iload_n hx hb dX10_cellAt_18 rfl (lv_at hl 0 rfl) ?_
          obtain ⟨w17, e18⟩ : ∃ z9 : Int64, z9 = icellBits >>> ((nI k8).toInt64 &&& 63) := ⟨_, rfl⟩
          refine lv_lshr (v := w17) hx hb dX10_cellAt_19 e18.symm ?_
          refine lv_lconst (v := 1) hx hb dX10_cellAt_20 (by decide) ?_
          refine lv_land hx hb dX10_cellAt_21 ?_
          refine lv_topl (fun w19 e20 => ?_)
          refine lv_lconst (v := 1) hx hb dX10_cellAt_22 (by decide) ?_
          refine W.lcmp hx hb dX10_cellAt_23 ?_
          refine lv_topi (fun y21 e22 => ?_)
          refine lv_if_ne (tgt := 37) hx hb dX10_cellAt_24 (by decide) (fun c23 => ?_) (fun c23 => ?_)
          · refine lv_iinc (v := nI (k8 + 1)) (lv' := [(3, .int (nI (k8 + 1))), (2, .int (nI k9)), (0, .ref si), (1, .int x)]) hx hb dX10_cellAt_37 hl (k := 0) rfl (show nI k8 + nI 1 = nI (k8 + 1) from nI_add _ _) (by decide) rfl (fun ls hl => ?_)
            refine lv_goto (tgt := 4) hx hb dX10_cellAt_40 (by decide) ?_
            exact ih13 (k8 + 1) k9 (lf_i_cellAt_1 k8 n12 j10 hm14 c15) (lf_i_cellAt_2 k8 n12 j10 hm14 c15) _ (lv_sub hl [0, 1, 2, 3] rfl)
          · refine lv_iload_n hx hb dX10_cellAt_27 rfl (lv_at hl 1 rfl) ?_
            refine lv_iload_n hx hb dX10_cellAt_28 rfl (lv_at hl 3 rfl) ?_
            refine lv_icmp_ne (tgt := 34) hx hb dX10_cellAt_29 (by decide) (fun c24 => ?_) (fun c24 => ?_)
            · refine lv_iinc (v := nI (k9 + 1)) (lv' := [(2, .int (nI (k9 + 1))), (3, .int (nI k8)), (0, .ref si), (1, .int x)]) hx hb dX10_cellAt_34 hl (k := 1) rfl (show nI k9 + nI 1 = nI (k9 + 1) from nI_add _ _) (by decide) rfl (fun ls hl => ?_)
              refine lv_iinc (v := nI (k8 + 1)) (lv' := [(3, .int (nI (k8 + 1))), (2, .int (nI (k9 + 1))), (0, .ref si), (1, .int x)]) hx hb dX10_cellAt_37 hl (k := 1) rfl (show nI k8 + nI 1 = nI (k8 + 1) from nI_add _ _) (by decide) rfl (fun ls hl => ?_)
              refine lv_goto (tgt := 4) hx hb dX10_cellAt_40 (by decide) ?_
              exact ih13 (k8 + 1) (k9 + 1) (lf_i_cellAt_3 k8 n12 j10 hm14 c15) (lf_i_cellAt_4 k8 n12 j10 hm14 c15) _ (lv_sub hl [0, 1, 2, 3] rfl)
            · refine lv_iload_n hx hb dX10_cellAt_32 rfl (lv_at hl 0 rfl) ?_
              rw [hQ]
              exact W.iret (v := nI k8) hx hb hr (fun t9 ht9 hW9 => ⟨nI k8, rfl, trivial, ht9⟩) (fun _ h => absurd h List.not_mem_nil) dX10_cellAt_33
  exact hL11 ((36 - 0) + 1) 0 0 (lf_i_cellAt_5) (Nat.lt_succ_self _) _ (lv_sub hl [0, 1, 2, 3] rfl)
