theorem dX9_copy_0 : decode cX9_copy 0 = .ok (.aload_n 0, 1) := by decide +kernel
theorem dX9_copy_1 : decode cX9_copy 1 = .ok (.ifnull 7, 3) := by decide +kernel
theorem dX9_copy_4 : decode cX9_copy 4 = .ok (.aload_n 1, 1) := by decide +kernel
theorem dX9_copy_5 : decode cX9_copy 5 = .ok (.ifnonnull 4, 3) := by decide +kernel
theorem dX9_copy_9 : decode cX9_copy 9 = .ok (.aload_n 0, 1) := by decide +kernel
theorem dX9_copy_10 : decode cX9_copy 10 = .ok (.getfield 11, 3) := by decide +kernel
theorem dX9_copy_13 : decode cX9_copy 13 = .ok (.iconst 0, 1) := by decide +kernel
theorem dX9_copy_14 : decode cX9_copy 14 = .ok (.aload_n 1, 1) := by decide +kernel
theorem dX9_copy_15 : decode cX9_copy 15 = .ok (.getfield 11, 3) := by decide +kernel
theorem dX9_copy_18 : decode cX9_copy 18 = .ok (.iconst 0, 1) := by decide +kernel
theorem dX9_copy_19 : decode cX9_copy 19 = .ok (.bipush 40, 2) := by decide +kernel
theorem dX9_copy_21 : decode cX9_copy 21 = .ok (.invokestatic 22, 3) := by decide +kernel
theorem dX9_copy_24 : decode cX9_copy 24 = .ok (.aload_n 1, 1) := by decide +kernel
theorem dX9_copy_25 : decode cX9_copy 25 = .ok (.aload_n 0, 1) := by decide +kernel
theorem dX9_copy_26 : decode cX9_copy 26 = .ok (.getfield 15, 3) := by decide +kernel
theorem dX9_copy_29 : decode cX9_copy 29 = .ok (.putfield 15, 3) := by decide +kernel
theorem dX9_copy_32 : decode cX9_copy 32 = .ok (.aload_n 1, 1) := by decide +kernel
theorem dX9_copy_33 : decode cX9_copy 33 = .ok (.aload_n 0, 1) := by decide +kernel
theorem dX9_copy_34 : decode cX9_copy 34 = .ok (.getfield 19, 3) := by decide +kernel
theorem dX9_copy_37 : decode cX9_copy 37 = .ok (.putfield 19, 3) := by decide +kernel
theorem dX9_copy_40 : decode cX9_copy 40 = .ok (.return_, 1) := by decide +kernel
theorem dX9_forget_0 : decode cX9_forget 0 = .ok (.aload_n 0, 1) := by decide +kernel
theorem dX9_forget_1 : decode cX9_forget 1 = .ok (.iconst 0, 1) := by decide +kernel
theorem dX9_forget_2 : decode cX9_forget 2 = .ok (.putfield 15, 3) := by decide +kernel
theorem dX9_forget_5 : decode cX9_forget 5 = .ok (.aload_n 0, 1) := by decide +kernel
theorem dX9_forget_6 : decode cX9_forget 6 = .ok (.iconst 0, 1) := by decide +kernel
theorem dX9_forget_7 : decode cX9_forget 7 = .ok (.putfield 19, 3) := by decide +kernel
theorem dX9_forget_10 : decode cX9_forget 10 = .ok (.return_, 1) := by decide +kernel
theorem dX9_isThere_0 : decode cX9_isThere 0 = .ok (.aload_n 0, 1) := by decide +kernel
theorem dX9_isThere_1 : decode cX9_isThere 1 = .ok (.getfield 15, 3) := by decide +kernel
theorem dX9_isThere_4 : decode cX9_isThere 4 = .ok (.ifCond .le 7, 3) := by decide +kernel
theorem dX9_isThere_11 : decode cX9_isThere 11 = .ok (.iconst 0, 1) := by decide +kernel
theorem dX9_isThere_12 : decode cX9_isThere 12 = .ok (.ireturn, 1) := by decide +kernel
theorem dX9_isThere_7 : decode cX9_isThere 7 = .ok (.iconst 1, 1) := by decide +kernel
theorem dX9_isThere_8 : decode cX9_isThere 8 = .ok (.goto 4, 3) := by decide +kernel
theorem dX9_put_0 : decode cX9_put 0 = .ok (.aload_n 0, 1) := by decide +kernel
theorem dX9_put_1 : decode cX9_put 1 = .ok (.getfield 15, 3) := by decide +kernel
theorem dX9_put_4 : decode cX9_put 4 = .ok (.bipush 40, 2) := by decide +kernel
theorem dX9_put_6 : decode cX9_put 6 = .ok (.if_icmp .lt 5, 3) := by decide +kernel
theorem dX9_put_11 : decode cX9_put 11 = .ok (.aload_n 0, 1) := by decide +kernel
theorem dX9_put_12 : decode cX9_put 12 = .ok (.getfield 11, 3) := by decide +kernel
theorem dX9_put_15 : decode cX9_put 15 = .ok (.aload_n 0, 1) := by decide +kernel
theorem dX9_put_16 : decode cX9_put 16 = .ok (.getfield 15, 3) := by decide +kernel
theorem dX9_put_19 : decode cX9_put 19 = .ok (.iload_n 1, 1) := by decide +kernel
theorem dX9_put_20 : decode cX9_put 20 = .ok (.iastore, 1) := by decide +kernel
theorem dX9_put_21 : decode cX9_put 21 = .ok (.aload_n 0, 1) := by decide +kernel
theorem dX9_put_22 : decode cX9_put 22 = .ok (.dup, 1) := by decide +kernel
theorem dX9_put_23 : decode cX9_put 23 = .ok (.getfield 15, 3) := by decide +kernel
theorem dX9_put_26 : decode cX9_put 26 = .ok (.iconst 1, 1) := by decide +kernel
theorem dX9_put_27 : decode cX9_put 27 = .ok (.iadd, 1) := by decide +kernel
theorem dX9_put_28 : decode cX9_put 28 = .ok (.putfield 15, 3) := by decide +kernel
theorem dX9_put_31 : decode cX9_put 31 = .ok (.iconst 1, 1) := by decide +kernel
theorem dX9_put_32 : decode cX9_put 32 = .ok (.ireturn, 1) := by decide +kernel
theorem dX9_readLump_0 : decode cX9_readLump 0 = .ok (.aload_n 1, 1) := by decide +kernel
theorem dX9_readLump_1 : decode cX9_readLump 1 = .ok (.invokevirtual 47, 3) := by decide +kernel
theorem dX9_readLump_4 : decode cX9_readLump 4 = .ok (.bipush 31, 2) := by decide +kernel
theorem dX9_readLump_6 : decode cX9_readLump 6 = .ok (.if_icmp .eq 9, 3) := by decide +kernel
theorem dX9_readLump_15 : decode cX9_readLump 15 = .ok (.aload_n 2, 1) := by decide +kernel
theorem dX9_readLump_16 : decode cX9_readLump 16 = .ok (.aload_n 1, 1) := by decide +kernel
theorem dX9_readLump_17 : decode cX9_readLump 17 = .ok (.getfield 71, 3) := by decide +kernel
theorem dX9_readLump_20 : decode cX9_readLump 20 = .ok (.invokevirtual 75, 3) := by decide +kernel
theorem dX9_readLump_23 : decode cX9_readLump 23 = .ok (.istore_n 3, 1) := by decide +kernel
theorem dX9_readLump_24 : decode cX9_readLump 24 = .ok (.iload_n 3, 1) := by decide +kernel
theorem dX9_readLump_25 : decode cX9_readLump 25 = .ok (.iconst (-1), 1) := by decide +kernel
theorem dX9_readLump_26 : decode cX9_readLump 26 = .ok (.if_icmp .ne 9, 3) := by decide +kernel
theorem dX9_readLump_29 : decode cX9_readLump 29 = .ok (.aload_n 1, 1) := by decide +kernel
theorem dX9_readLump_30 : decode cX9_readLump 30 = .ok (.iconst 3, 1) := by decide +kernel
theorem dX9_readLump_31 : decode cX9_readLump 31 = .ok (.invokevirtual 40, 3) := by decide +kernel
theorem dX9_readLump_34 : decode cX9_readLump 34 = .ok (.ireturn, 1) := by decide +kernel
theorem dX9_readLump_35 : decode cX9_readLump 35 = .ok (.aload_n 1, 1) := by decide +kernel
theorem dX9_readLump_36 : decode cX9_readLump 36 = .ok (.invokevirtual 51, 3) := by decide +kernel
theorem dX9_readLump_39 : decode cX9_readLump 39 = .ok (.aload_n 0, 1) := by decide +kernel
theorem dX9_readLump_40 : decode cX9_readLump 40 = .ok (.bipush 26, 2) := by decide +kernel
theorem dX9_readLump_42 : decode cX9_readLump 42 = .ok (.iload_n 3, 1) := by decide +kernel
theorem dX9_readLump_43 : decode cX9_readLump 43 = .ok (.bipush 12, 2) := by decide +kernel
theorem dX9_readLump_45 : decode cX9_readLump 45 = .ok (.ishl, 1) := by decide +kernel
theorem dX9_readLump_46 : decode cX9_readLump 46 = .ok (.ior, 1) := by decide +kernel
theorem dX9_readLump_47 : decode cX9_readLump 47 = .ok (.invokevirtual 54, 3) := by decide +kernel
theorem dX9_readLump_50 : decode cX9_readLump 50 = .ok (.ireturn, 1) := by decide +kernel
theorem dX9_readLump_9 : decode cX9_readLump 9 = .ok (.aload_n 1, 1) := by decide +kernel
theorem dX9_readLump_10 : decode cX9_readLump 10 = .ok (.iconst 1, 1) := by decide +kernel
theorem dX9_readLump_11 : decode cX9_readLump 11 = .ok (.invokevirtual 40, 3) := by decide +kernel
theorem dX9_readLump_14 : decode cX9_readLump 14 = .ok (.ireturn, 1) := by decide +kernel
theorem dX9_readComparison_0 : decode cX9_readComparison 0 = .ok (.aload_n 1, 1) := by decide +kernel
theorem dX9_readComparison_1 : decode cX9_readComparison 1 = .ok (.getfield 35, 3) := by decide +kernel
theorem dX9_readComparison_4 : decode cX9_readComparison 4 = .ok (.istore_n 3, 1) := by decide +kernel
theorem dX9_readComparison_5 : decode cX9_readComparison 5 = .ok (.iload_n 3, 1) := by decide +kernel
theorem dX9_readComparison_6 : decode cX9_readComparison 6 = .ok (.bipush 60, 2) := by decide +kernel
theorem dX9_readComparison_8 : decode cX9_readComparison 8 = .ok (.if_icmp .eq 21, 3) := by decide +kernel
theorem dX9_readComparison_29 : decode cX9_readComparison 29 = .ok (.aload_n 1, 1) := by decide +kernel
theorem dX9_readComparison_30 : decode cX9_readComparison 30 = .ok (.invokevirtual 51, 3) := by decide +kernel
theorem dX9_readComparison_33 : decode cX9_readComparison 33 = .ok (.aload_n 1, 1) := by decide +kernel
theorem dX9_readComparison_34 : decode cX9_readComparison 34 = .ok (.iconst 0, 1) := by decide +kernel
theorem dX9_readComparison_35 : decode cX9_readComparison 35 = .ok (.sipush 999, 3) := by decide +kernel
theorem dX9_readComparison_38 : decode cX9_readComparison 38 = .ok (.invokevirtual 81, 3) := by decide +kernel
theorem dX9_readComparison_41 : decode cX9_readComparison 41 = .ok (.istore 4, 2) := by decide +kernel
theorem dX9_readComparison_43 : decode cX9_readComparison 43 = .ok (.iload 4, 2) := by decide +kernel
theorem dX9_readComparison_45 : decode cX9_readComparison 45 = .ok (.iconst (-1), 1) := by decide +kernel
theorem dX9_readComparison_46 : decode cX9_readComparison 46 = .ok (.if_icmp .eq 25, 3) := by decide +kernel
theorem dX9_readComparison_71 : decode cX9_readComparison 71 = .ok (.iconst 0, 1) := by decide +kernel
theorem dX9_readComparison_72 : decode cX9_readComparison 72 = .ok (.ireturn, 1) := by decide +kernel
theorem dX9_readComparison_49 : decode cX9_readComparison 49 = .ok (.aload_n 0, 1) := by decide +kernel
theorem dX9_readComparison_50 : decode cX9_readComparison 50 = .ok (.iload_n 2, 1) := by decide +kernel
theorem dX9_readComparison_51 : decode cX9_readComparison 51 = .ok (.iload_n 3, 1) := by decide +kernel
theorem dX9_readComparison_52 : decode cX9_readComparison 52 = .ok (.iconst 5, 1) := by decide +kernel
theorem dX9_readComparison_53 : decode cX9_readComparison 53 = .ok (.ishl, 1) := by decide +kernel
theorem dX9_readComparison_54 : decode cX9_readComparison 54 = .ok (.ior, 1) := by decide +kernel
theorem dX9_readComparison_55 : decode cX9_readComparison 55 = .ok (.iload 4, 2) := by decide +kernel
theorem dX9_readComparison_57 : decode cX9_readComparison 57 = .ok (.bipush 12, 2) := by decide +kernel
theorem dX9_readComparison_59 : decode cX9_readComparison 59 = .ok (.ishl, 1) := by decide +kernel
theorem dX9_readComparison_60 : decode cX9_readComparison 60 = .ok (.ior, 1) := by decide +kernel
theorem dX9_readComparison_61 : decode cX9_readComparison 61 = .ok (.invokevirtual 54, 3) := by decide +kernel
theorem dX9_readComparison_64 : decode cX9_readComparison 64 = .ok (.ifCond .eq 7, 3) := by decide +kernel
theorem dX9_readComparison_67 : decode cX9_readComparison 67 = .ok (.iconst 1, 1) := by decide +kernel
theorem dX9_readComparison_68 : decode cX9_readComparison 68 = .ok (.goto 4, 3) := by decide +kernel
theorem dX9_readComparison_11 : decode cX9_readComparison 11 = .ok (.iload_n 3, 1) := by decide +kernel
theorem dX9_readComparison_12 : decode cX9_readComparison 12 = .ok (.bipush 61, 2) := by decide +kernel
theorem dX9_readComparison_14 : decode cX9_readComparison 14 = .ok (.if_icmp .eq 15, 3) := by decide +kernel
theorem dX9_readComparison_17 : decode cX9_readComparison 17 = .ok (.iload_n 3, 1) := by decide +kernel
theorem dX9_readComparison_18 : decode cX9_readComparison 18 = .ok (.bipush 62, 2) := by decide +kernel
theorem dX9_readComparison_20 : decode cX9_readComparison 20 = .ok (.if_icmp .eq 9, 3) := by decide +kernel
theorem dX9_readComparison_23 : decode cX9_readComparison 23 = .ok (.aload_n 1, 1) := by decide +kernel
theorem dX9_readComparison_24 : decode cX9_readComparison 24 = .ok (.iconst 1, 1) := by decide +kernel
theorem dX9_readComparison_25 : decode cX9_readComparison 25 = .ok (.invokevirtual 40, 3) := by decide +kernel
theorem dX9_readComparison_28 : decode cX9_readComparison 28 = .ok (.ireturn, 1) := by decide +kernel
theorem dX9_compares_0 : decode cX9_compares 0 = .ok (.iload_n 1, 1) := by decide +kernel
theorem dX9_compares_1 : decode cX9_compares 1 = .ok (.bipush 60, 2) := by decide +kernel
theorem dX9_compares_3 : decode cX9_compares 3 = .ok (.if_icmp .ne 14, 3) := by decide +kernel
theorem dX9_compares_17 : decode cX9_compares 17 = .ok (.iload_n 1, 1) := by decide +kernel
theorem dX9_compares_18 : decode cX9_compares 18 = .ok (.bipush 62, 2) := by decide +kernel
theorem dX9_compares_20 : decode cX9_compares 20 = .ok (.if_icmp .ne 16, 3) := by decide +kernel
theorem dX9_compares_36 : decode cX9_compares 36 = .ok (.iload_n 0, 1) := by decide +kernel
theorem dX9_compares_37 : decode cX9_compares 37 = .ok (.iload_n 2, 1) := by decide +kernel
theorem dX9_compares_38 : decode cX9_compares 38 = .ok (.if_icmp .ne 7, 3) := by decide +kernel
theorem dX9_compares_45 : decode cX9_compares 45 = .ok (.iconst 0, 1) := by decide +kernel
theorem dX9_compares_46 : decode cX9_compares 46 = .ok (.ireturn, 1) := by decide +kernel
theorem dX9_compares_41 : decode cX9_compares 41 = .ok (.iconst 1, 1) := by decide +kernel
theorem dX9_compares_42 : decode cX9_compares 42 = .ok (.goto 4, 3) := by decide +kernel
theorem dX9_compares_23 : decode cX9_compares 23 = .ok (.iload_n 0, 1) := by decide +kernel
theorem dX9_compares_24 : decode cX9_compares 24 = .ok (.iload_n 2, 1) := by decide +kernel
theorem dX9_compares_25 : decode cX9_compares 25 = .ok (.if_icmp .le 7, 3) := by decide +kernel
theorem dX9_compares_32 : decode cX9_compares 32 = .ok (.iconst 0, 1) := by decide +kernel
theorem dX9_compares_33 : decode cX9_compares 33 = .ok (.goto 13, 3) := by decide +kernel
theorem dX9_compares_28 : decode cX9_compares 28 = .ok (.iconst 1, 1) := by decide +kernel
theorem dX9_compares_29 : decode cX9_compares 29 = .ok (.goto 17, 3) := by decide +kernel
theorem dX9_compares_6 : decode cX9_compares 6 = .ok (.iload_n 0, 1) := by decide +kernel
theorem dX9_compares_7 : decode cX9_compares 7 = .ok (.iload_n 2, 1) := by decide +kernel
theorem dX9_compares_8 : decode cX9_compares 8 = .ok (.if_icmp .ge 7, 3) := by decide +kernel
theorem dX9_compares_15 : decode cX9_compares 15 = .ok (.iconst 0, 1) := by decide +kernel
theorem dX9_compares_16 : decode cX9_compares 16 = .ok (.ireturn, 1) := by decide +kernel
theorem dX9_compares_11 : decode cX9_compares 11 = .ok (.iconst 1, 1) := by decide +kernel
theorem dX9_compares_12 : decode cX9_compares 12 = .ok (.goto 4, 3) := by decide +kernel
theorem dX9_isSo_0 : decode cX9_isSo 0 = .ok (.aload_n 0, 1) := by decide +kernel
theorem dX9_isSo_1 : decode cX9_isSo 1 = .ok (.iload_n 1, 1) := by decide +kernel
theorem dX9_isSo_2 : decode cX9_isSo 2 = .ok (.invokevirtual 89, 3) := by decide +kernel
theorem dX9_isSo_5 : decode cX9_isSo 5 = .ok (.ifCond .ne 5, 3) := by decide +kernel
theorem dX9_isSo_10 : decode cX9_isSo 10 = .ok (.iload_n 2, 1) := by decide +kernel
theorem dX9_isSo_11 : decode cX9_isSo 11 = .ok (.bipush 12, 2) := by decide +kernel
theorem dX9_isSo_13 : decode cX9_isSo 13 = .ok (.ishr, 1) := by decide +kernel
theorem dX9_isSo_14 : decode cX9_isSo 14 = .ok (.istore_n 3, 1) := by decide +kernel
theorem dX9_isSo_15 : decode cX9_isSo 15 = .ok (.iload_n 2, 1) := by decide +kernel
theorem dX9_isSo_16 : decode cX9_isSo 16 = .ok (.iconst 5, 1) := by decide +kernel
theorem dX9_isSo_17 : decode cX9_isSo 17 = .ok (.ishr, 1) := by decide +kernel
theorem dX9_isSo_18 : decode cX9_isSo 18 = .ok (.bipush 127, 2) := by decide +kernel
theorem dX9_isSo_20 : decode cX9_isSo 20 = .ok (.iand, 1) := by decide +kernel
theorem dX9_isSo_21 : decode cX9_isSo 21 = .ok (.istore 4, 2) := by decide +kernel
theorem dX9_isSo_23 : decode cX9_isSo 23 = .ok (.iload_n 2, 1) := by decide +kernel
theorem dX9_isSo_24 : decode cX9_isSo 24 = .ok (.bipush 31, 2) := by decide +kernel
theorem dX9_isSo_26 : decode cX9_isSo 26 = .ok (.iand, 1) := by decide +kernel
theorem dX9_isSo_27 : decode cX9_isSo 27 = .ok (.tableswitch 135 23 29 #[41, 47, 53, 64, 96, 109, 122], 41) := by decide +kernel
theorem dX9_isSo_162 : decode cX9_isSo 162 = .ok (.iload_n 1, 1) := by decide +kernel
theorem dX9_isSo_163 : decode cX9_isSo 163 = .ok (.iload 4, 2) := by decide +kernel
theorem dX9_isSo_165 : decode cX9_isSo 165 = .ok (.iload_n 3, 1) := by decide +kernel
theorem dX9_isSo_166 : decode cX9_isSo 166 = .ok (.invokestatic 117, 3) := by decide +kernel
theorem dX9_isSo_169 : decode cX9_isSo 169 = .ok (.ireturn, 1) := by decide +kernel
theorem dX9_isSo_68 : decode cX9_isSo 68 = .ok (.aload_n 0, 1) := by decide +kernel
theorem dX9_isSo_69 : decode cX9_isSo 69 = .ok (.iload_n 1, 1) := by decide +kernel
theorem dX9_isSo_70 : decode cX9_isSo 70 = .ok (.invokevirtual 92, 3) := by decide +kernel
theorem dX9_isSo_73 : decode cX9_isSo 73 = .ok (.ireturn, 1) := by decide +kernel
theorem dX9_isSo_74 : decode cX9_isSo 74 = .ok (.aload_n 0, 1) := by decide +kernel
theorem dX9_isSo_75 : decode cX9_isSo 75 = .ok (.iload_n 1, 1) := by decide +kernel
theorem dX9_isSo_76 : decode cX9_isSo 76 = .ok (.invokevirtual 95, 3) := by decide +kernel
theorem dX9_isSo_79 : decode cX9_isSo 79 = .ok (.ireturn, 1) := by decide +kernel
theorem dX9_isSo_80 : decode cX9_isSo 80 = .ok (.aload_n 0, 1) := by decide +kernel
theorem dX9_isSo_81 : decode cX9_isSo 81 = .ok (.aload_n 0, 1) := by decide +kernel
theorem dX9_isSo_82 : decode cX9_isSo 82 = .ok (.getfield 98, 3) := by decide +kernel
theorem dX9_isSo_85 : decode cX9_isSo 85 = .ok (.iload_n 1, 1) := by decide +kernel
theorem dX9_isSo_86 : decode cX9_isSo 86 = .ok (.iaload, 1) := by decide +kernel
theorem dX9_isSo_87 : decode cX9_isSo 87 = .ok (.invokevirtual 101, 3) := by decide +kernel
theorem dX9_isSo_90 : decode cX9_isSo 90 = .ok (.ireturn, 1) := by decide +kernel
theorem dX9_isSo_91 : decode cX9_isSo 91 = .ok (.aload_n 0, 1) := by decide +kernel
theorem dX9_isSo_92 : decode cX9_isSo 92 = .ok (.iload_n 3, 1) := by decide +kernel
theorem dX9_isSo_93 : decode cX9_isSo 93 = .ok (.invokevirtual 104, 3) := by decide +kernel
theorem dX9_isSo_96 : decode cX9_isSo 96 = .ok (.ifCond .eq 25, 3) := by decide +kernel
theorem dX9_isSo_99 : decode cX9_isSo 99 = .ok (.aload_n 0, 1) := by decide +kernel
theorem dX9_isSo_100 : decode cX9_isSo 100 = .ok (.getfield 98, 3) := by decide +kernel
theorem dX9_isSo_103 : decode cX9_isSo 103 = .ok (.iload_n 1, 1) := by decide +kernel
theorem dX9_isSo_104 : decode cX9_isSo 104 = .ok (.iaload, 1) := by decide +kernel
theorem dX9_isSo_105 : decode cX9_isSo 105 = .ok (.aload_n 0, 1) := by decide +kernel
theorem dX9_isSo_106 : decode cX9_isSo 106 = .ok (.getfield 107, 3) := by decide +kernel
theorem dX9_isSo_109 : decode cX9_isSo 109 = .ok (.iload_n 3, 1) := by decide +kernel
theorem dX9_isSo_110 : decode cX9_isSo 110 = .ok (.iaload, 1) := by decide +kernel
theorem dX9_isSo_111 : decode cX9_isSo 111 = .ok (.invokestatic 110, 3) := by decide +kernel
theorem dX9_isSo_114 : decode cX9_isSo 114 = .ok (.ifCond .eq 7, 3) := by decide +kernel
theorem dX9_isSo_121 : decode cX9_isSo 121 = .ok (.iconst 0, 1) := by decide +kernel
theorem dX9_isSo_122 : decode cX9_isSo 122 = .ok (.ireturn, 1) := by decide +kernel
theorem dX9_isSo_117 : decode cX9_isSo 117 = .ok (.iconst 1, 1) := by decide +kernel
theorem dX9_isSo_118 : decode cX9_isSo 118 = .ok (.goto 4, 3) := by decide +kernel
theorem dX9_isSo_123 : decode cX9_isSo 123 = .ok (.aload_n 0, 1) := by decide +kernel
theorem dX9_isSo_124 : decode cX9_isSo 124 = .ok (.getfield 114, 3) := by decide +kernel
theorem dX9_isSo_127 : decode cX9_isSo 127 = .ok (.iload_n 1, 1) := by decide +kernel
theorem dX9_isSo_128 : decode cX9_isSo 128 = .ok (.iaload, 1) := by decide +kernel
theorem dX9_isSo_129 : decode cX9_isSo 129 = .ok (.iload 4, 2) := by decide +kernel
theorem dX9_isSo_131 : decode cX9_isSo 131 = .ok (.iload_n 3, 1) := by decide +kernel
theorem dX9_isSo_132 : decode cX9_isSo 132 = .ok (.invokestatic 117, 3) := by decide +kernel
theorem dX9_isSo_135 : decode cX9_isSo 135 = .ok (.ireturn, 1) := by decide +kernel
theorem dX9_isSo_136 : decode cX9_isSo 136 = .ok (.aload_n 0, 1) := by decide +kernel
theorem dX9_isSo_137 : decode cX9_isSo 137 = .ok (.getfield 121, 3) := by decide +kernel
theorem dX9_isSo_140 : decode cX9_isSo 140 = .ok (.iload_n 1, 1) := by decide +kernel
theorem dX9_isSo_141 : decode cX9_isSo 141 = .ok (.iaload, 1) := by decide +kernel
theorem dX9_isSo_142 : decode cX9_isSo 142 = .ok (.iload 4, 2) := by decide +kernel
theorem dX9_isSo_144 : decode cX9_isSo 144 = .ok (.iload_n 3, 1) := by decide +kernel
theorem dX9_isSo_145 : decode cX9_isSo 145 = .ok (.invokestatic 117, 3) := by decide +kernel
theorem dX9_isSo_148 : decode cX9_isSo 148 = .ok (.ireturn, 1) := by decide +kernel
theorem dX9_isSo_149 : decode cX9_isSo 149 = .ok (.aload_n 0, 1) := by decide +kernel
theorem dX9_isSo_150 : decode cX9_isSo 150 = .ok (.getfield 124, 3) := by decide +kernel
theorem dX9_isSo_153 : decode cX9_isSo 153 = .ok (.iload_n 1, 1) := by decide +kernel
theorem dX9_isSo_154 : decode cX9_isSo 154 = .ok (.iaload, 1) := by decide +kernel
theorem dX9_isSo_155 : decode cX9_isSo 155 = .ok (.iload 4, 2) := by decide +kernel
theorem dX9_isSo_157 : decode cX9_isSo 157 = .ok (.iload_n 3, 1) := by decide +kernel
theorem dX9_isSo_158 : decode cX9_isSo 158 = .ok (.invokestatic 117, 3) := by decide +kernel
theorem dX9_isSo_161 : decode cX9_isSo 161 = .ok (.ireturn, 1) := by decide +kernel
theorem dX9_isSo_8 : decode cX9_isSo 8 = .ok (.iconst 0, 1) := by decide +kernel
theorem dX9_isSo_9 : decode cX9_isSo 9 = .ok (.ireturn, 1) := by decide +kernel
theorem dX9_holds_0 : decode cX9_holds 0 = .ok (.iconst 0, 1) := by decide +kernel
theorem dX9_holds_1 : decode cX9_holds 1 = .ok (.istore_n 3, 1) := by decide +kernel
theorem dX9_holds_2 : decode cX9_holds 2 = .ok (.iconst 0, 1) := by decide +kernel
theorem dX9_holds_3 : decode cX9_holds 3 = .ok (.istore 4, 2) := by decide +kernel
theorem dX9_holds_5 : decode cX9_holds 5 = .ok (.iload 4, 2) := by decide +kernel
theorem dX9_holds_7 : decode cX9_holds 7 = .ok (.aload_n 0, 1) := by decide +kernel
theorem dX9_holds_8 : decode cX9_holds 8 = .ok (.getfield 15, 3) := by decide +kernel
theorem dX9_holds_11 : decode cX9_holds 11 = .ok (.if_icmp .ge 106, 3) := by decide +kernel
theorem dX9_holds_117 : decode cX9_holds 117 = .ok (.iload_n 3, 1) := by decide +kernel
theorem dX9_holds_118 : decode cX9_holds 118 = .ok (.iconst 1, 1) := by decide +kernel
theorem dX9_holds_119 : decode cX9_holds 119 = .ok (.iand, 1) := by decide +kernel
theorem dX9_holds_120 : decode cX9_holds 120 = .ok (.iconst 1, 1) := by decide +kernel
theorem dX9_holds_121 : decode cX9_holds 121 = .ok (.if_icmp .ne 7, 3) := by decide +kernel
theorem dX9_holds_128 : decode cX9_holds 128 = .ok (.iconst 0, 1) := by decide +kernel
theorem dX9_holds_129 : decode cX9_holds 129 = .ok (.ireturn, 1) := by decide +kernel
theorem dX9_holds_14 : decode cX9_holds 14 = .ok (.iload_n 3, 1) := by decide +kernel
theorem dX9_holds_15 : decode cX9_holds 15 = .ok (.iconst 1, 1) := by decide +kernel
theorem dX9_holds_16 : decode cX9_holds 16 = .ok (.iand, 1) := by decide +kernel
theorem dX9_holds_17 : decode cX9_holds 17 = .ok (.istore 5, 2) := by decide +kernel
theorem dX9_holds_19 : decode cX9_holds 19 = .ok (.aload_n 0, 1) := by decide +kernel
theorem dX9_holds_20 : decode cX9_holds 20 = .ok (.getfield 11, 3) := by decide +kernel
theorem dX9_holds_23 : decode cX9_holds 23 = .ok (.iload 4, 2) := by decide +kernel
theorem dX9_holds_25 : decode cX9_holds 25 = .ok (.iaload, 1) := by decide +kernel
theorem dX9_holds_26 : decode cX9_holds 26 = .ok (.bipush 31, 2) := by decide +kernel
theorem dX9_holds_28 : decode cX9_holds 28 = .ok (.iand, 1) := by decide +kernel
theorem dX9_holds_29 : decode cX9_holds 29 = .ok (.tableswitch 57 20 22 #[27, 37, 50], 27) := by decide +kernel
theorem dX9_holds_86 : decode cX9_holds 86 = .ok (.iload_n 3, 1) := by decide +kernel
theorem dX9_holds_87 : decode cX9_holds 87 = .ok (.iconst 1, 1) := by decide +kernel
theorem dX9_holds_88 : decode cX9_holds 88 = .ok (.ishl, 1) := by decide +kernel
theorem dX9_holds_89 : decode cX9_holds 89 = .ok (.aload_n 1, 1) := by decide +kernel
theorem dX9_holds_90 : decode cX9_holds 90 = .ok (.iload_n 2, 1) := by decide +kernel
theorem dX9_holds_91 : decode cX9_holds 91 = .ok (.aload_n 0, 1) := by decide +kernel
theorem dX9_holds_92 : decode cX9_holds 92 = .ok (.getfield 11, 3) := by decide +kernel
theorem dX9_holds_95 : decode cX9_holds 95 = .ok (.iload 4, 2) := by decide +kernel
theorem dX9_holds_97 : decode cX9_holds 97 = .ok (.iaload, 1) := by decide +kernel
theorem dX9_holds_98 : decode cX9_holds 98 = .ok (.invokestatic 85, 3) := by decide +kernel
theorem dX9_holds_101 : decode cX9_holds 101 = .ok (.ifCond .eq 7, 3) := by decide +kernel
theorem dX9_holds_108 : decode cX9_holds 108 = .ok (.iconst 0, 1) := by decide +kernel
theorem dX9_holds_109 : decode cX9_holds 109 = .ok (.ior, 1) := by decide +kernel
theorem dX9_holds_110 : decode cX9_holds 110 = .ok (.istore_n 3, 1) := by decide +kernel
theorem dX9_holds_111 : decode cX9_holds 111 = .ok (.iinc 4 1, 3) := by decide +kernel
theorem dX9_holds_114 : decode cX9_holds 114 = .ok (.goto (-109), 3) := by decide +kernel
theorem dX9_holds_104 : decode cX9_holds 104 = .ok (.iconst 1, 1) := by decide +kernel
theorem dX9_holds_105 : decode cX9_holds 105 = .ok (.goto 4, 3) := by decide +kernel
theorem dX9_holds_56 : decode cX9_holds 56 = .ok (.iload_n 3, 1) := by decide +kernel
theorem dX9_holds_57 : decode cX9_holds 57 = .ok (.iconst 1, 1) := by decide +kernel
theorem dX9_holds_58 : decode cX9_holds 58 = .ok (.ishr, 1) := by decide +kernel
theorem dX9_holds_59 : decode cX9_holds 59 = .ok (.iload 5, 2) := by decide +kernel
theorem dX9_holds_61 : decode cX9_holds 61 = .ok (.ior, 1) := by decide +kernel
theorem dX9_holds_62 : decode cX9_holds 62 = .ok (.istore_n 3, 1) := by decide +kernel
theorem dX9_holds_63 : decode cX9_holds 63 = .ok (.goto 48, 3) := by decide +kernel
theorem dX9_holds_66 : decode cX9_holds 66 = .ok (.iload_n 3, 1) := by decide +kernel
theorem dX9_holds_67 : decode cX9_holds 67 = .ok (.iconst 1, 1) := by decide +kernel
theorem dX9_holds_68 : decode cX9_holds 68 = .ok (.ishr, 1) := by decide +kernel
theorem dX9_holds_69 : decode cX9_holds 69 = .ok (.iload 5, 2) := by decide +kernel
theorem dX9_holds_71 : decode cX9_holds 71 = .ok (.bipush (-2), 2) := by decide +kernel
theorem dX9_holds_73 : decode cX9_holds 73 = .ok (.ior, 1) := by decide +kernel
theorem dX9_holds_74 : decode cX9_holds 74 = .ok (.iand, 1) := by decide +kernel
theorem dX9_holds_75 : decode cX9_holds 75 = .ok (.istore_n 3, 1) := by decide +kernel
theorem dX9_holds_76 : decode cX9_holds 76 = .ok (.goto 35, 3) := by decide +kernel
theorem dX9_holds_79 : decode cX9_holds 79 = .ok (.iload_n 3, 1) := by decide +kernel
theorem dX9_holds_80 : decode cX9_holds 80 = .ok (.iconst 1, 1) := by decide +kernel
theorem dX9_holds_81 : decode cX9_holds 81 = .ok (.ixor, 1) := by decide +kernel
theorem dX9_holds_82 : decode cX9_holds 82 = .ok (.istore_n 3, 1) := by decide +kernel
theorem dX9_holds_83 : decode cX9_holds 83 = .ok (.goto 28, 3) := by decide +kernel
theorem dX9_holds_124 : decode cX9_holds 124 = .ok (.iconst 1, 1) := by decide +kernel
theorem dX9_holds_125 : decode cX9_holds 125 = .ok (.goto 4, 3) := by decide +kernel
set_option maxRecDepth 100000 in
theorem ggX9_readLump_X5_nextWord : GoodIn wsX9_readLump wsX5_nextWord := goodIn_r _ [6, 7, 111, 112, 113, 114, 115, 116, 117, 118, 119, 120, 121] rfl (by decide +kernel)
set_option maxRecDepth 100000 in
theorem ggX9_readLump_X7_lumpNamed : GoodIn wsX9_readLump wsX7_lumpNamed := goodIn_r _ [23, 24, 25, 122, 123, 124, 125, 126, 127, 128, 129, 130, 131, 132, 133, 134, 135, 136, 137, 138, 139, 140] rfl (by decide +kernel)
set_option maxRecDepth 100000 in
theorem ggX9_readLump_X5_refuse : GoodIn wsX9_readLump wsX5_refuse := goodIn_r _ [11, 12, 13, 14, 15, 5, 16, 17, 18, 111, 112, 113, 114, 115, 116, 117, 118, 119, 120, 121] rfl (by decide +kernel)
set_option maxRecDepth 100000 in
theorem ggX9_readLump_X5_advance : GoodIn wsX9_readLump wsX5_advance := goodIn_r _ [29, 30, 31, 32, 12, 7, 33, 34, 35, 36, 5, 37, 38, 39, 40, 41, 42, 43, 44, 45, 46, 47, 48, 49, 50, 51, 52, 53, 54, 55, 56, 57, 58, 59, 60, 61, 62, 63, 64, 65, 66, 67, 68, 69, 70, 71, 72, 73, 74, 75, 76, 77, 78, 79, 80, 81, 82, 83, 84, 85, 86, 87, 88, 89, 90, 91, 92, 93, 94, 95, 96, 97, 98, 99, 100, 101, 102, 103, 111, 112, 113, 114, 115, 116, 117, 118, 119, 120, 121] rfl (by decide +kernel)
set_option maxRecDepth 100000 in
theorem ggX9_readLump_X9_put : GoodIn wsX9_readLump wsX9_put := goodIn_r _ [108, 109, 110, 141, 142, 143] rfl (by decide +kernel)
set_option maxRecDepth 100000 in
theorem ggX9_readComparison_X5_advance : GoodIn wsX9_readComparison wsX5_advance := goodIn_r _ [17, 18, 19, 20, 7, 21, 22, 23, 24, 25, 5, 26, 27, 28, 29, 30, 31, 32, 33, 34, 35, 36, 37, 38, 39, 40, 41, 42, 43, 44, 45, 46, 47, 48, 49, 50, 51, 52, 53, 54, 55, 56, 57, 58, 59, 60, 61, 62, 63, 64, 65, 66, 67, 68, 69, 70, 71, 72, 73, 74, 75, 76, 77, 78, 79, 80, 81, 82, 83, 84, 85, 86, 87, 88, 89, 90, 91, 92, 106, 107, 108, 109, 110, 111, 112, 113, 114, 115, 116] rfl (by decide +kernel)
set_option maxRecDepth 100000 in
theorem ggX9_readComparison_X5_takeNumber : GoodIn wsX9_readComparison wsX5_takeNumber := goodIn_r _ [96, 23, 35, 97, 3, 4, 5, 6, 7, 8, 9, 10, 11, 12, 13, 98, 15, 16, 17, 18, 19, 20, 21, 22, 24, 25, 26, 27, 28, 29, 30, 31, 32, 33, 34, 36, 37, 38, 39, 40, 41, 42, 43, 44, 45, 46, 47, 48, 49, 50, 51, 52, 53, 54, 55, 56, 57, 58, 59, 60, 61, 62, 63, 64, 65, 66, 67, 68, 69, 70, 71, 72, 73, 74, 75, 76, 77, 78, 79, 80, 81, 82, 83, 84, 85, 86, 87, 88, 89, 90, 91, 92, 106, 107, 108, 109, 110, 111, 112, 113, 114, 115, 116] rfl (by decide +kernel)
set_option maxRecDepth 100000 in
theorem ggX9_readComparison_X9_put : GoodIn wsX9_readComparison wsX9_put := goodIn_r _ [103, 104, 105, 117, 118, 119] rfl (by decide +kernel)
set_option maxRecDepth 100000 in
theorem ggX9_readComparison_X5_refuse : GoodIn wsX9_readComparison wsX5_refuse := goodIn_r _ [6, 7, 8, 9, 10, 5, 11, 12, 13, 106, 107, 108, 109, 110, 111, 112, 113, 114, 115, 116] rfl (by decide +kernel)
set_option maxRecDepth 100000 in
theorem ggX9_isSo_X7_isBoat : GoodIn wsX9_isSo wsX7_isBoat := goodIn_r _ [10, 11, 62, 63, 64, 65, 66, 67, 68, 69, 70, 71, 72, 73, 74, 75, 76, 77, 78, 79, 80] rfl (by decide +kernel)
set_option maxRecDepth 100000 in
theorem ggX9_isSo_X9_compares : GoodIn wsX9_isSo wsX9_compares := goodIn_r _ [61] rfl (by decide +kernel)
set_option maxRecDepth 100000 in
theorem ggX9_isSo_X7_isEaten : GoodIn wsX9_isSo wsX7_isEaten := goodIn_r _ [15, 16, 17, 7, 8, 9, 10, 11, 62, 63, 64, 65, 66, 67, 68, 69, 70, 71, 72, 73, 74, 75, 76, 77, 78, 79, 80] rfl (by decide +kernel)
set_option maxRecDepth 100000 in
theorem ggX9_isSo_X7_isAfloat : GoodIn wsX9_isSo wsX7_isAfloat := goodIn_r _ [21, 22, 17, 7, 8, 9, 10, 11, 23, 13, 14, 15, 16, 24, 25, 26, 27, 28, 29, 30, 31, 32, 33, 34, 35, 36, 37, 38, 39, 40, 41, 42, 43, 44, 45, 62, 63, 64, 65, 66, 67, 68, 69, 70, 71, 72, 73, 74, 75, 76, 77, 78, 79, 80] rfl (by decide +kernel)
set_option maxRecDepth 100000 in
theorem ggX9_isSo_X7_hasLumpIn : GoodIn wsX9_isSo wsX7_hasLumpIn := goodIn_r _ [38, 39, 40, 62, 63, 64, 65, 66, 67, 68, 69, 70, 71, 72, 73, 74, 75, 76, 77, 78, 79, 80] rfl (by decide +kernel)
set_option maxRecDepth 100000 in
theorem ggX9_isSo_X7_isLump : GoodIn wsX9_isSo wsX7_isLump := goodIn_r _ [50, 39, 62, 63, 64, 65, 66, 67, 68, 69, 70, 71, 72, 73, 74, 75, 76, 77, 78, 79, 80] rfl (by decide +kernel)
set_option maxRecDepth 100000 in
theorem ggX9_isSo_X7_areNear : GoodIn wsX9_isSo wsX7_areNear := goodIn_r _ [53, 54, 55, 56, 57] rfl (by decide +kernel)
set_option maxRecDepth 100000 in
theorem ggX9_holds_X9_isSo : GoodIn wsX9_holds wsX9_isSo := goodIn_r _ [6, 7, 8, 9, 10, 11, 12, 13, 14, 15, 16, 17, 18, 19, 20, 21, 22, 23, 24, 25, 26, 27, 28, 29, 30, 31, 32, 33, 34, 35, 36, 37, 38, 39, 40, 41, 42, 43, 44, 45, 46, 47, 48, 49, 50, 51, 52, 53, 54, 55, 56, 57, 58, 59, 60, 61, 62, 63, 64, 65, 5, 66, 70, 71, 72, 73, 74, 75, 76, 77, 78, 79, 80, 81, 82, 83, 84, 85, 86, 87, 88] rfl (by decide +kernel)
set_option maxRecDepth 100000 in
theorem gX9_readLump_X5_nextWord : GoodIn wsX9_readLump (wsV RX9 47 RX5 yX5_nextWord wsX5_nextWord) := goodIn_app (goodIn_of _ (by decide +kernel)) ggX9_readLump_X5_nextWord
set_option maxRecDepth 100000 in
theorem gX9_readLump_X7_lumpNamed : GoodIn wsX9_readLump (wsV RX9 75 RX7 yX7_lumpNamed wsX7_lumpNamed) := goodIn_app (goodIn_of _ (by decide +kernel)) ggX9_readLump_X7_lumpNamed
set_option maxRecDepth 100000 in
theorem gX9_readLump_X5_refuse : GoodIn wsX9_readLump (wsV RX9 40 RX5 yX5_refuse wsX5_refuse) := goodIn_app (goodIn_of _ (by decide +kernel)) ggX9_readLump_X5_refuse
set_option maxRecDepth 100000 in
theorem gX9_readLump_X5_advance : GoodIn wsX9_readLump (wsV RX9 51 RX5 yX5_advance wsX5_advance) := goodIn_app (goodIn_of _ (by decide +kernel)) ggX9_readLump_X5_advance
set_option maxRecDepth 100000 in
theorem gX9_readLump_X9_put : GoodIn wsX9_readLump (wsV RX9 54 RX9 yX9_put wsX9_put) := goodIn_app (goodIn_of _ (by decide +kernel)) ggX9_readLump_X9_put
set_option maxRecDepth 100000 in
theorem gX9_readComparison_X5_advance : GoodIn wsX9_readComparison (wsV RX9 51 RX5 yX5_advance wsX5_advance) := goodIn_app (goodIn_of _ (by decide +kernel)) ggX9_readComparison_X5_advance
set_option maxRecDepth 100000 in
theorem gX9_readComparison_X5_takeNumber : GoodIn wsX9_readComparison (wsV RX9 81 RX5 yX5_takeNumber wsX5_takeNumber) := goodIn_app (goodIn_of _ (by decide +kernel)) ggX9_readComparison_X5_takeNumber
set_option maxRecDepth 100000 in
theorem gX9_readComparison_X9_put : GoodIn wsX9_readComparison (wsV RX9 54 RX9 yX9_put wsX9_put) := goodIn_app (goodIn_of _ (by decide +kernel)) ggX9_readComparison_X9_put
set_option maxRecDepth 100000 in
theorem gX9_readComparison_X5_refuse : GoodIn wsX9_readComparison (wsV RX9 40 RX5 yX5_refuse wsX5_refuse) := goodIn_app (goodIn_of _ (by decide +kernel)) ggX9_readComparison_X5_refuse
set_option maxRecDepth 100000 in
theorem gX9_isSo_X7_isBoat : GoodIn wsX9_isSo (wsV RX9 89 RX7 yX7_isBoat wsX7_isBoat) := goodIn_app (goodIn_of _ (by decide +kernel)) ggX9_isSo_X7_isBoat
set_option maxRecDepth 100000 in
theorem gX9_isSo_X9_compares : GoodIn wsX9_isSo (va_wsS RX9 117 yX9_compares wsX9_compares) := goodIn_app (goodIn_of _ (by decide +kernel)) ggX9_isSo_X9_compares
set_option maxRecDepth 100000 in
theorem gX9_isSo_X7_isEaten : GoodIn wsX9_isSo (wsV RX9 92 RX7 yX7_isEaten wsX7_isEaten) := goodIn_app (goodIn_of _ (by decide +kernel)) ggX9_isSo_X7_isEaten
set_option maxRecDepth 100000 in
theorem gX9_isSo_X7_isAfloat : GoodIn wsX9_isSo (wsV RX9 95 RX7 yX7_isAfloat wsX7_isAfloat) := goodIn_app (goodIn_of _ (by decide +kernel)) ggX9_isSo_X7_isAfloat
set_option maxRecDepth 100000 in
theorem gX9_isSo_X7_hasLumpIn : GoodIn wsX9_isSo (wsV RX9 101 RX7 yX7_hasLumpIn wsX7_hasLumpIn) := goodIn_app (goodIn_of _ (by decide +kernel)) ggX9_isSo_X7_hasLumpIn
set_option maxRecDepth 100000 in
theorem gX9_isSo_X7_isLump : GoodIn wsX9_isSo (wsV RX9 104 RX7 yX7_isLump wsX7_isLump) := goodIn_app (goodIn_of _ (by decide +kernel)) ggX9_isSo_X7_isLump
set_option maxRecDepth 100000 in
theorem gX9_isSo_X7_areNear : GoodIn wsX9_isSo (va_wsS RX9 110 yX7_areNear wsX7_areNear) := goodIn_app (goodIn_of _ (by decide +kernel)) ggX9_isSo_X7_areNear
set_option maxRecDepth 100000 in
theorem gX9_holds_X9_isSo : GoodIn wsX9_holds (va_wsS RX9 85 yX9_isSo wsX9_isSo) := goodIn_app (goodIn_of _ (by decide +kernel)) ggX9_holds_X9_isSo
set_option maxHeartbeats 4000000 in
set_option maxRecDepth 100000 in
theorem c_n_copy (l : Launch) (dC : Nat → ClassId) (dI : Nat → Nat → Nat) (ky : Nat → ClassId) (sz : Nat) (se : Nat) (ccodes : Nat) (ccodeCount : Nat) (cones : Int32) (ccodesF : Nat → Int32) (sf : Nat) (ecodes : Nat) (ecodeCount : Nat) (eones : Int32) (ecodesF : Nat → Int32) (iv_cse_0 : ccodeCount ≤ 40) (iv_esf_0 : ecodeCount ≤ 40) : Met l yX9_copy wsX9_copy ({ frames := 1, cells := 0, slots := 0, locals := 60 }) (PcU dC dI ky [.ref se, .ref sf] [(se, .inr (9, [.ref ccodes, .int (nI ccodeCount), .int cones])), (ccodes, .inl (ky 0, 40, .inl ccodesF)), (sf, .inr (9, [.ref ecodes, .int (nI ecodeCount), .int eones])), (ecodes, .inl (ky 0, 40, .inl ecodesF))] sz) (va_Qv (fun (u : Nat × Int32 × (Nat → Int32)) => match u with | (ecodeCountG, eonesG, ecodesG) => ecodeCountG ≤ 40) (BU dC dI ky (fun (u : Nat × Int32 × (Nat → Int32)) => match u with | (ecodeCountG, eonesG, ecodesG) => [(se, .inr (9, [.ref ccodes, .int (nI ccodeCount), .int cones])), (ccodes, .inl (ky 0, 40, .inl ccodesF)), (sf, .inr (9, [.ref ecodes, .int (nI ecodeCountG), .int eonesG])), (ecodes, .inl (ky 0, 40, .inl ecodesG))]) (va_A [(se, .inr (9, [.ref ccodes, .int (nI ccodeCount), .int cones])), (ccodes, .inl (ky 0, 40, .inl ccodesF)), (sf, .inr (9, [.ref ecodes, .int (nI ecodeCount), .int eones])), (ecodes, .inl (ky 0, 40, .inl ecodesF))] sz)) (va_A [(se, .inr (9, [.ref ccodes, .int (nI ccodeCount), .int cones])), (ccodes, .inl (ky 0, 40, .inl ccodesF)), (sf, .inr (9, [.ref ecodes, .int (nI ecodeCount), .int eones])), (ecodes, .inl (ky 0, 40, .inl ecodesF))] sz)) 0 0 (va_A [(se, .inr (9, [.ref ccodes, .int (nI ccodeCount), .int cones])), (ccodes, .inl (ky 0, 40, .inl ccodesF)), (sf, .inr (9, [.ref ecodes, .int (nI ecodeCount), .int eones])), (ecodes, .inl (ky 0, 40, .inl ecodesF))] sz) := by
  refine Met.ofW (cc := cX9_copy) (maxL := 2) (ret := none) (by decide) rfl ?_
  intro p e s m args below meth c s₁ B hml hv
  obtain ⟨rfl, hsz, hP, hK, hD0⟩ := hv
  have hx := B.exec
  have hb := B.bytes
  have hr := B.returns
  have hts := atoms_spec (ws := wsX9_copy) B.pre
  have hown : s.vm.findClass RX9 = some m.cls := findClass_of_methodNamed B.named
  have hlocks := B.notSynchronized
  have hin9 : ∀ w ∈ u_ws RX9 TX9 3, w ∈ wsX9_copy := by decide +kernel
  subst hsz
  have hD := hD0.self (sz := s.heap.size)
  generalize hAe : va_A [(se, .inr (9, [.ref ccodes, .int (nI ccodeCount), .int cones])), (ccodes, .inl (ky 0, 40, .inl ccodesF)), (sf, .inr (9, [.ref ecodes, .int (nI ecodeCount), .int eones])), (ecodes, .inl (ky 0, 40, .inl ecodesF))] s.heap.size = A at hD ⊢
  have hA : ∀ q : Nat, s.heap.size ≤ q → A q := fun q h => by rw [← hAe]; exact Or.inr h
  have hS : va_S A s.heap s.heap [] := va_S.rf
  have hl := lv_entry ([.ref se, .ref sf]) (n := 2) (Nat.le_of_ble_eq_true rfl)
  rw [lg_entry_eq]
  generalize (lg_sl ([.ref se, .ref sf]) ++ List.replicate (2 - (lg_sl ([.ref se, .ref sf])).length) Slot.unset).toArray = ls at hl ⊢
  have hl : lv_has ls 2 [(0, .ref se), (1, .ref sf)] := hl
  refine q_name (fun Q hQ => ?_)
  generalize ([.ref se, .ref sf] : List Value).toArray = args at hts hQ ⊢
  refine lv_aload_n hx hb dX9_copy_0 rfl (lv_at hl 0 rfl) ?_
  refine lv_ifnull hx hb dX9_copy_1 ?_
  refine lv_aload_n hx hb dX9_copy_4 rfl (lv_at hl 1 rfl) ?_
  refine lv_ifnonnull (tgt := 9) hx hb dX9_copy_5 (by decide) ?_
  refine lv_aload_n hx hb dX9_copy_9 rfl (lv_at hl 0 rfl) ?_
  refine va_get (D := (dC, dI)) (ci := 9) (v := .ref ccodes) (C := RX9) (T := TX9) (N := 3) hx hb hts hin9 hown hK hP 0 rfl rfl 0 (by decide) (hts (.fieldLink RX9 11 "PorridgeSea$Sentence" "codes" "[I") (List.mem_of_getElem? (i := 1) rfl)) (fun _ h9 => h9) rfl dX9_copy_10 ?_
  refine lv_iconst (v := nI 0) hx hb dX9_copy_13 (by decide) ?_
  refine lv_aload_n hx hb dX9_copy_14 rfl (lv_at hl 1 rfl) ?_
  refine va_get (D := (dC, dI)) (ci := 9) (v := .ref ecodes) (C := RX9) (T := TX9) (N := 3) hx hb hts hin9 hown hK hP 2 rfl rfl 0 (by decide) (hts (.fieldLink RX9 11 "PorridgeSea$Sentence" "codes" "[I") (List.mem_of_getElem? (i := 1) rfl)) (fun _ h9 => h9) rfl dX9_copy_15 ?_
  refine lv_iconst (v := nI 0) hx hb dX9_copy_18 (by decide) ?_
  refine lv_bipush (v := nI 40) hx hb dX9_copy_19 (by decide) ?_
  refine va_copyi hx hb (by rw [hml]; exact hl.1.symm) hown (hts _ (List.mem_of_getElem? (i := 2) rfl)) (hts _ (List.mem_of_getElem? (i := 3) rfl)) (hts _ (List.mem_of_getElem? (i := 4) rfl)) (hts _ (List.mem_of_getElem? (i := 5) rfl)) hK hP hD hS 1 3 0 0 rfl rfl rfl rfl rfl (by decide) (by decide) (by decide) (by decide) (by decide) (fun _ _ => rfl) (Nat.le_of_ble_eq_true rfl) (Nat.le_of_ble_eq_true rfl) dX9_copy_21 (fun H locs hP hD hS => ?_)
  obtain ⟨g1, e2⟩ : ∃ z9, z9 = va_cpy ccodesF ecodesF (nI 0).toNatClampNeg (nI 0).toNatClampNeg (nI 40).toNatClampNeg := ⟨_, rfl⟩
  rw [← e2] at hP hD
  have hP : va_P (dC, dI) vwCl [(se, .inr (9, [.ref ccodes, .int (nI ccodeCount), .int cones])), (ccodes, .inl (ky 0, 40, .inl ccodesF)), (sf, .inr (9, [.ref ecodes, .int (nI ecodeCount), .int eones])), (ecodes, .inl (ky 0, 40, .inl g1))] H := hP
  have hD : va_D A [(se, .inr (9, [.ref ccodes, .int (nI ccodeCount), .int cones])), (ccodes, .inl (ky 0, 40, .inl ccodesF)), (sf, .inr (9, [.ref ecodes, .int (nI ecodeCount), .int eones])), (ecodes, .inl (ky 0, 40, .inl g1))] := hD
  refine lv_aload_n hx hb dX9_copy_24 rfl (lv_at hl 1 rfl) ?_
  refine lv_aload_n hx hb dX9_copy_25 rfl (lv_at hl 0 rfl) ?_
  refine va_get (D := (dC, dI)) (ci := 9) (v := .int (nI ccodeCount)) (C := RX9) (T := TX9) (N := 3) hx hb hts hin9 hown hK hP 0 rfl rfl 1 (by decide) (hts (.fieldLink RX9 15 "PorridgeSea$Sentence" "codeCount" "I") (List.mem_of_getElem? (i := 6) rfl)) (fun _ h9 => h9) rfl dX9_copy_26 ?_
  refine va_put (D := (dC, dI)) (ci := 9) (v := .int (nI ccodeCount)) (ty := .int) (C := RX9) (T := TX9) (N := 3) hx hb hts hin9 tyX9 tyX9_ok nmX9 hown hK hP hD hS 2 rfl rfl 1 (by decide) (hts (.fieldLink RX9 15 "PorridgeSea$Sentence" "codeCount" "I") (List.mem_of_getElem? (i := 6) rfl)) (fun _ h9 => h9) rfl (by decide +kernel) rfl rfl (Nat.le_of_ble_eq_true rfl) dX9_copy_29 (fun H locs hP hD hS => ?_)
  have hP : va_P (dC, dI) vwCl [(se, .inr (9, [.ref ccodes, .int (nI ccodeCount), .int cones])), (ccodes, .inl (ky 0, 40, .inl ccodesF)), (sf, .inr (9, [.ref ecodes, .int (nI ccodeCount), .int eones])), (ecodes, .inl (ky 0, 40, .inl g1))] H := hP
  have hD : va_D A [(se, .inr (9, [.ref ccodes, .int (nI ccodeCount), .int cones])), (ccodes, .inl (ky 0, 40, .inl ccodesF)), (sf, .inr (9, [.ref ecodes, .int (nI ccodeCount), .int eones])), (ecodes, .inl (ky 0, 40, .inl g1))] := hD
  refine lv_aload_n hx hb dX9_copy_32 rfl (lv_at hl 1 rfl) ?_
  refine lv_aload_n hx hb dX9_copy_33 rfl (lv_at hl 0 rfl) ?_
  refine va_get (D := (dC, dI)) (ci := 9) (v := .int cones) (C := RX9) (T := TX9) (N := 3) hx hb hts hin9 hown hK hP 0 rfl rfl 2 (by decide) (hts (.fieldLink RX9 19 "PorridgeSea$Sentence" "ones" "I") (List.mem_of_getElem? (i := 7) rfl)) (fun _ h9 => h9) rfl dX9_copy_34 ?_
  refine va_put (D := (dC, dI)) (ci := 9) (v := .int cones) (ty := .int) (C := RX9) (T := TX9) (N := 3) hx hb hts hin9 tyX9 tyX9_ok nmX9 hown hK hP hD hS 2 rfl rfl 2 (by decide) (hts (.fieldLink RX9 19 "PorridgeSea$Sentence" "ones" "I") (List.mem_of_getElem? (i := 7) rfl)) (fun _ h9 => h9) rfl (by decide +kernel) rfl rfl (Nat.le_of_ble_eq_true rfl) dX9_copy_37 (fun H locs hP hD hS => ?_)
  have hP : va_P (dC, dI) vwCl [(se, .inr (9, [.ref ccodes, .int (nI ccodeCount), .int cones])), (ccodes, .inl (ky 0, 40, .inl ccodesF)), (sf, .inr (9, [.ref ecodes, .int (nI ccodeCount), .int cones])), (ecodes, .inl (ky 0, 40, .inl g1))] H := hP
  have hD : va_D A [(se, .inr (9, [.ref ccodes, .int (nI ccodeCount), .int cones])), (ccodes, .inl (ky 0, 40, .inl ccodesF)), (sf, .inr (9, [.ref ecodes, .int (nI ccodeCount), .int cones])), (ecodes, .inl (ky 0, 40, .inl g1))] := hD
  rw [hQ]
  exact W.vret hx hb hr (fun t9 ht9 hW9 => ⟨⟨(ccodeCount, cones, g1), rfl, iv_cse_0, by rw [ht9]; exact hP, va_K.moved hW9.alike hK, hD⟩, hS.F ht9⟩) hS.2.2 dX9_copy_40
set_option maxRecDepth 20000 in
theorem lf_n_isThere_1   : (nI 0) = nI 0 ∨ (nI 0) = nI 1 := by
  try have k_0 := ia_n 0 (by first | decide | omega)
  try have k_1 := ia_n 1 (by first | decide | omega)
  try simp only [ia_lt, ia_le, ia_eq, ia_m1, ia_0, ia_1, ne_eq, true_and, and_true, false_and, and_false, or_false, false_or, or_true, true_or, not_true_eq_false, not_false_eq_true] at *
  all_goals omega
set_option maxRecDepth 20000 in
theorem lf_n_isThere_2   : (nI 1) = nI 0 ∨ (nI 1) = nI 1 := by
  try have k_0 := ia_n 1 (by first | decide | omega)
  try have k_1 := ia_n 0 (by first | decide | omega)
  try simp only [ia_lt, ia_le, ia_eq, ia_m1, ia_0, ia_1, ne_eq, true_and, and_true, false_and, and_false, or_false, false_or, or_true, true_or, not_true_eq_false, not_false_eq_true] at *
  all_goals omega
set_option maxHeartbeats 4000000 in
set_option maxRecDepth 100000 in
theorem c_n_isThere (l : Launch) (dC : Nat → ClassId) (dI : Nat → Nat → Nat) (ky : Nat → ClassId) (se : Nat) (ccodes : Nat) (ccodeCount : Nat) (cones : Int32) (iv_cse_0 : ccodeCount ≤ 40) : Met l yX9_isThere wsX9_isThere ({ frames := 0, cells := 0, slots := 0, locals := 0 }) (PcP dC dI ky [.ref se] [(se, .inr (9, [.ref ccodes, .int (nI ccodeCount), .int cones]))]) (vp_Si (fun r : Int32 => r = nI 0 ∨ r = nI 1)) 0 0 (fun _ => False) := by
  refine Met.ofW (cc := cX9_isThere) (maxL := 1) (ret := (some .boolean)) (by decide) rfl ?_
  intro p e s m args below meth c s₁ B hml hv
  obtain ⟨rfl, hP, hK⟩ := hv
  have hx := B.exec
  have hb := B.bytes
  have hr := B.returns
  have hts := atoms_spec (ws := wsX9_isThere) B.pre
  have hown : s.vm.findClass RX9 = some m.cls := findClass_of_methodNamed B.named
  have hlocks := B.notSynchronized
  have hin9 : ∀ w ∈ u_ws RX9 TX9 3, w ∈ wsX9_isThere := by decide +kernel
  have hl := lv_entry ([.ref se]) (n := 1) (Nat.le_of_ble_eq_true rfl)
  rw [lg_entry_eq]
  generalize (lg_sl ([.ref se]) ++ List.replicate (1 - (lg_sl ([.ref se])).length) Slot.unset).toArray = ls at hl ⊢
  have hl : lv_has ls 1 [(0, .ref se)] := hl
  refine q_name (fun Q hQ => ?_)
  generalize ([.ref se] : List Value).toArray = args at hts hQ ⊢
  refine lv_aload_n hx hb dX9_isThere_0 rfl (lv_at hl 0 rfl) ?_
  refine va_get (D := (dC, dI)) (ci := 9) (v := .int (nI ccodeCount)) (C := RX9) (T := TX9) (N := 3) hx hb hts hin9 hown hK hP 0 rfl rfl 1 (by decide) (hts (.fieldLink RX9 15 "PorridgeSea$Sentence" "codeCount" "I") (List.mem_of_getElem? (i := 1) rfl)) (fun _ h9 => h9) rfl dX9_isThere_1 ?_
  refine n_if_le (x := ccodeCount) (tgt := 11) hx hb (by omega) dX9_isThere_4 (by decide) (fun c1 => ?_) (fun c1 => ?_)
  · refine lv_iconst (v := nI 0) hx hb dX9_isThere_11 (by decide) ?_
    rw [hQ]
    exact W.zret (v := nI 0) hx hb hr (by decide) (fun t9 ht9 hW9 => ⟨nI 0, rfl, (lf_n_isThere_1), ht9⟩) (fun _ h => absurd h List.not_mem_nil) dX9_isThere_12
  · refine lv_iconst (v := nI 1) hx hb dX9_isThere_7 (by decide) ?_
    refine lv_goto (tgt := 12) hx hb dX9_isThere_8 (by decide) ?_
    rw [hQ]
    exact W.zret (v := nI 1) hx hb hr (by decide) (fun t9 ht9 hW9 => ⟨nI 1, rfl, (lf_n_isThere_2), ht9⟩) (fun _ h => absurd h List.not_mem_nil) dX9_isThere_12
set_option maxRecDepth 20000 in
theorem lf_n_compares_1   : (nI 0) = nI 0 ∨ (nI 0) = nI 1 := by
  try have k_0 := ia_n 0 (by first | decide | omega)
  try have k_1 := ia_n 1 (by first | decide | omega)
  try simp only [ia_lt, ia_le, ia_eq, ia_m1, ia_0, ia_1, ne_eq, true_and, and_true, false_and, and_false, or_false, false_or, or_true, true_or, not_true_eq_false, not_false_eq_true] at *
  all_goals omega
set_option maxRecDepth 20000 in
theorem lf_n_compares_2   : (nI 1) = nI 0 ∨ (nI 1) = nI 1 := by
  try have k_0 := ia_n 1 (by first | decide | omega)
  try have k_1 := ia_n 0 (by first | decide | omega)
  try simp only [ia_lt, ia_le, ia_eq, ia_m1, ia_0, ia_1, ne_eq, true_and, and_true, false_and, and_false, or_false, false_or, or_true, true_or, not_true_eq_false, not_false_eq_true] at *
  all_goals omega
set_option maxRecDepth 20000 in
theorem lf_n_compares_3   : (nI 0) = nI 0 ∨ (nI 0) = nI 1 := by
  try have k_0 := ia_n 0 (by first | decide | omega)
  try have k_1 := ia_n 1 (by first | decide | omega)
  try simp only [ia_lt, ia_le, ia_eq, ia_m1, ia_0, ia_1, ne_eq, true_and, and_true, false_and, and_false, or_false, false_or, or_true, true_or, not_true_eq_false, not_false_eq_true] at *
  all_goals omega
set_option maxRecDepth 20000 in
theorem lf_n_compares_4   : (nI 1) = nI 0 ∨ (nI 1) = nI 1 := by
  try have k_0 := ia_n 1 (by first | decide | omega)
  try have k_1 := ia_n 0 (by first | decide | omega)
  try simp only [ia_lt, ia_le, ia_eq, ia_m1, ia_0, ia_1, ne_eq, true_and, and_true, false_and, and_false, or_false, false_or, or_true, true_or, not_true_eq_false, not_false_eq_true] at *
  all_goals omega
set_option maxRecDepth 20000 in
theorem lf_n_compares_5   : (nI 0) = nI 0 ∨ (nI 0) = nI 1 := by
  try have k_0 := ia_n 0 (by first | decide | omega)
  try have k_1 := ia_n 1 (by first | decide | omega)
  try simp only [ia_lt, ia_le, ia_eq, ia_m1, ia_0, ia_1, ne_eq, true_and, and_true, false_and, and_false, or_false, false_or, or_true, true_or, not_true_eq_false, not_false_eq_true] at *
  all_goals omega
set_option maxRecDepth 20000 in
theorem lf_n_compares_6   : (nI 1) = nI 0 ∨ (nI 1) = nI 1 := by
  try have k_0 := ia_n 1 (by first | decide | omega)
  try have k_1 := ia_n 0 (by first | decide | omega)
  try simp only [ia_lt, ia_le, ia_eq, ia_m1, ia_0, ia_1, ne_eq, true_and, and_true, false_and, and_false, or_false, false_or, or_true, true_or, not_true_eq_false, not_false_eq_true] at *
  all_goals omega
set_option maxHeartbeats 4000000 in
set_option maxRecDepth 100000 in
theorem c_n_compares (l : Launch) (dC : Nat → ClassId) (dI : Nat → Nat → Nat) (ky : Nat → ClassId) (x : Int32) (y : Int32) (z : Int32)  : Met l yX9_compares wsX9_compares ({ frames := 0, cells := 0, slots := 0, locals := 0 }) (PcP dC dI ky [.int x, .int y, .int z] []) (vp_Si (fun r : Int32 => r = nI 0 ∨ r = nI 1)) 0 0 (fun _ => False) := by
  refine Met.ofW (cc := cX9_compares) (maxL := 3) (ret := (some .boolean)) (by decide) rfl ?_
  intro p e s m args below meth c s₁ B hml hv
  obtain ⟨rfl, hP, hK⟩ := hv
  have hx := B.exec
  have hb := B.bytes
  have hr := B.returns
  have hts := atoms_spec (ws := wsX9_compares) B.pre
  have hown : s.vm.findClass RX9 = some m.cls := findClass_of_methodNamed B.named
  have hlocks := B.notSynchronized
  have hl := lv_entry ([.int x, .int y, .int z]) (n := 3) (Nat.le_of_ble_eq_true rfl)
  rw [lg_entry_eq]
  generalize (lg_sl ([.int x, .int y, .int z]) ++ List.replicate (3 - (lg_sl ([.int x, .int y, .int z])).length) Slot.unset).toArray = ls at hl ⊢
  have hl : lv_has ls 3 [(0, .int x), (1, .int y), (2, .int z)] := hl
  refine q_name (fun Q hQ => ?_)
  generalize ([.int x, .int y, .int z] : List Value).toArray = args at hts hQ ⊢
  refine lv_iload_n hx hb dX9_compares_0 rfl (lv_at hl 1 rfl) ?_
  refine lv_bipush (v := nI 60) hx hb dX9_compares_1 (by decide) ?_
  refine lv_icmp_ne (tgt := 17) hx hb dX9_compares_3 (by decide) (fun c1 => ?_) (fun c1 => ?_)
  · refine lv_iload_n hx hb dX9_compares_17 rfl (lv_at hl 1 rfl) ?_
    refine lv_bipush (v := nI 62) hx hb dX9_compares_18 (by decide) ?_
    refine lv_icmp_ne (tgt := 36) hx hb dX9_compares_20 (by decide) (fun c2 => ?_) (fun c2 => ?_)
    · refine lv_iload_n hx hb dX9_compares_36 rfl (lv_at hl 0 rfl) ?_
      refine lv_iload_n hx hb dX9_compares_37 rfl (lv_at hl 2 rfl) ?_
      refine lv_icmp_ne (tgt := 45) hx hb dX9_compares_38 (by decide) (fun c3 => ?_) (fun c3 => ?_)
      · refine lv_iconst (v := nI 0) hx hb dX9_compares_45 (by decide) ?_
        rw [hQ]
        exact W.zret (v := nI 0) hx hb hr (by decide) (fun t9 ht9 hW9 => ⟨nI 0, rfl, (lf_n_compares_1), ht9⟩) (fun _ h => absurd h List.not_mem_nil) dX9_compares_46
      · refine lv_iconst (v := nI 1) hx hb dX9_compares_41 (by decide) ?_
        refine lv_goto (tgt := 46) hx hb dX9_compares_42 (by decide) ?_
        rw [hQ]
        exact W.zret (v := nI 1) hx hb hr (by decide) (fun t9 ht9 hW9 => ⟨nI 1, rfl, (lf_n_compares_2), ht9⟩) (fun _ h => absurd h List.not_mem_nil) dX9_compares_46
    · refine lv_iload_n hx hb dX9_compares_23 rfl (lv_at hl 0 rfl) ?_
      refine lv_iload_n hx hb dX9_compares_24 rfl (lv_at hl 2 rfl) ?_
      refine lv_icmp_le (tgt := 32) hx hb dX9_compares_25 (by decide) (fun c4 => ?_) (fun c4 => ?_)
      · refine lv_iconst (v := nI 0) hx hb dX9_compares_32 (by decide) ?_
        refine lv_goto (tgt := 46) hx hb dX9_compares_33 (by decide) ?_
        rw [hQ]
        exact W.zret (v := nI 0) hx hb hr (by decide) (fun t9 ht9 hW9 => ⟨nI 0, rfl, (lf_n_compares_3), ht9⟩) (fun _ h => absurd h List.not_mem_nil) dX9_compares_46
      · refine lv_iconst (v := nI 1) hx hb dX9_compares_28 (by decide) ?_
        refine lv_goto (tgt := 46) hx hb dX9_compares_29 (by decide) ?_
        rw [hQ]
        exact W.zret (v := nI 1) hx hb hr (by decide) (fun t9 ht9 hW9 => ⟨nI 1, rfl, (lf_n_compares_4), ht9⟩) (fun _ h => absurd h List.not_mem_nil) dX9_compares_46
  · refine lv_iload_n hx hb dX9_compares_6 rfl (lv_at hl 0 rfl) ?_
    refine lv_iload_n hx hb dX9_compares_7 rfl (lv_at hl 2 rfl) ?_
    refine lv_icmp_ge (tgt := 15) hx hb dX9_compares_8 (by decide) (fun c5 => ?_) (fun c5 => ?_)
    · refine lv_iconst (v := nI 0) hx hb dX9_compares_15 (by decide) ?_
      rw [hQ]
      exact W.zret (v := nI 0) hx hb hr (by decide) (fun t9 ht9 hW9 => ⟨nI 0, rfl, (lf_n_compares_5), ht9⟩) (fun _ h => absurd h List.not_mem_nil) dX9_compares_16
    · refine lv_iconst (v := nI 1) hx hb dX9_compares_11 (by decide) ?_
      refine lv_goto (tgt := 16) hx hb dX9_compares_12 (by decide) ?_
      rw [hQ]
      exact W.zret (v := nI 1) hx hb hr (by decide) (fun t9 ht9 hW9 => ⟨nI 1, rfl, (lf_n_compares_6), ht9⟩) (fun _ h => absurd h List.not_mem_nil) dX9_compares_16
set_option maxRecDepth 20000 in
theorem lf_n_isSo_1 (r24 : Int32) (p25 : r24 = nI 0 ∨ r24 = nI 1) : narrow .boolean (.int r24) = .int r24 := by
  have h : r24 = 0 ∨ r24 = 1 := by
    have b_r24 := ia_b r24
    try have k_0 := ia_n 0 (by first | decide | omega)
    try have k_1 := ia_n 1 (by first | decide | omega)
    try simp only [ia_lt, ia_le, ia_eq, ia_m1, ia_0, ia_1, ne_eq, true_and, and_true, false_and, and_false, or_false, false_or, or_true, true_or, not_true_eq_false, not_false_eq_true] at *
    all_goals omega
  rcases h with h | h <;> rw [h] <;> rfl
set_option maxRecDepth 20000 in
theorem lf_n_isSo_2   : (nI 1) = nI 0 ∨ (nI 1) = nI 1 := by
  try have k_0 := ia_n 1 (by first | decide | omega)
  try have k_1 := ia_n 0 (by first | decide | omega)
  try simp only [ia_lt, ia_le, ia_eq, ia_m1, ia_0, ia_1, ne_eq, true_and, and_true, false_and, and_false, or_false, false_or, or_true, true_or, not_true_eq_false, not_false_eq_true] at *
  all_goals omega
set_option maxRecDepth 20000 in
theorem lf_n_isSo_3  (t30 : True) : (nI 0) = nI 0 ∨ (nI 0) = nI 1 := by
  try have k_0 := ia_n 0 (by first | decide | omega)
  try have k_1 := ia_n 1 (by first | decide | omega)
  try simp only [ia_lt, ia_le, ia_eq, ia_m1, ia_0, ia_1, ne_eq, true_and, and_true, false_and, and_false, or_false, false_or, or_true, true_or, not_true_eq_false, not_false_eq_true] at *
  all_goals omega
set_option maxRecDepth 20000 in
theorem lf_n_isSo_4 (r31 : Int32) (p32 : r31 = nI 0 ∨ r31 = nI 1) : narrow .boolean (.int r31) = .int r31 := by
  have h : r31 = 0 ∨ r31 = 1 := by
    have b_r31 := ia_b r31
    try have k_0 := ia_n 0 (by first | decide | omega)
    try have k_1 := ia_n 1 (by first | decide | omega)
    try simp only [ia_lt, ia_le, ia_eq, ia_m1, ia_0, ia_1, ne_eq, true_and, and_true, false_and, and_false, or_false, false_or, or_true, true_or, not_true_eq_false, not_false_eq_true] at *
    all_goals omega
  rcases h with h | h <;> rw [h] <;> rfl
set_option maxRecDepth 20000 in
theorem lf_n_isSo_5 (boats : Nat) (x : Int32) (iv_a_5 : boats ≤ 6) (t3 : 0 ≤ x.toInt) (t4 : x.toInt < boats) : 0 ≤ x.toInt ∧ x.toInt < ((6 : Nat) : Int) := by
  have b_x := ia_b x
  try simp only [ia_lt, ia_le, ia_eq, ia_m1, ia_0, ia_1, ne_eq, true_and, and_true, false_and, and_false, or_false, false_or, or_true, true_or, not_true_eq_false, not_false_eq_true] at *
  all_goals omega
set_option maxRecDepth 20000 in
theorem lf_n_isSo_6 (r38 : Int32) (p39 : r38 = nI 0 ∨ r38 = nI 1) : narrow .boolean (.int r38) = .int r38 := by
  have h : r38 = 0 ∨ r38 = 1 := by
    have b_r38 := ia_b r38
    try have k_0 := ia_n 0 (by first | decide | omega)
    try have k_1 := ia_n 1 (by first | decide | omega)
    try simp only [ia_lt, ia_le, ia_eq, ia_m1, ia_0, ia_1, ne_eq, true_and, and_true, false_and, and_false, or_false, false_or, or_true, true_or, not_true_eq_false, not_false_eq_true] at *
    all_goals omega
  rcases h with h | h <;> rw [h] <;> rfl
set_option maxRecDepth 20000 in
theorem lf_n_isSo_7 (boats : Nat) (x : Int32) (iv_a_5 : boats ≤ 6) (t3 : 0 ≤ x.toInt) (t4 : x.toInt < boats) : 0 ≤ x.toInt ∧ x.toInt < ((6 : Nat) : Int) := by
  have b_x := ia_b x
  try simp only [ia_lt, ia_le, ia_eq, ia_m1, ia_0, ia_1, ne_eq, true_and, and_true, false_and, and_false, or_false, false_or, or_true, true_or, not_true_eq_false, not_false_eq_true] at *
  all_goals omega
set_option maxRecDepth 20000 in
theorem lf_n_isSo_8 (lumps : Nat) (y : Int32) (y7 : Int32) (y9 : Int32) (y11 : Int32) (y13 : Int32) (iv_a_4 : lumps ≤ 6) (e8 : y7 = y >>> ((nI 12) &&& 31)) (e10 : y9 = y >>> ((nI 5) &&& 31)) (e12 : y11 = y9 &&& (nI 127)) (e14 : y13 = y &&& (nI 31)) (c20 : y13 = nI 26) (t42 : 0 ≤ y7.toInt) (t43 : y7.toInt < lumps) : 0 ≤ y7.toInt ∧ y7.toInt < ((6 : Nat) : Int) := by
  have b_y := ia_b y
  have b_y7 := ia_b y7
  have b_y9 := ia_b y9
  have b_y11 := ia_b y11
  have b_y13 := ia_b y13
  try have k_0 := ia_n 12 (by first | decide | omega)
  try have k_1 := ia_n 5 (by first | decide | omega)
  try have k_2 := ia_n 127 (by first | decide | omega)
  try have k_3 := ia_n 31 (by first | decide | omega)
  try have k_4 := ia_n 26 (by first | decide | omega)
  try simp only [ia_lt, ia_le, ia_eq, ia_m1, ia_0, ia_1, ne_eq, true_and, and_true, false_and, and_false, or_false, false_or, or_true, true_or, not_true_eq_false, not_false_eq_true] at *
  all_goals omega
set_option maxRecDepth 20000 in
theorem lf_n_isSo_9   : (nI 0) = nI 0 ∨ (nI 0) = nI 1 := by
  try have k_0 := ia_n 0 (by first | decide | omega)
  try have k_1 := ia_n 1 (by first | decide | omega)
  try simp only [ia_lt, ia_le, ia_eq, ia_m1, ia_0, ia_1, ne_eq, true_and, and_true, false_and, and_false, or_false, false_or, or_true, true_or, not_true_eq_false, not_false_eq_true] at *
  all_goals omega
set_option maxRecDepth 20000 in
theorem lf_n_isSo_10   : (nI 1) = nI 0 ∨ (nI 1) = nI 1 := by
  try have k_0 := ia_n 1 (by first | decide | omega)
  try have k_1 := ia_n 0 (by first | decide | omega)
  try simp only [ia_lt, ia_le, ia_eq, ia_m1, ia_0, ia_1, ne_eq, true_and, and_true, false_and, and_false, or_false, false_or, or_true, true_or, not_true_eq_false, not_false_eq_true] at *
  all_goals omega
set_option maxRecDepth 20000 in
theorem lf_n_isSo_11   : (nI 0) = nI 0 ∨ (nI 0) = nI 1 := by
  try have k_0 := ia_n 0 (by first | decide | omega)
  try have k_1 := ia_n 1 (by first | decide | omega)
  try simp only [ia_lt, ia_le, ia_eq, ia_m1, ia_0, ia_1, ne_eq, true_and, and_true, false_and, and_false, or_false, false_or, or_true, true_or, not_true_eq_false, not_false_eq_true] at *
  all_goals omega
set_option maxRecDepth 20000 in
theorem lf_n_isSo_12 (boats : Nat) (x : Int32) (iv_a_5 : boats ≤ 6) (t3 : 0 ≤ x.toInt) (t4 : x.toInt < boats) : 0 ≤ x.toInt ∧ x.toInt < ((6 : Nat) : Int) := by
  have b_x := ia_b x
  try simp only [ia_lt, ia_le, ia_eq, ia_m1, ia_0, ia_1, ne_eq, true_and, and_true, false_and, and_false, or_false, false_or, or_true, true_or, not_true_eq_false, not_false_eq_true] at *
  all_goals omega
set_option maxRecDepth 20000 in
theorem lf_n_isSo_13 (r65 : Int32) (p66 : r65 = nI 0 ∨ r65 = nI 1) : narrow .boolean (.int r65) = .int r65 := by
  have h : r65 = 0 ∨ r65 = 1 := by
    have b_r65 := ia_b r65
    try have k_0 := ia_n 0 (by first | decide | omega)
    try have k_1 := ia_n 1 (by first | decide | omega)
    try simp only [ia_lt, ia_le, ia_eq, ia_m1, ia_0, ia_1, ne_eq, true_and, and_true, false_and, and_false, or_false, false_or, or_true, true_or, not_true_eq_false, not_false_eq_true] at *
    all_goals omega
  rcases h with h | h <;> rw [h] <;> rfl
set_option maxRecDepth 20000 in
theorem lf_n_isSo_14 (boats : Nat) (x : Int32) (iv_a_5 : boats ≤ 6) (t3 : 0 ≤ x.toInt) (t4 : x.toInt < boats) : 0 ≤ x.toInt ∧ x.toInt < ((6 : Nat) : Int) := by
  have b_x := ia_b x
  try simp only [ia_lt, ia_le, ia_eq, ia_m1, ia_0, ia_1, ne_eq, true_and, and_true, false_and, and_false, or_false, false_or, or_true, true_or, not_true_eq_false, not_false_eq_true] at *
  all_goals omega
set_option maxRecDepth 20000 in
theorem lf_n_isSo_15 (r72 : Int32) (p73 : r72 = nI 0 ∨ r72 = nI 1) : narrow .boolean (.int r72) = .int r72 := by
  have h : r72 = 0 ∨ r72 = 1 := by
    have b_r72 := ia_b r72
    try have k_0 := ia_n 0 (by first | decide | omega)
    try have k_1 := ia_n 1 (by first | decide | omega)
    try simp only [ia_lt, ia_le, ia_eq, ia_m1, ia_0, ia_1, ne_eq, true_and, and_true, false_and, and_false, or_false, false_or, or_true, true_or, not_true_eq_false, not_false_eq_true] at *
    all_goals omega
  rcases h with h | h <;> rw [h] <;> rfl
set_option maxRecDepth 20000 in
theorem lf_n_isSo_16 (boats : Nat) (x : Int32) (iv_a_5 : boats ≤ 6) (t3 : 0 ≤ x.toInt) (t4 : x.toInt < boats) : 0 ≤ x.toInt ∧ x.toInt < ((6 : Nat) : Int) := by
  have b_x := ia_b x
  try simp only [ia_lt, ia_le, ia_eq, ia_m1, ia_0, ia_1, ne_eq, true_and, and_true, false_and, and_false, or_false, false_or, or_true, true_or, not_true_eq_false, not_false_eq_true] at *
  all_goals omega
set_option maxRecDepth 20000 in
theorem lf_n_isSo_17 (r79 : Int32) (p80 : r79 = nI 0 ∨ r79 = nI 1) : narrow .boolean (.int r79) = .int r79 := by
  have h : r79 = 0 ∨ r79 = 1 := by
    have b_r79 := ia_b r79
    try have k_0 := ia_n 0 (by first | decide | omega)
    try have k_1 := ia_n 1 (by first | decide | omega)
    try simp only [ia_lt, ia_le, ia_eq, ia_m1, ia_0, ia_1, ne_eq, true_and, and_true, false_and, and_false, or_false, false_or, or_true, true_or, not_true_eq_false, not_false_eq_true] at *
    all_goals omega
  rcases h with h | h <;> rw [h] <;> rfl
set_option maxRecDepth 20000 in
theorem lf_n_isSo_18   : (nI 0) = nI 0 ∨ (nI 0) = nI 1 := by
  try have k_0 := ia_n 0 (by first | decide | omega)
  try have k_1 := ia_n 1 (by first | decide | omega)
  try simp only [ia_lt, ia_le, ia_eq, ia_m1, ia_0, ia_1, ne_eq, true_and, and_true, false_and, and_false, or_false, false_or, or_true, true_or, not_true_eq_false, not_false_eq_true] at *
  all_goals omega
set_option maxHeartbeats 4000000 in
set_option maxRecDepth 100000 in
theorem c_n_isSo (l : Launch) (dC : Nat → ClassId) (dI : Nat → Nat → Nat) (ky : Nat → ClassId) (a : Nat) (wide : Nat) (high : Nat) (heat : Int32) (cools : Int32) (skinHeat : Int32) (today : Int32) (stirs : Int32) (steps : Int32) (lumps : Nat) (boats : Nat) (thickness : Nat) (lumpNames : Nat) (lumpCells : Nat) (boatNames : Nat) (boatCells : Nat) (loads : Nat) (spoons : Nat) (spoonsLeft : Nat) (depths : Nat) (thicknessF : Nat → Int32) (lumpCellsF : Nat → Int32) (boatCellsF : Nat → Int32) (loadsF : Nat → Int32) (spoonsF : Nat → Int32) (spoonsLeftF : Nat → Int32) (depthsF : Nat → Int32) (x : Int32) (y : Int32) (iv_a_0 : 2 ≤ wide) (iv_a_1 : wide ≤ 6) (iv_a_2 : 2 ≤ high) (iv_a_3 : high ≤ 6) (iv_a_4 : lumps ≤ 6) (iv_a_5 : boats ≤ 6) : Met l yX9_isSo wsX9_isSo ({ frames := 3, cells := 0, slots := 0, locals := 65 }) (PcP dC dI ky [.ref a, .int x, .int y] [(a, .inr (7, [.int (nI wide), .int (nI high), .int heat, .int cools, .int skinHeat, .int today, .int stirs, .int steps, .int (nI lumps), .int (nI boats), .ref thickness, .ref lumpNames, .ref lumpCells, .ref boatNames, .ref boatCells, .ref loads, .ref spoons, .ref spoonsLeft, .ref depths])), (thickness, .inl (ky 0, 36, .inl thicknessF)), (lumpCells, .inl (ky 0, 6, .inl lumpCellsF)), (boatCells, .inl (ky 0, 6, .inl boatCellsF)), (loads, .inl (ky 0, 6, .inl loadsF)), (spoons, .inl (ky 0, 6, .inl spoonsF)), (spoonsLeft, .inl (ky 0, 6, .inl spoonsLeftF)), (depths, .inl (ky 0, 6, .inl depthsF))]) (vp_Si (fun r : Int32 => r = nI 0 ∨ r = nI 1)) 0 0 (fun _ => False) := by
  refine Met.ofW (cc := cX9_isSo) (maxL := 5) (ret := (some .boolean)) (by decide) rfl ?_
  intro p e s m args below meth c s₁ B hml hv
  obtain ⟨rfl, hP, hK⟩ := hv
  have hx := B.exec
  have hb := B.bytes
  have hr := B.returns
  have hts := atoms_spec (ws := wsX9_isSo) B.pre
  have hown : s.vm.findClass RX9 = some m.cls := findClass_of_methodNamed B.named
  have hlocks := B.notSynchronized
  have hin7 : ∀ w ∈ u_ws RX7 TX7 19, w ∈ wsX9_isSo := by decide +kernel
  have hl := lv_entry ([.ref a, .int x, .int y]) (n := 5) (Nat.le_of_ble_eq_true rfl)
  rw [lg_entry_eq]
  generalize (lg_sl ([.ref a, .int x, .int y]) ++ List.replicate (5 - (lg_sl ([.ref a, .int x, .int y])).length) Slot.unset).toArray = ls at hl ⊢
  have hl : lv_has ls 5 [(0, .ref a), (1, .int x), (2, .int y)] := hl
  refine q_name (fun Q hQ => ?_)
  generalize ([.ref a, .int x, .int y] : List Value).toArray = args at hts hQ ⊢
  refine lv_aload_n hx hb dX9_isSo_0 rfl (lv_at hl 0 rfl) ?_
  refine lv_iload_n hx hb dX9_isSo_1 rfl (lv_at hl 1 rfl) ?_
  refine vp_callSi (W.runV (As := [.int x]) (rest := []) ⟨hx, hb, hml, hown, hts⟩ (c_s_isBoat l dC dI ky a wide high heat cools skinHeat today stirs steps lumps boats thickness lumpNames lumpCells boatNames boatCells loads spoons spoonsLeft depths x iv_a_0 iv_a_1 iv_a_2 iv_a_3 iv_a_4 iv_a_5) (cwV 1 hts gX9_isSo_X7_isBoat rfl rfl rfl (by decide +kernel) ⟨(Nat.le_of_ble_eq_true rfl), (Nat.le_of_ble_eq_true rfl)⟩) (pre_PV hK hP [0] rfl (ci := 7) (q0 := 0) rfl rfl) rfl rfl hl.1 rfl (lv_room (Nat.le_of_ble_eq_true rfl)) dX9_isSo_2 ⟨(Nat.le_of_ble_eq_true rfl), (Nat.le_of_ble_eq_true rfl)⟩) (fun r1 p2 => ?_)
  rcases p2 with ⟨rfl, t3, t4⟩ | ⟨rfl, t5⟩
  · refine lv_if_ne (tgt := 10) hx hb dX9_isSo_5 (by decide) (fun c6 => ?_) (fun c6 => absurd c6 (by decide))
    refine lv_iload_n hx hb dX9_isSo_10 rfl (lv_at hl 2 rfl) ?_
    refine lv_bipush (v := nI 12) hx hb dX9_isSo_11 (by decide) ?_
    refine lv_ishr hx hb dX9_isSo_13 ?_
    refine lv_topi (fun y7 e8 => ?_)
    refine lv_istore_n (lv' := [(3, .int y7), (0, .ref a), (1, .int x), (2, .int y)]) hx hb dX9_isSo_14 rfl hl (by decide) rfl (fun ls hl => ?_)
    refine lv_iload_n hx hb dX9_isSo_15 rfl (lv_at hl 3 rfl) ?_
    refine lv_iconst (v := nI 5) hx hb dX9_isSo_16 (by decide) ?_
    refine lv_ishr hx hb dX9_isSo_17 ?_
    refine lv_topi (fun y9 e10 => ?_)
    refine lv_bipush (v := nI 127) hx hb dX9_isSo_18 (by decide) ?_
    refine lv_iand hx hb dX9_isSo_20 ?_
    refine lv_topi (fun y11 e12 => ?_)
    refine lv_istore (lv' := [(4, .int y11), (3, .int y7), (0, .ref a), (1, .int x), (2, .int y)]) hx hb dX9_isSo_21 hl (by decide) rfl (fun ls hl => ?_)
    refine lv_iload_n hx hb dX9_isSo_23 rfl (lv_at hl 4 rfl) ?_
    refine lv_bipush (v := nI 31) hx hb dX9_isSo_24 (by decide) ?_
    refine lv_iand hx hb dX9_isSo_26 ?_
    refine lv_topi (fun y13 e14 => ?_)
    rcases sw_23_29 y13 with c16 | c17 | c18 | c19 | c20 | c21 | c22 | c23
    · refine lv_tableOut (tgt := 162) hx hb dX9_isSo_27 c16 (by decide) ?_
      refine lv_iload_n hx hb dX9_isSo_162 rfl (lv_at hl 3 rfl) ?_
      refine lv_iload hx hb dX9_isSo_163 (lv_at hl 0 rfl) ?_
      refine lv_iload_n hx hb dX9_isSo_165 rfl (lv_at hl 1 rfl) ?_
      refine vp_callSi (W.runS (As := [.int x, .int y11, .int y7]) (rest := []) ⟨hx, hb, hml, hown, hts⟩ (c_n_compares l dC dI ky x y11 y7) (va_cwS 3 hts gX9_isSo_X9_compares rfl rfl rfl (by decide +kernel) ⟨(Nat.le_of_ble_eq_true rfl), (Nat.le_of_ble_eq_true rfl)⟩) (pre_PS hK hP [] rfl) rfl rfl hl.1 rfl (lv_room (Nat.le_of_ble_eq_true rfl)) dX9_isSo_166 ⟨(Nat.le_of_ble_eq_true rfl), (Nat.le_of_ble_eq_true rfl)⟩) (fun r24 p25 => ?_)
      rw [hQ]
      exact W.zret (v := r24) hx hb hr ((lf_n_isSo_1 r24 p25)) (fun t9 ht9 hW9 => ⟨r24, rfl, p25, ht9⟩) (fun _ h => absurd h List.not_mem_nil) dX9_isSo_169
    · refine r_ti (nI 23) c17 ?_
      refine lv_tableIn (off := 41) (tgt := 68) hx hb dX9_isSo_27 (by decide) (by decide) rfl (by decide) ?_
      refine lv_aload_n hx hb dX9_isSo_68 rfl (lv_at hl 2 rfl) ?_
      refine lv_iload_n hx hb dX9_isSo_69 rfl (lv_at hl 3 rfl) ?_
      refine vp_callSi (W.runV (As := [.int x]) (rest := []) ⟨hx, hb, hml, hown, hts⟩ (c_s_isEaten l dC dI ky a wide high heat cools skinHeat today stirs steps lumps boats thickness lumpNames lumpCells boatNames boatCells loads spoons spoonsLeft depths depthsF x iv_a_0 iv_a_1 iv_a_2 iv_a_3 iv_a_4 iv_a_5) (cwV 1 hts gX9_isSo_X7_isEaten rfl rfl rfl (by decide +kernel) ⟨(Nat.le_of_ble_eq_true rfl), (Nat.le_of_ble_eq_true rfl)⟩) (pre_PV hK hP [0, 7] rfl (ci := 7) (q0 := 0) rfl rfl) rfl rfl hl.1 rfl (lv_room (Nat.le_of_ble_eq_true rfl)) dX9_isSo_70 ⟨(Nat.le_of_ble_eq_true rfl), (Nat.le_of_ble_eq_true rfl)⟩) (fun r26 p27 => ?_)
      rcases p27 with ⟨rfl, t28, t29⟩ | ⟨rfl, t30⟩
      · rw [hQ]
        exact W.zret (v := nI 1) hx hb hr (by decide) (fun t9 ht9 hW9 => ⟨nI 1, rfl, (lf_n_isSo_2), ht9⟩) (fun _ h => absurd h List.not_mem_nil) dX9_isSo_73
      · rw [hQ]
        exact W.zret (v := nI 0) hx hb hr (by decide) (fun t9 ht9 hW9 => ⟨nI 0, rfl, (lf_n_isSo_3 t30), ht9⟩) (fun _ h => absurd h List.not_mem_nil) dX9_isSo_73
    · refine r_ti (nI 24) c18 ?_
      refine lv_tableIn (off := 47) (tgt := 74) hx hb dX9_isSo_27 (by decide) (by decide) rfl (by decide) ?_
      refine lv_aload_n hx hb dX9_isSo_74 rfl (lv_at hl 2 rfl) ?_
      refine lv_iload_n hx hb dX9_isSo_75 rfl (lv_at hl 3 rfl) ?_
      refine vp_callSi (W.runV (As := [.int x]) (rest := []) ⟨hx, hb, hml, hown, hts⟩ (c_s_isAfloat l dC dI ky a wide high heat cools skinHeat today stirs steps lumps boats thickness lumpNames lumpCells boatNames boatCells loads spoons spoonsLeft depths thicknessF lumpCellsF boatCellsF loadsF depthsF x iv_a_0 iv_a_1 iv_a_2 iv_a_3 iv_a_4 iv_a_5) (cwV 1 hts gX9_isSo_X7_isAfloat rfl rfl rfl (by decide +kernel) ⟨(Nat.le_of_ble_eq_true rfl), (Nat.le_of_ble_eq_true rfl)⟩) (pre_PV hK hP [0, 1, 2, 3, 4, 7] rfl (ci := 7) (q0 := 0) rfl rfl) rfl rfl hl.1 rfl (lv_room (Nat.le_of_ble_eq_true rfl)) dX9_isSo_76 ⟨(Nat.le_of_ble_eq_true rfl), (Nat.le_of_ble_eq_true rfl)⟩) (fun r31 p32 => ?_)
      rw [hQ]
      exact W.zret (v := r31) hx hb hr ((lf_n_isSo_4 r31 p32)) (fun t9 ht9 hW9 => ⟨r31, rfl, p32, ht9⟩) (fun _ h => absurd h List.not_mem_nil) dX9_isSo_79
    · refine r_ti (nI 25) c19 ?_
      refine lv_tableIn (off := 53) (tgt := 80) hx hb dX9_isSo_27 (by decide) (by decide) rfl (by decide) ?_
      refine lv_aload_n hx hb dX9_isSo_80 rfl (lv_at hl 2 rfl) ?_
      refine lv_aload_n hx hb dX9_isSo_81 rfl (lv_at hl 2 rfl) ?_
      refine va_get (D := (dC, dI)) (ci := 7) (v := .ref boatCells) (C := RX7) (T := TX7) (N := 19) hx hb hts hin7 hown hK hP 0 rfl rfl 14 (by decide) (hts (.fieldLink RX9 98 "PorridgeSea$Sea" "boatCells" "[I") (List.mem_of_getElem? (i := 1) rfl)) (fun _ h9 => h9) rfl dX9_isSo_82 ?_
      refine lv_iload_n hx hb dX9_isSo_85 rfl (lv_at hl 3 rfl) ?_
      obtain ⟨n33, h34, e35⟩ := nat_of x 6 (by decide) (lf_n_isSo_5 boats x iv_a_5 t3 t4)
      rw [e35]
      obtain ⟨y36, e37⟩ : ∃ z9, z9 = boatCellsF n33 := ⟨_, rfl⟩
      refine r_iald hx hb hK hP 3 rfl n33 (by omega) (by decide) y36 e37.symm dX9_isSo_86 ?_
      refine vp_callSi (W.runV (As := [.int y36]) (rest := []) ⟨hx, hb, hml, hown, hts⟩ (c_s_hasLumpIn l dC dI ky a wide high heat cools skinHeat today stirs steps lumps boats thickness lumpNames lumpCells boatNames boatCells loads spoons spoonsLeft depths lumpCellsF y36 iv_a_0 iv_a_1 iv_a_2 iv_a_3 iv_a_4 iv_a_5) (cwV 1 hts gX9_isSo_X7_hasLumpIn rfl rfl rfl (by decide +kernel) ⟨(Nat.le_of_ble_eq_true rfl), (Nat.le_of_ble_eq_true rfl)⟩) (pre_PV hK hP [0, 2] rfl (ci := 7) (q0 := 0) rfl rfl) rfl rfl hl.1 rfl (lv_room (Nat.le_of_ble_eq_true rfl)) dX9_isSo_87 ⟨(Nat.le_of_ble_eq_true rfl), (Nat.le_of_ble_eq_true rfl)⟩) (fun r38 p39 => ?_)
      rw [hQ]
      exact W.zret (v := r38) hx hb hr ((lf_n_isSo_6 r38 p39)) (fun t9 ht9 hW9 => ⟨r38, rfl, p39, ht9⟩) (fun _ h => absurd h List.not_mem_nil) dX9_isSo_90
    · refine r_ti (nI 26) c20 ?_
      refine lv_tableIn (off := 64) (tgt := 91) hx hb dX9_isSo_27 (by decide) (by decide) rfl (by decide) ?_
      refine lv_aload_n hx hb dX9_isSo_91 rfl (lv_at hl 2 rfl) ?_
      refine lv_iload_n hx hb dX9_isSo_92 rfl (lv_at hl 1 rfl) ?_
      refine vp_callSi (W.runV (As := [.int y7]) (rest := []) ⟨hx, hb, hml, hown, hts⟩ (c_s_isLump l dC dI ky a wide high heat cools skinHeat today stirs steps lumps boats thickness lumpNames lumpCells boatNames boatCells loads spoons spoonsLeft depths y7 iv_a_0 iv_a_1 iv_a_2 iv_a_3 iv_a_4 iv_a_5) (cwV 1 hts gX9_isSo_X7_isLump rfl rfl rfl (by decide +kernel) ⟨(Nat.le_of_ble_eq_true rfl), (Nat.le_of_ble_eq_true rfl)⟩) (pre_PV hK hP [0] rfl (ci := 7) (q0 := 0) rfl rfl) rfl rfl hl.1 rfl (lv_room (Nat.le_of_ble_eq_true rfl)) dX9_isSo_93 ⟨(Nat.le_of_ble_eq_true rfl), (Nat.le_of_ble_eq_true rfl)⟩) (fun r40 p41 => ?_)
      rcases p41 with ⟨rfl, t42, t43⟩ | ⟨rfl, t44⟩
      · refine lv_if_eq (tgt := 121) hx hb dX9_isSo_96 (by decide) (fun c45 => absurd c45 (by decide)) (fun c45 => ?_)
        refine lv_aload_n hx hb dX9_isSo_99 rfl (lv_at hl 2 rfl) ?_
        refine va_get (D := (dC, dI)) (ci := 7) (v := .ref boatCells) (C := RX7) (T := TX7) (N := 19) hx hb hts hin7 hown hK hP 0 rfl rfl 14 (by decide) (hts (.fieldLink RX9 98 "PorridgeSea$Sea" "boatCells" "[I") (List.mem_of_getElem? (i := 1) rfl)) (fun _ h9 => h9) rfl dX9_isSo_100 ?_
        refine lv_iload_n hx hb dX9_isSo_103 rfl (lv_at hl 3 rfl) ?_
        obtain ⟨n46, h47, e48⟩ := nat_of x 6 (by decide) (lf_n_isSo_7 boats x iv_a_5 t3 t4)
        rw [e48]
        obtain ⟨y49, e50⟩ : ∃ z9, z9 = boatCellsF n46 := ⟨_, rfl⟩
        refine r_iald hx hb hK hP 3 rfl n46 (by omega) (by decide) y49 e50.symm dX9_isSo_104 ?_
        refine lv_aload_n hx hb dX9_isSo_105 rfl (lv_at hl 2 rfl) ?_
        refine va_get (D := (dC, dI)) (ci := 7) (v := .ref lumpCells) (C := RX7) (T := TX7) (N := 19) hx hb hts hin7 hown hK hP 0 rfl rfl 12 (by decide) (hts (.fieldLink RX9 107 "PorridgeSea$Sea" "lumpCells" "[I") (List.mem_of_getElem? (i := 2) rfl)) (fun _ h9 => h9) rfl dX9_isSo_106 ?_
        refine lv_iload_n hx hb dX9_isSo_109 rfl (lv_at hl 1 rfl) ?_
        obtain ⟨n51, h52, e53⟩ := nat_of y7 6 (by decide) (lf_n_isSo_8 lumps y y7 y9 y11 y13 iv_a_4 e8 e10 e12 e14 c20 t42 t43)
        rw [e53]
        obtain ⟨y54, e55⟩ : ∃ z9, z9 = lumpCellsF n51 := ⟨_, rfl⟩
        refine r_iald hx hb hK hP 2 rfl n51 (by omega) (by decide) y54 e55.symm dX9_isSo_110 ?_
        refine vp_callSi (W.runS (As := [.int y49, .int y54]) (rest := []) ⟨hx, hb, hml, hown, hts⟩ (c_s_areNear l dC dI ky y49 y54) (va_cwS 2 hts gX9_isSo_X7_areNear rfl rfl rfl (by decide +kernel) ⟨(Nat.le_of_ble_eq_true rfl), (Nat.le_of_ble_eq_true rfl)⟩) (pre_PS hK hP [] rfl) rfl rfl hl.1 rfl (lv_room (Nat.le_of_ble_eq_true rfl)) dX9_isSo_111 ⟨(Nat.le_of_ble_eq_true rfl), (Nat.le_of_ble_eq_true rfl)⟩) (fun r56 p57 => ?_)
        refine lv_if_eq (tgt := 121) hx hb dX9_isSo_114 (by decide) (fun c58 => ?_) (fun c58 => ?_)
        · refine lv_iconst (v := nI 0) hx hb dX9_isSo_121 (by decide) ?_
          rw [hQ]
          exact W.zret (v := nI 0) hx hb hr (by decide) (fun t9 ht9 hW9 => ⟨nI 0, rfl, (lf_n_isSo_9), ht9⟩) (fun _ h => absurd h List.not_mem_nil) dX9_isSo_122
        · refine lv_iconst (v := nI 1) hx hb dX9_isSo_117 (by decide) ?_
          refine lv_goto (tgt := 122) hx hb dX9_isSo_118 (by decide) ?_
          rw [hQ]
          exact W.zret (v := nI 1) hx hb hr (by decide) (fun t9 ht9 hW9 => ⟨nI 1, rfl, (lf_n_isSo_10), ht9⟩) (fun _ h => absurd h List.not_mem_nil) dX9_isSo_122
      · refine lv_if_eq (tgt := 121) hx hb dX9_isSo_96 (by decide) (fun c59 => ?_) (fun c59 => absurd (by decide) c59)
        refine lv_iconst (v := nI 0) hx hb dX9_isSo_121 (by decide) ?_
        rw [hQ]
        exact W.zret (v := nI 0) hx hb hr (by decide) (fun t9 ht9 hW9 => ⟨nI 0, rfl, (lf_n_isSo_11), ht9⟩) (fun _ h => absurd h List.not_mem_nil) dX9_isSo_122
    · refine r_ti (nI 27) c21 ?_
      refine lv_tableIn (off := 96) (tgt := 123) hx hb dX9_isSo_27 (by decide) (by decide) rfl (by decide) ?_
      refine lv_aload_n hx hb dX9_isSo_123 rfl (lv_at hl 2 rfl) ?_
      refine va_get (D := (dC, dI)) (ci := 7) (v := .ref loads) (C := RX7) (T := TX7) (N := 19) hx hb hts hin7 hown hK hP 0 rfl rfl 15 (by decide) (hts (.fieldLink RX9 114 "PorridgeSea$Sea" "loads" "[I") (List.mem_of_getElem? (i := 3) rfl)) (fun _ h9 => h9) rfl dX9_isSo_124 ?_
      refine lv_iload_n hx hb dX9_isSo_127 rfl (lv_at hl 3 rfl) ?_
      obtain ⟨n60, h61, e62⟩ := nat_of x 6 (by decide) (lf_n_isSo_12 boats x iv_a_5 t3 t4)
      rw [e62]
      obtain ⟨y63, e64⟩ : ∃ z9, z9 = loadsF n60 := ⟨_, rfl⟩
      refine r_iald hx hb hK hP 4 rfl n60 (by omega) (by decide) y63 e64.symm dX9_isSo_128 ?_
      refine lv_iload hx hb dX9_isSo_129 (lv_at hl 0 rfl) ?_
      refine lv_iload_n hx hb dX9_isSo_131 rfl (lv_at hl 1 rfl) ?_
      refine vp_callSi (W.runS (As := [.int y63, .int y11, .int y7]) (rest := []) ⟨hx, hb, hml, hown, hts⟩ (c_n_compares l dC dI ky y63 y11 y7) (va_cwS 3 hts gX9_isSo_X9_compares rfl rfl rfl (by decide +kernel) ⟨(Nat.le_of_ble_eq_true rfl), (Nat.le_of_ble_eq_true rfl)⟩) (pre_PS hK hP [] rfl) rfl rfl hl.1 rfl (lv_room (Nat.le_of_ble_eq_true rfl)) dX9_isSo_132 ⟨(Nat.le_of_ble_eq_true rfl), (Nat.le_of_ble_eq_true rfl)⟩) (fun r65 p66 => ?_)
      rw [hQ]
      exact W.zret (v := r65) hx hb hr ((lf_n_isSo_13 r65 p66)) (fun t9 ht9 hW9 => ⟨r65, rfl, p66, ht9⟩) (fun _ h => absurd h List.not_mem_nil) dX9_isSo_135
    · refine r_ti (nI 28) c22 ?_
      refine lv_tableIn (off := 109) (tgt := 136) hx hb dX9_isSo_27 (by decide) (by decide) rfl (by decide) ?_
      refine lv_aload_n hx hb dX9_isSo_136 rfl (lv_at hl 2 rfl) ?_
      refine va_get (D := (dC, dI)) (ci := 7) (v := .ref depths) (C := RX7) (T := TX7) (N := 19) hx hb hts hin7 hown hK hP 0 rfl rfl 18 (by decide) (hts (.fieldLink RX9 121 "PorridgeSea$Sea" "depths" "[I") (List.mem_of_getElem? (i := 4) rfl)) (fun _ h9 => h9) rfl dX9_isSo_137 ?_
      refine lv_iload_n hx hb dX9_isSo_140 rfl (lv_at hl 3 rfl) ?_
      obtain ⟨n67, h68, e69⟩ := nat_of x 6 (by decide) (lf_n_isSo_14 boats x iv_a_5 t3 t4)
      rw [e69]
      obtain ⟨y70, e71⟩ : ∃ z9, z9 = depthsF n67 := ⟨_, rfl⟩
      refine r_iald hx hb hK hP 7 rfl n67 (by omega) (by decide) y70 e71.symm dX9_isSo_141 ?_
      refine lv_iload hx hb dX9_isSo_142 (lv_at hl 0 rfl) ?_
      refine lv_iload_n hx hb dX9_isSo_144 rfl (lv_at hl 1 rfl) ?_
      refine vp_callSi (W.runS (As := [.int y70, .int y11, .int y7]) (rest := []) ⟨hx, hb, hml, hown, hts⟩ (c_n_compares l dC dI ky y70 y11 y7) (va_cwS 3 hts gX9_isSo_X9_compares rfl rfl rfl (by decide +kernel) ⟨(Nat.le_of_ble_eq_true rfl), (Nat.le_of_ble_eq_true rfl)⟩) (pre_PS hK hP [] rfl) rfl rfl hl.1 rfl (lv_room (Nat.le_of_ble_eq_true rfl)) dX9_isSo_145 ⟨(Nat.le_of_ble_eq_true rfl), (Nat.le_of_ble_eq_true rfl)⟩) (fun r72 p73 => ?_)
      rw [hQ]
      exact W.zret (v := r72) hx hb hr ((lf_n_isSo_15 r72 p73)) (fun t9 ht9 hW9 => ⟨r72, rfl, p73, ht9⟩) (fun _ h => absurd h List.not_mem_nil) dX9_isSo_148
    · refine r_ti (nI 29) c23 ?_
      refine lv_tableIn (off := 122) (tgt := 149) hx hb dX9_isSo_27 (by decide) (by decide) rfl (by decide) ?_
      refine lv_aload_n hx hb dX9_isSo_149 rfl (lv_at hl 2 rfl) ?_
      refine va_get (D := (dC, dI)) (ci := 7) (v := .ref spoonsLeft) (C := RX7) (T := TX7) (N := 19) hx hb hts hin7 hown hK hP 0 rfl rfl 17 (by decide) (hts (.fieldLink RX9 124 "PorridgeSea$Sea" "spoonsLeft" "[I") (List.mem_of_getElem? (i := 5) rfl)) (fun _ h9 => h9) rfl dX9_isSo_150 ?_
      refine lv_iload_n hx hb dX9_isSo_153 rfl (lv_at hl 3 rfl) ?_
      obtain ⟨n74, h75, e76⟩ := nat_of x 6 (by decide) (lf_n_isSo_16 boats x iv_a_5 t3 t4)
      rw [e76]
      obtain ⟨y77, e78⟩ : ∃ z9, z9 = spoonsLeftF n74 := ⟨_, rfl⟩
      refine r_iald hx hb hK hP 6 rfl n74 (by omega) (by decide) y77 e78.symm dX9_isSo_154 ?_
      refine lv_iload hx hb dX9_isSo_155 (lv_at hl 0 rfl) ?_
      refine lv_iload_n hx hb dX9_isSo_157 rfl (lv_at hl 1 rfl) ?_
      refine vp_callSi (W.runS (As := [.int y77, .int y11, .int y7]) (rest := []) ⟨hx, hb, hml, hown, hts⟩ (c_n_compares l dC dI ky y77 y11 y7) (va_cwS 3 hts gX9_isSo_X9_compares rfl rfl rfl (by decide +kernel) ⟨(Nat.le_of_ble_eq_true rfl), (Nat.le_of_ble_eq_true rfl)⟩) (pre_PS hK hP [] rfl) rfl rfl hl.1 rfl (lv_room (Nat.le_of_ble_eq_true rfl)) dX9_isSo_158 ⟨(Nat.le_of_ble_eq_true rfl), (Nat.le_of_ble_eq_true rfl)⟩) (fun r79 p80 => ?_)
      rw [hQ]
      exact W.zret (v := r79) hx hb hr ((lf_n_isSo_17 r79 p80)) (fun t9 ht9 hW9 => ⟨r79, rfl, p80, ht9⟩) (fun _ h => absurd h List.not_mem_nil) dX9_isSo_161
  · refine lv_if_ne (tgt := 10) hx hb dX9_isSo_5 (by decide) (fun c81 => absurd c81 (by decide)) (fun c81 => ?_)
    refine lv_iconst (v := nI 0) hx hb dX9_isSo_8 (by decide) ?_
    rw [hQ]
    exact W.zret (v := nI 0) hx hb hr (by decide) (fun t9 ht9 hW9 => ⟨nI 0, rfl, (lf_n_isSo_18), ht9⟩) (fun _ h => absurd h List.not_mem_nil) dX9_isSo_9
set_option maxRecDepth 20000 in
theorem lf_n_holds_1   : (nI 0) = nI 0 ∨ (nI 0) = nI 1 := by
  try have k_0 := ia_n 0 (by first | decide | omega)
  try have k_1 := ia_n 1 (by first | decide | omega)
  try simp only [ia_lt, ia_le, ia_eq, ia_m1, ia_0, ia_1, ne_eq, true_and, and_true, false_and, and_false, or_false, false_or, or_true, true_or, not_true_eq_false, not_false_eq_true] at *
  all_goals omega
set_option maxRecDepth 20000 in
theorem lf_n_holds_2   : (nI 1) = nI 0 ∨ (nI 1) = nI 1 := by
  try have k_0 := ia_n 1 (by first | decide | omega)
  try have k_1 := ia_n 0 (by first | decide | omega)
  try simp only [ia_lt, ia_le, ia_eq, ia_m1, ia_0, ia_1, ne_eq, true_and, and_true, false_and, and_false, or_false, false_or, or_true, true_or, not_true_eq_false, not_false_eq_true] at *
  all_goals omega
set_option maxRecDepth 20000 in
theorem lf_n_holds_3 (ccodeCount : Nat) (ccodesF : Nat → Int32) (k7 : Nat) (n11 : Nat) (y20 : Int32) (y22 : Int32) (y31 : Int32) (iv_cse_0 : ccodeCount ≤ 40) (j9 : k7 ≤ 40) (hm13 : 40 - k7 < n11 + 1) (c14 : k7 < ccodeCount) (e21 : y20 = ccodesF k7) (e23 : y22 = y20 &&& (nI 31)) (c25 : y22.toInt < 20 ∨ 22 < y22.toInt) (e32 : y31 = ccodesF k7) : (k7 + 1) ≤ 40 := by
  have b_y20 := ia_b y20
  have b_y22 := ia_b y22
  have b_y31 := ia_b y31
  try have k_0 := ia_n 31 (by first | decide | omega)
  try simp only [ia_lt, ia_le, ia_eq, ia_m1, ia_0, ia_1, ne_eq, true_and, and_true, false_and, and_false, or_false, false_or, or_true, true_or, not_true_eq_false, not_false_eq_true] at *
  all_goals omega
set_option maxRecDepth 20000 in
theorem lf_n_holds_4 (ccodeCount : Nat) (ccodesF : Nat → Int32) (k7 : Nat) (n11 : Nat) (y20 : Int32) (y22 : Int32) (y31 : Int32) (iv_cse_0 : ccodeCount ≤ 40) (j9 : k7 ≤ 40) (hm13 : 40 - k7 < n11 + 1) (c14 : k7 < ccodeCount) (e21 : y20 = ccodesF k7) (e23 : y22 = y20 &&& (nI 31)) (c25 : y22.toInt < 20 ∨ 22 < y22.toInt) (e32 : y31 = ccodesF k7) : 40 - (k7 + 1) < n11 := by
  have b_y20 := ia_b y20
  have b_y22 := ia_b y22
  have b_y31 := ia_b y31
  try have k_0 := ia_n 31 (by first | decide | omega)
  try simp only [ia_lt, ia_le, ia_eq, ia_m1, ia_0, ia_1, ne_eq, true_and, and_true, false_and, and_false, or_false, false_or, or_true, true_or, not_true_eq_false, not_false_eq_true] at *
  all_goals omega
set_option maxRecDepth 20000 in
theorem lf_n_holds_5 (ccodeCount : Nat) (ccodesF : Nat → Int32) (k7 : Nat) (n11 : Nat) (y20 : Int32) (y22 : Int32) (y31 : Int32) (iv_cse_0 : ccodeCount ≤ 40) (j9 : k7 ≤ 40) (hm13 : 40 - k7 < n11 + 1) (c14 : k7 < ccodeCount) (e21 : y20 = ccodesF k7) (e23 : y22 = y20 &&& (nI 31)) (c25 : y22.toInt < 20 ∨ 22 < y22.toInt) (e32 : y31 = ccodesF k7) : (k7 + 1) ≤ 40 := by
  have b_y20 := ia_b y20
  have b_y22 := ia_b y22
  have b_y31 := ia_b y31
  try have k_0 := ia_n 31 (by first | decide | omega)
  try simp only [ia_lt, ia_le, ia_eq, ia_m1, ia_0, ia_1, ne_eq, true_and, and_true, false_and, and_false, or_false, false_or, or_true, true_or, not_true_eq_false, not_false_eq_true] at *
  all_goals omega
set_option maxRecDepth 20000 in
theorem lf_n_holds_6 (ccodeCount : Nat) (ccodesF : Nat → Int32) (k7 : Nat) (n11 : Nat) (y20 : Int32) (y22 : Int32) (y31 : Int32) (iv_cse_0 : ccodeCount ≤ 40) (j9 : k7 ≤ 40) (hm13 : 40 - k7 < n11 + 1) (c14 : k7 < ccodeCount) (e21 : y20 = ccodesF k7) (e23 : y22 = y20 &&& (nI 31)) (c25 : y22.toInt < 20 ∨ 22 < y22.toInt) (e32 : y31 = ccodesF k7) : 40 - (k7 + 1) < n11 := by
  have b_y20 := ia_b y20
  have b_y22 := ia_b y22
  have b_y31 := ia_b y31
  try have k_0 := ia_n 31 (by first | decide | omega)
  try simp only [ia_lt, ia_le, ia_eq, ia_m1, ia_0, ia_1, ne_eq, true_and, and_true, false_and, and_false, or_false, false_or, or_true, true_or, not_true_eq_false, not_false_eq_true] at *
  all_goals omega
set_option maxRecDepth 20000 in
theorem lf_n_holds_7 (ccodeCount : Nat) (ccodesF : Nat → Int32) (k7 : Nat) (n11 : Nat) (y20 : Int32) (y22 : Int32) (iv_cse_0 : ccodeCount ≤ 40) (j9 : k7 ≤ 40) (hm13 : 40 - k7 < n11 + 1) (c14 : k7 < ccodeCount) (e21 : y20 = ccodesF k7) (e23 : y22 = y20 &&& (nI 31)) (c26 : y22 = nI 20) : (k7 + 1) ≤ 40 := by
  have b_y20 := ia_b y20
  have b_y22 := ia_b y22
  try have k_0 := ia_n 31 (by first | decide | omega)
  try have k_1 := ia_n 20 (by first | decide | omega)
  try simp only [ia_lt, ia_le, ia_eq, ia_m1, ia_0, ia_1, ne_eq, true_and, and_true, false_and, and_false, or_false, false_or, or_true, true_or, not_true_eq_false, not_false_eq_true] at *
  all_goals omega
set_option maxRecDepth 20000 in
theorem lf_n_holds_8 (ccodeCount : Nat) (ccodesF : Nat → Int32) (k7 : Nat) (n11 : Nat) (y20 : Int32) (y22 : Int32) (iv_cse_0 : ccodeCount ≤ 40) (j9 : k7 ≤ 40) (hm13 : 40 - k7 < n11 + 1) (c14 : k7 < ccodeCount) (e21 : y20 = ccodesF k7) (e23 : y22 = y20 &&& (nI 31)) (c26 : y22 = nI 20) : 40 - (k7 + 1) < n11 := by
  have b_y20 := ia_b y20
  have b_y22 := ia_b y22
  try have k_0 := ia_n 31 (by first | decide | omega)
  try have k_1 := ia_n 20 (by first | decide | omega)
  try simp only [ia_lt, ia_le, ia_eq, ia_m1, ia_0, ia_1, ne_eq, true_and, and_true, false_and, and_false, or_false, false_or, or_true, true_or, not_true_eq_false, not_false_eq_true] at *
  all_goals omega
set_option maxRecDepth 20000 in
theorem lf_n_holds_9 (ccodeCount : Nat) (ccodesF : Nat → Int32) (k7 : Nat) (n11 : Nat) (y20 : Int32) (y22 : Int32) (iv_cse_0 : ccodeCount ≤ 40) (j9 : k7 ≤ 40) (hm13 : 40 - k7 < n11 + 1) (c14 : k7 < ccodeCount) (e21 : y20 = ccodesF k7) (e23 : y22 = y20 &&& (nI 31)) (c27 : y22 = nI 21) : (k7 + 1) ≤ 40 := by
  have b_y20 := ia_b y20
  have b_y22 := ia_b y22
  try have k_0 := ia_n 31 (by first | decide | omega)
  try have k_1 := ia_n 21 (by first | decide | omega)
  try simp only [ia_lt, ia_le, ia_eq, ia_m1, ia_0, ia_1, ne_eq, true_and, and_true, false_and, and_false, or_false, false_or, or_true, true_or, not_true_eq_false, not_false_eq_true] at *
  all_goals omega
set_option maxRecDepth 20000 in
theorem lf_n_holds_10 (ccodeCount : Nat) (ccodesF : Nat → Int32) (k7 : Nat) (n11 : Nat) (y20 : Int32) (y22 : Int32) (iv_cse_0 : ccodeCount ≤ 40) (j9 : k7 ≤ 40) (hm13 : 40 - k7 < n11 + 1) (c14 : k7 < ccodeCount) (e21 : y20 = ccodesF k7) (e23 : y22 = y20 &&& (nI 31)) (c27 : y22 = nI 21) : 40 - (k7 + 1) < n11 := by
  have b_y20 := ia_b y20
  have b_y22 := ia_b y22
  try have k_0 := ia_n 31 (by first | decide | omega)
  try have k_1 := ia_n 21 (by first | decide | omega)
  try simp only [ia_lt, ia_le, ia_eq, ia_m1, ia_0, ia_1, ne_eq, true_and, and_true, false_and, and_false, or_false, false_or, or_true, true_or, not_true_eq_false, not_false_eq_true] at *
  all_goals omega
set_option maxRecDepth 20000 in
theorem lf_n_holds_11 (ccodeCount : Nat) (ccodesF : Nat → Int32) (k7 : Nat) (n11 : Nat) (y20 : Int32) (y22 : Int32) (iv_cse_0 : ccodeCount ≤ 40) (j9 : k7 ≤ 40) (hm13 : 40 - k7 < n11 + 1) (c14 : k7 < ccodeCount) (e21 : y20 = ccodesF k7) (e23 : y22 = y20 &&& (nI 31)) (c28 : y22 = nI 22) : (k7 + 1) ≤ 40 := by
  have b_y20 := ia_b y20
  have b_y22 := ia_b y22
  try have k_0 := ia_n 31 (by first | decide | omega)
  try have k_1 := ia_n 22 (by first | decide | omega)
  try simp only [ia_lt, ia_le, ia_eq, ia_m1, ia_0, ia_1, ne_eq, true_and, and_true, false_and, and_false, or_false, false_or, or_true, true_or, not_true_eq_false, not_false_eq_true] at *
  all_goals omega
set_option maxRecDepth 20000 in
theorem lf_n_holds_12 (ccodeCount : Nat) (ccodesF : Nat → Int32) (k7 : Nat) (n11 : Nat) (y20 : Int32) (y22 : Int32) (iv_cse_0 : ccodeCount ≤ 40) (j9 : k7 ≤ 40) (hm13 : 40 - k7 < n11 + 1) (c14 : k7 < ccodeCount) (e21 : y20 = ccodesF k7) (e23 : y22 = y20 &&& (nI 31)) (c28 : y22 = nI 22) : 40 - (k7 + 1) < n11 := by
  have b_y20 := ia_b y20
  have b_y22 := ia_b y22
  try have k_0 := ia_n 31 (by first | decide | omega)
  try have k_1 := ia_n 22 (by first | decide | omega)
  try simp only [ia_lt, ia_le, ia_eq, ia_m1, ia_0, ia_1, ne_eq, true_and, and_true, false_and, and_false, or_false, false_or, or_true, true_or, not_true_eq_false, not_false_eq_true] at *
  all_goals omega
set_option maxRecDepth 20000 in
theorem lf_n_holds_13   : 0 ≤ 40 := by
  try simp only [ia_lt, ia_le, ia_eq, ia_m1, ia_0, ia_1, ne_eq, true_and, and_true, false_and, and_false, or_false, false_or, or_true, true_or, not_true_eq_false, not_false_eq_true] at *
  all_goals omega
set_option maxHeartbeats 4000000 in
set_option maxRecDepth 100000 in
theorem c_n_holds (l : Launch) (dC : Nat → ClassId) (dI : Nat → Nat → Nat) (ky : Nat → ClassId) (se : Nat) (ccodes : Nat) (ccodeCount : Nat) (cones : Int32) (ccodesF : Nat → Int32) (a : Nat) (wide : Nat) (high : Nat) (heat : Int32) (cools : Int32) (skinHeat : Int32) (today : Int32) (stirs : Int32) (steps : Int32) (lumps : Nat) (boats : Nat) (thickness : Nat) (lumpNames : Nat) (lumpCells : Nat) (boatNames : Nat) (boatCells : Nat) (loads : Nat) (spoons : Nat) (spoonsLeft : Nat) (depths : Nat) (thicknessF : Nat → Int32) (lumpCellsF : Nat → Int32) (boatCellsF : Nat → Int32) (loadsF : Nat → Int32) (spoonsF : Nat → Int32) (spoonsLeftF : Nat → Int32) (depthsF : Nat → Int32) (x : Int32) (iv_cse_0 : ccodeCount ≤ 40) (iv_a_0 : 2 ≤ wide) (iv_a_1 : wide ≤ 6) (iv_a_2 : 2 ≤ high) (iv_a_3 : high ≤ 6) (iv_a_4 : lumps ≤ 6) (iv_a_5 : boats ≤ 6) : Met l yX9_holds wsX9_holds ({ frames := 4, cells := 0, slots := 0, locals := 89 }) (PcP dC dI ky [.ref se, .ref a, .int x] [(se, .inr (9, [.ref ccodes, .int (nI ccodeCount), .int cones])), (ccodes, .inl (ky 0, 40, .inl ccodesF)), (a, .inr (7, [.int (nI wide), .int (nI high), .int heat, .int cools, .int skinHeat, .int today, .int stirs, .int steps, .int (nI lumps), .int (nI boats), .ref thickness, .ref lumpNames, .ref lumpCells, .ref boatNames, .ref boatCells, .ref loads, .ref spoons, .ref spoonsLeft, .ref depths])), (thickness, .inl (ky 0, 36, .inl thicknessF)), (lumpCells, .inl (ky 0, 6, .inl lumpCellsF)), (boatCells, .inl (ky 0, 6, .inl boatCellsF)), (loads, .inl (ky 0, 6, .inl loadsF)), (spoons, .inl (ky 0, 6, .inl spoonsF)), (spoonsLeft, .inl (ky 0, 6, .inl spoonsLeftF)), (depths, .inl (ky 0, 6, .inl depthsF))]) (vp_Si (fun r : Int32 => r = nI 0 ∨ r = nI 1)) 0 0 (fun _ => False) := by
  refine Met.ofW (cc := cX9_holds) (maxL := 6) (ret := (some .boolean)) (by decide) rfl ?_
  intro p e s m args below meth c s₁ B hml hv
  obtain ⟨rfl, hP, hK⟩ := hv
  have hx := B.exec
  have hb := B.bytes
  have hr := B.returns
  have hts := atoms_spec (ws := wsX9_holds) B.pre
  have hown : s.vm.findClass RX9 = some m.cls := findClass_of_methodNamed B.named
  have hlocks := B.notSynchronized
  have hin9 : ∀ w ∈ u_ws RX9 TX9 3, w ∈ wsX9_holds := by decide +kernel
  have hl := lv_entry ([.ref se, .ref a, .int x]) (n := 6) (Nat.le_of_ble_eq_true rfl)
  rw [lg_entry_eq]
  generalize (lg_sl ([.ref se, .ref a, .int x]) ++ List.replicate (6 - (lg_sl ([.ref se, .ref a, .int x])).length) Slot.unset).toArray = ls at hl ⊢
  have hl : lv_has ls 6 [(0, .ref se), (1, .ref a), (2, .int x)] := hl
  refine q_name (fun Q hQ => ?_)
  generalize ([.ref se, .ref a, .int x] : List Value).toArray = args at hts hQ ⊢
  refine lv_iconst (v := nI 0) hx hb dX9_holds_0 (by decide) ?_
  refine lv_istore_n (lv' := [(3, .int (nI 0)), (0, .ref se), (1, .ref a), (2, .int x)]) hx hb dX9_holds_1 rfl hl (by decide) rfl (fun ls hl => ?_)
  refine lv_iconst (v := nI 0) hx hb dX9_holds_2 (by decide) ?_
  refine lv_istore (lv' := [(4, .int (nI 0)), (3, .int (nI 0)), (0, .ref se), (1, .ref a), (2, .int x)]) hx hb dX9_holds_3 hl (by decide) rfl (fun ls hl => ?_)
  have hL10 : ∀ (n11 : Nat) (k7 : Nat) (x8 : Int32), (k7 ≤ 40) → 40 - k7 < n11 → ∀ (ls : Array Slot), lv_has ls 6 [(4, .int (nI k7)), (3, .int x8), (0, .ref se), (1, .ref a), (2, .int x)] → W p l e (headSpec wsX9_holds ({ frames := 4, cells := 0, slots := 0, locals := 89 })).room s m args below meth c s.heap [] 0 0 Q (F0 m 5 ls []) := by
    intro n11
    induction n11 with
    | zero => intro k7 x8 _ h9; exact absurd h9 (Nat.not_lt_zero _)
    | succ n11 ih12 =>
      intro k7 x8 j9 hm13 ls hl
      refine lv_iload hx hb dX9_holds_5 (lv_at hl 0 rfl) ?_
      refine lv_aload_n hx hb dX9_holds_7 rfl (lv_at hl 2 rfl) ?_
      refine va_get (D := (dC, dI)) (ci := 9) (v := .int (nI ccodeCount)) (C := RX9) (T := TX9) (N := 3) hx hb hts hin9 hown hK hP 0 rfl rfl 1 (by decide) (hts (.fieldLink RX9 15 "PorridgeSea$Sentence" "codeCount" "I") (List.mem_of_getElem? (i := 1) rfl)) (fun _ h9 => h9) rfl dX9_holds_8 ?_
      refine n_icmp_ge (x := k7) (y := ccodeCount) (tgt := 117) hx hb (by omega) (by omega) dX9_holds_11 (by decide) (fun c14 => ?_) (fun c14 => ?_)
      · refine lv_iload_n hx hb dX9_holds_117 rfl (lv_at hl 1 rfl) ?_
        refine lv_iconst (v := nI 1) hx hb dX9_holds_118 (by decide) ?_
        refine lv_iand hx hb dX9_holds_119 ?_
        refine lv_topi (fun y15 e16 => ?_)
        refine lv_iconst (v := nI 1) hx hb dX9_holds_120 (by decide) ?_
        refine lv_icmp_ne (tgt := 128) hx hb dX9_holds_121 (by decide) (fun c17 => ?_) (fun c17 => ?_)
        · refine lv_iconst (v := nI 0) hx hb dX9_holds_128 (by decide) ?_
          rw [hQ]
          exact W.zret (v := nI 0) hx hb hr (by decide) (fun t9 ht9 hW9 => ⟨nI 0, rfl, (lf_n_holds_1), ht9⟩) (fun _ h => absurd h List.not_mem_nil) dX9_holds_129
        · refine lv_iconst (v := nI 1) hx hb dX9_holds_124 (by decide) ?_
          refine lv_goto (tgt := 129) hx hb dX9_holds_125 (by decide) ?_
          rw [hQ]
          exact W.zret (v := nI 1) hx hb hr (by decide) (fun t9 ht9 hW9 => ⟨nI 1, rfl, (lf_n_holds_2), ht9⟩) (fun _ h => absurd h List.not_mem_nil) dX9_holds_129
      · refine lv_iload_n hx hb dX9_holds_14 rfl (lv_at hl 1 rfl) ?_
        refine lv_iconst (v := nI 1) hx hb dX9_holds_15 (by decide) ?_
        refine lv_iand hx hb dX9_holds_16 ?_
        refine lv_topi (fun y18 e19 => ?_)
        refine lv_istore (lv' := [(5, .int y18), (4, .int (nI k7)), (3, .int x8), (0, .ref se), (1, .ref a), (2, .int x)]) hx hb dX9_holds_17 hl (by decide) rfl (fun ls hl => ?_)
        refine lv_aload_n hx hb dX9_holds_19 rfl (lv_at hl 3 rfl) ?_
        refine va_get (D := (dC, dI)) (ci := 9) (v := .ref ccodes) (C := RX9) (T := TX9) (N := 3) hx hb hts hin9 hown hK hP 0 rfl rfl 0 (by decide) (hts (.fieldLink RX9 11 "PorridgeSea$Sentence" "codes" "[I") (List.mem_of_getElem? (i := 2) rfl)) (fun _ h9 => h9) rfl dX9_holds_20 ?_
        refine lv_iload hx hb dX9_holds_23 (lv_at hl 1 rfl) ?_
        obtain ⟨y20, e21⟩ : ∃ z9, z9 = ccodesF k7 := ⟨_, rfl⟩
        refine r_iald hx hb hK hP 1 rfl k7 (by omega) (by decide) y20 e21.symm dX9_holds_25 ?_
        refine lv_bipush (v := nI 31) hx hb dX9_holds_26 (by decide) ?_
        refine lv_iand hx hb dX9_holds_28 ?_
        refine lv_topi (fun y22 e23 => ?_)
        rcases sw_20_22 y22 with c25 | c26 | c27 | c28
        · refine lv_tableOut (tgt := 86) hx hb dX9_holds_29 c25 (by decide) ?_
          refine lv_iload_n hx hb dX9_holds_86 rfl (lv_at hl 2 rfl) ?_
          refine lv_iconst (v := nI 1) hx hb dX9_holds_87 (by decide) ?_
          refine lv_ishl hx hb dX9_holds_88 ?_
          refine lv_topi (fun y29 e30 => ?_)
          refine lv_aload_n hx hb dX9_holds_89 rfl (lv_at hl 4 rfl) ?_
          refine lv_iload_n hx hb dX9_holds_90 rfl (lv_at hl 5 rfl) ?_
          refine lv_aload_n hx hb dX9_holds_91 rfl (lv_at hl 3 rfl) ?_
          refine va_get (D := (dC, dI)) (ci := 9) (v := .ref ccodes) (C := RX9) (T := TX9) (N := 3) hx hb hts hin9 hown hK hP 0 rfl rfl 0 (by decide) (hts (.fieldLink RX9 11 "PorridgeSea$Sentence" "codes" "[I") (List.mem_of_getElem? (i := 2) rfl)) (fun _ h9 => h9) rfl dX9_holds_92 ?_
          refine lv_iload hx hb dX9_holds_95 (lv_at hl 1 rfl) ?_
          obtain ⟨y31, e32⟩ : ∃ z9, z9 = ccodesF k7 := ⟨_, rfl⟩
          refine r_iald hx hb hK hP 1 rfl k7 (by omega) (by decide) y31 e32.symm dX9_holds_97 ?_
          refine vp_callSi (W.runS (As := [.ref a, .int x, .int y31]) (rest := [.int y29]) ⟨hx, hb, hml, hown, hts⟩ (c_n_isSo l dC dI ky a wide high heat cools skinHeat today stirs steps lumps boats thickness lumpNames lumpCells boatNames boatCells loads spoons spoonsLeft depths thicknessF lumpCellsF boatCellsF loadsF spoonsF spoonsLeftF depthsF x y31 iv_a_0 iv_a_1 iv_a_2 iv_a_3 iv_a_4 iv_a_5) (va_cwS 3 hts gX9_holds_X9_isSo rfl rfl rfl (by decide +kernel) ⟨(Nat.le_of_ble_eq_true rfl), (Nat.le_of_ble_eq_true rfl)⟩) (pre_PS hK hP [2, 3, 4, 5, 6, 7, 8, 9] rfl) rfl rfl hl.1 rfl (lv_room (Nat.le_of_ble_eq_true rfl)) dX9_holds_98 ⟨(Nat.le_of_ble_eq_true rfl), (Nat.le_of_ble_eq_true rfl)⟩) (fun r33 p34 => ?_)
          refine lv_if_eq (tgt := 108) hx hb dX9_holds_101 (by decide) (fun c35 => ?_) (fun c35 => ?_)
          · refine lv_iconst (v := nI 0) hx hb dX9_holds_108 (by decide) ?_
            refine lv_ior hx hb dX9_holds_109 ?_
            refine lv_topi (fun y36 e37 => ?_)
            refine lv_istore_n (lv' := [(3, .int y36), (5, .int y18), (4, .int (nI k7)), (0, .ref se), (1, .ref a), (2, .int x)]) hx hb dX9_holds_110 rfl hl (by decide) rfl (fun ls hl => ?_)
            refine lv_iinc (v := nI (k7 + 1)) (lv' := [(4, .int (nI (k7 + 1))), (3, .int y36), (5, .int y18), (0, .ref se), (1, .ref a), (2, .int x)]) hx hb dX9_holds_111 hl (k := 2) rfl (show nI k7 + nI 1 = nI (k7 + 1) from nI_add _ _) (by decide) rfl (fun ls hl => ?_)
            refine lv_goto (tgt := 5) hx hb dX9_holds_114 (by decide) ?_
            exact ih12 (k7 + 1) y36 (lf_n_holds_3 ccodeCount ccodesF k7 n11 y20 y22 y31 iv_cse_0 j9 hm13 c14 e21 e23 c25 e32) (lf_n_holds_4 ccodeCount ccodesF k7 n11 y20 y22 y31 iv_cse_0 j9 hm13 c14 e21 e23 c25 e32) _ (lv_sub hl [0, 1, 3, 4, 5] rfl)
          · refine lv_iconst (v := nI 1) hx hb dX9_holds_104 (by decide) ?_
            refine lv_goto (tgt := 109) hx hb dX9_holds_105 (by decide) ?_
            refine lv_ior hx hb dX9_holds_109 ?_
            refine lv_topi (fun y38 e39 => ?_)
            refine lv_istore_n (lv' := [(3, .int y38), (5, .int y18), (4, .int (nI k7)), (0, .ref se), (1, .ref a), (2, .int x)]) hx hb dX9_holds_110 rfl hl (by decide) rfl (fun ls hl => ?_)
            refine lv_iinc (v := nI (k7 + 1)) (lv' := [(4, .int (nI (k7 + 1))), (3, .int y38), (5, .int y18), (0, .ref se), (1, .ref a), (2, .int x)]) hx hb dX9_holds_111 hl (k := 2) rfl (show nI k7 + nI 1 = nI (k7 + 1) from nI_add _ _) (by decide) rfl (fun ls hl => ?_)
            refine lv_goto (tgt := 5) hx hb dX9_holds_114 (by decide) ?_
            exact ih12 (k7 + 1) y38 (lf_n_holds_5 ccodeCount ccodesF k7 n11 y20 y22 y31 iv_cse_0 j9 hm13 c14 e21 e23 c25 e32) (lf_n_holds_6 ccodeCount ccodesF k7 n11 y20 y22 y31 iv_cse_0 j9 hm13 c14 e21 e23 c25 e32) _ (lv_sub hl [0, 1, 3, 4, 5] rfl)
        · refine r_ti (nI 20) c26 ?_
          refine lv_tableIn (off := 27) (tgt := 56) hx hb dX9_holds_29 (by decide) (by decide) rfl (by decide) ?_
          refine lv_iload_n hx hb dX9_holds_56 rfl (lv_at hl 2 rfl) ?_
          refine lv_iconst (v := nI 1) hx hb dX9_holds_57 (by decide) ?_
          refine lv_ishr hx hb dX9_holds_58 ?_
          refine lv_topi (fun y40 e41 => ?_)
          refine lv_iload hx hb dX9_holds_59 (lv_at hl 0 rfl) ?_
          refine lv_ior hx hb dX9_holds_61 ?_
          refine lv_topi (fun y42 e43 => ?_)
          refine lv_istore_n (lv' := [(3, .int y42), (5, .int y18), (4, .int (nI k7)), (0, .ref se), (1, .ref a), (2, .int x)]) hx hb dX9_holds_62 rfl hl (by decide) rfl (fun ls hl => ?_)
          refine lv_goto (tgt := 111) hx hb dX9_holds_63 (by decide) ?_
          refine lv_iinc (v := nI (k7 + 1)) (lv' := [(4, .int (nI (k7 + 1))), (3, .int y42), (5, .int y18), (0, .ref se), (1, .ref a), (2, .int x)]) hx hb dX9_holds_111 hl (k := 2) rfl (show nI k7 + nI 1 = nI (k7 + 1) from nI_add _ _) (by decide) rfl (fun ls hl => ?_)
          refine lv_goto (tgt := 5) hx hb dX9_holds_114 (by decide) ?_
          exact ih12 (k7 + 1) y42 (lf_n_holds_7 ccodeCount ccodesF k7 n11 y20 y22 iv_cse_0 j9 hm13 c14 e21 e23 c26) (lf_n_holds_8 ccodeCount ccodesF k7 n11 y20 y22 iv_cse_0 j9 hm13 c14 e21 e23 c26) _ (lv_sub hl [0, 1, 3, 4, 5] rfl)
        · refine r_ti (nI 21) c27 ?_
          refine lv_tableIn (off := 37) (tgt := 66) hx hb dX9_holds_29 (by decide) (by decide) rfl (by decide) ?_
          refine lv_iload_n hx hb dX9_holds_66 rfl (lv_at hl 2 rfl) ?_
          refine lv_iconst (v := nI 1) hx hb dX9_holds_67 (by decide) ?_
          refine lv_ishr hx hb dX9_holds_68 ?_
          refine lv_topi (fun y44 e45 => ?_)
          refine lv_iload hx hb dX9_holds_69 (lv_at hl 0 rfl) ?_
          refine lv_bipush (v := (-2 : Int32)) hx hb dX9_holds_71 (by decide) ?_
          refine lv_ior hx hb dX9_holds_73 ?_
          refine lv_topi (fun y46 e47 => ?_)
          refine lv_iand hx hb dX9_holds_74 ?_
          refine lv_topi (fun y48 e49 => ?_)
          refine lv_istore_n (lv' := [(3, .int y48), (5, .int y18), (4, .int (nI k7)), (0, .ref se), (1, .ref a), (2, .int x)]) hx hb dX9_holds_75 rfl hl (by decide) rfl (fun ls hl => ?_)
          refine lv_goto (tgt := 111) hx hb dX9_holds_76 (by decide) ?_
          refine lv_iinc (v := nI (k7 + 1)) (lv' := [(4, .int (nI (k7 + 1))), (3, .int y48), (5, .int y18), (0, .ref se), (1, .ref a), (2, .int x)]) hx hb dX9_holds_111 hl (k := 2) rfl (show nI k7 + nI 1 = nI (k7 + 1) from nI_add _ _) (by decide) rfl (fun ls hl => ?_)
          refine lv_goto (tgt := 5) hx hb dX9_holds_114 (by decide) ?_
          exact ih12 (k7 + 1) y48 (lf_n_holds_9 ccodeCount ccodesF k7 n11 y20 y22 iv_cse_0 j9 hm13 c14 e21 e23 c27) (lf_n_holds_10 ccodeCount ccodesF k7 n11 y20 y22 iv_cse_0 j9 hm13 c14 e21 e23 c27) _ (lv_sub hl [0, 1, 3, 4, 5] rfl)
        · refine r_ti (nI 22) c28 ?_
          refine lv_tableIn (off := 50) (tgt := 79) hx hb dX9_holds_29 (by decide) (by decide) rfl (by decide) ?_
          refine lv_iload_n hx hb dX9_holds_79 rfl (lv_at hl 2 rfl) ?_
          refine lv_iconst (v := nI 1) hx hb dX9_holds_80 (by decide) ?_
          refine lv_ixor hx hb dX9_holds_81 ?_
          refine lv_topi (fun y50 e51 => ?_)
          refine lv_istore_n (lv' := [(3, .int y50), (5, .int y18), (4, .int (nI k7)), (0, .ref se), (1, .ref a), (2, .int x)]) hx hb dX9_holds_82 rfl hl (by decide) rfl (fun ls hl => ?_)
          refine lv_goto (tgt := 111) hx hb dX9_holds_83 (by decide) ?_
          refine lv_iinc (v := nI (k7 + 1)) (lv' := [(4, .int (nI (k7 + 1))), (3, .int y50), (5, .int y18), (0, .ref se), (1, .ref a), (2, .int x)]) hx hb dX9_holds_111 hl (k := 2) rfl (show nI k7 + nI 1 = nI (k7 + 1) from nI_add _ _) (by decide) rfl (fun ls hl => ?_)
          refine lv_goto (tgt := 5) hx hb dX9_holds_114 (by decide) ?_
          exact ih12 (k7 + 1) y50 (lf_n_holds_11 ccodeCount ccodesF k7 n11 y20 y22 iv_cse_0 j9 hm13 c14 e21 e23 c28) (lf_n_holds_12 ccodeCount ccodesF k7 n11 y20 y22 iv_cse_0 j9 hm13 c14 e21 e23 c28) _ (lv_sub hl [0, 1, 3, 4, 5] rfl)
  exact hL10 ((40 - 0) + 1) 0 (nI 0) (lf_n_holds_13) (Nat.lt_succ_self _) _ (lv_sub hl [0, 1, 2, 3, 4] rfl)
