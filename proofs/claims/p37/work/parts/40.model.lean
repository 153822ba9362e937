theorem dX12_startRead_0 : decode cX12_startRead 0 = .ok (.iconst 0, 1) := by decide +kernel
theorem dX12_startRead_1 : decode cX12_startRead 1 = .ok (.istore_n 1, 1) := by decide +kernel
theorem dX12_startRead_2 : decode cX12_startRead 2 = .ok (.iload_n 1, 1) := by decide +kernel
theorem dX12_startRead_3 : decode cX12_startRead 3 = .ok (.bipush 67, 2) := by decide +kernel
theorem dX12_startRead_5 : decode cX12_startRead 5 = .ok (.if_icmp .ge 16, 3) := by decide +kernel
theorem dX12_startRead_8 : decode cX12_startRead 8 = .ok (.aload_n 0, 1) := by decide +kernel
theorem dX12_startRead_9 : decode cX12_startRead 9 = .ok (.getfield 101, 3) := by decide +kernel
theorem dX12_startRead_12 : decode cX12_startRead 12 = .ok (.iload_n 1, 1) := by decide +kernel
theorem dX12_startRead_13 : decode cX12_startRead 13 = .ok (.iconst 0, 1) := by decide +kernel
theorem dX12_startRead_14 : decode cX12_startRead 14 = .ok (.iastore, 1) := by decide +kernel
theorem dX12_startRead_15 : decode cX12_startRead 15 = .ok (.iinc 1 1, 3) := by decide +kernel
theorem dX12_startRead_18 : decode cX12_startRead 18 = .ok (.goto (-16), 3) := by decide +kernel
theorem dX12_startRead_21 : decode cX12_startRead 21 = .ok (.iconst 0, 1) := by decide +kernel
theorem dX12_startRead_22 : decode cX12_startRead 22 = .ok (.istore_n 1, 1) := by decide +kernel
theorem dX12_startRead_23 : decode cX12_startRead 23 = .ok (.iload_n 1, 1) := by decide +kernel
theorem dX12_startRead_24 : decode cX12_startRead 24 = .ok (.iconst 4, 1) := by decide +kernel
theorem dX12_startRead_25 : decode cX12_startRead 25 = .ok (.if_icmp .ge 16, 3) := by decide +kernel
theorem dX12_startRead_28 : decode cX12_startRead 28 = .ok (.aload_n 0, 1) := by decide +kernel
theorem dX12_startRead_29 : decode cX12_startRead 29 = .ok (.getfield 127, 3) := by decide +kernel
theorem dX12_startRead_32 : decode cX12_startRead 32 = .ok (.iload_n 1, 1) := by decide +kernel
theorem dX12_startRead_33 : decode cX12_startRead 33 = .ok (.iconst 0, 1) := by decide +kernel
theorem dX12_startRead_34 : decode cX12_startRead 34 = .ok (.bastore, 1) := by decide +kernel
theorem dX12_startRead_35 : decode cX12_startRead 35 = .ok (.iinc 1 1, 3) := by decide +kernel
theorem dX12_startRead_38 : decode cX12_startRead 38 = .ok (.goto (-15), 3) := by decide +kernel
theorem dX12_startRead_41 : decode cX12_startRead 41 = .ok (.aload_n 0, 1) := by decide +kernel
theorem dX12_startRead_42 : decode cX12_startRead 42 = .ok (.getfield 101, 3) := by decide +kernel
theorem dX12_startRead_45 : decode cX12_startRead 45 = .ok (.iconst 0, 1) := by decide +kernel
theorem dX12_startRead_46 : decode cX12_startRead 46 = .ok (.iconst 4, 1) := by decide +kernel
theorem dX12_startRead_47 : decode cX12_startRead 47 = .ok (.iastore, 1) := by decide +kernel
theorem dX12_startRead_48 : decode cX12_startRead 48 = .ok (.aload_n 0, 1) := by decide +kernel
theorem dX12_startRead_49 : decode cX12_startRead 49 = .ok (.getfield 101, 3) := by decide +kernel
theorem dX12_startRead_52 : decode cX12_startRead 52 = .ok (.iconst 1, 1) := by decide +kernel
theorem dX12_startRead_53 : decode cX12_startRead 53 = .ok (.iconst 4, 1) := by decide +kernel
theorem dX12_startRead_54 : decode cX12_startRead 54 = .ok (.iastore, 1) := by decide +kernel
theorem dX12_startRead_55 : decode cX12_startRead 55 = .ok (.aload_n 0, 1) := by decide +kernel
theorem dX12_startRead_56 : decode cX12_startRead 56 = .ok (.getfield 101, 3) := by decide +kernel
theorem dX12_startRead_59 : decode cX12_startRead 59 = .ok (.iconst 4, 1) := by decide +kernel
theorem dX12_startRead_60 : decode cX12_startRead 60 = .ok (.bipush 10, 2) := by decide +kernel
theorem dX12_startRead_62 : decode cX12_startRead 62 = .ok (.iastore, 1) := by decide +kernel
theorem dX12_startRead_63 : decode cX12_startRead 63 = .ok (.aload_n 0, 1) := by decide +kernel
theorem dX12_startRead_64 : decode cX12_startRead 64 = .ok (.getfield 101, 3) := by decide +kernel
theorem dX12_startRead_67 : decode cX12_startRead 67 = .ok (.iconst 5, 1) := by decide +kernel
theorem dX12_startRead_68 : decode cX12_startRead 68 = .ok (.iconst 1, 1) := by decide +kernel
theorem dX12_startRead_69 : decode cX12_startRead 69 = .ok (.iastore, 1) := by decide +kernel
theorem dX12_startRead_70 : decode cX12_startRead 70 = .ok (.aload_n 0, 1) := by decide +kernel
theorem dX12_startRead_71 : decode cX12_startRead 71 = .ok (.getfield 101, 3) := by decide +kernel
theorem dX12_startRead_74 : decode cX12_startRead 74 = .ok (.bipush 6, 2) := by decide +kernel
theorem dX12_startRead_76 : decode cX12_startRead 76 = .ok (.iconst 3, 1) := by decide +kernel
theorem dX12_startRead_77 : decode cX12_startRead 77 = .ok (.iastore, 1) := by decide +kernel
theorem dX12_startRead_78 : decode cX12_startRead 78 = .ok (.return_, 1) := by decide +kernel
theorem dX12_startSo_0 : decode cX12_startSo 0 = .ok (.bipush 67, 2) := by decide +kernel
theorem dX12_startSo_2 : decode cX12_startSo 2 = .ok (.istore_n 1, 1) := by decide +kernel
theorem dX12_startSo_3 : decode cX12_startSo 3 = .ok (.iload_n 1, 1) := by decide +kernel
theorem dX12_startSo_4 : decode cX12_startSo 4 = .ok (.sipush 373, 3) := by decide +kernel
theorem dX12_startSo_7 : decode cX12_startSo 7 = .ok (.if_icmp .ge 16, 3) := by decide +kernel
theorem dX12_startSo_10 : decode cX12_startSo 10 = .ok (.aload_n 0, 1) := by decide +kernel
theorem dX12_startSo_11 : decode cX12_startSo 11 = .ok (.getfield 98, 3) := by decide +kernel
theorem dX12_startSo_14 : decode cX12_startSo 14 = .ok (.iload_n 1, 1) := by decide +kernel
theorem dX12_startSo_15 : decode cX12_startSo 15 = .ok (.iconst 0, 1) := by decide +kernel
theorem dX12_startSo_16 : decode cX12_startSo 16 = .ok (.iastore, 1) := by decide +kernel
theorem dX12_startSo_17 : decode cX12_startSo 17 = .ok (.iinc 1 1, 3) := by decide +kernel
theorem dX12_startSo_20 : decode cX12_startSo 20 = .ok (.goto (-17), 3) := by decide +kernel
theorem dX12_startSo_23 : decode cX12_startSo 23 = .ok (.aload_n 0, 1) := by decide +kernel
theorem dX12_startSo_24 : decode cX12_startSo 24 = .ok (.getfield 98, 3) := by decide +kernel
theorem dX12_startSo_27 : decode cX12_startSo 27 = .ok (.bipush 68, 2) := by decide +kernel
theorem dX12_startSo_29 : decode cX12_startSo 29 = .ok (.aload_n 0, 1) := by decide +kernel
theorem dX12_startSo_30 : decode cX12_startSo 30 = .ok (.getfield 98, 3) := by decide +kernel
theorem dX12_startSo_33 : decode cX12_startSo 33 = .ok (.iconst 4, 1) := by decide +kernel
theorem dX12_startSo_34 : decode cX12_startSo 34 = .ok (.iaload, 1) := by decide +kernel
theorem dX12_startSo_35 : decode cX12_startSo 35 = .ok (.iastore, 1) := by decide +kernel
theorem dX12_startSo_36 : decode cX12_startSo 36 = .ok (.iconst 0, 1) := by decide +kernel
theorem dX12_startSo_37 : decode cX12_startSo 37 = .ok (.istore_n 1, 1) := by decide +kernel
theorem dX12_startSo_38 : decode cX12_startSo 38 = .ok (.iload_n 1, 1) := by decide +kernel
theorem dX12_startSo_39 : decode cX12_startSo 39 = .ok (.bipush 36, 2) := by decide +kernel
theorem dX12_startSo_41 : decode cX12_startSo 41 = .ok (.if_icmp .ge 27, 3) := by decide +kernel
theorem dX12_startSo_44 : decode cX12_startSo 44 = .ok (.aload_n 0, 1) := by decide +kernel
theorem dX12_startSo_45 : decode cX12_startSo 45 = .ok (.getfield 98, 3) := by decide +kernel
theorem dX12_startSo_48 : decode cX12_startSo 48 = .ok (.bipush 71, 2) := by decide +kernel
theorem dX12_startSo_50 : decode cX12_startSo 50 = .ok (.iload_n 1, 1) := by decide +kernel
theorem dX12_startSo_51 : decode cX12_startSo 51 = .ok (.iadd, 1) := by decide +kernel
theorem dX12_startSo_52 : decode cX12_startSo 52 = .ok (.aload_n 0, 1) := by decide +kernel
theorem dX12_startSo_53 : decode cX12_startSo 53 = .ok (.getfield 98, 3) := by decide +kernel
theorem dX12_startSo_56 : decode cX12_startSo 56 = .ok (.bipush 7, 2) := by decide +kernel
theorem dX12_startSo_58 : decode cX12_startSo 58 = .ok (.iload_n 1, 1) := by decide +kernel
theorem dX12_startSo_59 : decode cX12_startSo 59 = .ok (.iadd, 1) := by decide +kernel
theorem dX12_startSo_60 : decode cX12_startSo 60 = .ok (.iaload, 1) := by decide +kernel
theorem dX12_startSo_61 : decode cX12_startSo 61 = .ok (.iastore, 1) := by decide +kernel
theorem dX12_startSo_62 : decode cX12_startSo 62 = .ok (.iinc 1 1, 3) := by decide +kernel
theorem dX12_startSo_65 : decode cX12_startSo 65 = .ok (.goto (-27), 3) := by decide +kernel
theorem dX12_startSo_68 : decode cX12_startSo 68 = .ok (.iconst 0, 1) := by decide +kernel
theorem dX12_startSo_69 : decode cX12_startSo 69 = .ok (.istore_n 1, 1) := by decide +kernel
theorem dX12_startSo_70 : decode cX12_startSo 70 = .ok (.iload_n 1, 1) := by decide +kernel
theorem dX12_startSo_71 : decode cX12_startSo 71 = .ok (.bipush 6, 2) := by decide +kernel
theorem dX12_startSo_73 : decode cX12_startSo 73 = .ok (.if_icmp .ge 63, 3) := by decide +kernel
theorem dX12_startSo_76 : decode cX12_startSo 76 = .ok (.aload_n 0, 1) := by decide +kernel
theorem dX12_startSo_77 : decode cX12_startSo 77 = .ok (.getfield 98, 3) := by decide +kernel
theorem dX12_startSo_80 : decode cX12_startSo 80 = .ok (.bipush 107, 2) := by decide +kernel
theorem dX12_startSo_82 : decode cX12_startSo 82 = .ok (.iload_n 1, 1) := by decide +kernel
theorem dX12_startSo_83 : decode cX12_startSo 83 = .ok (.iadd, 1) := by decide +kernel
theorem dX12_startSo_84 : decode cX12_startSo 84 = .ok (.aload_n 0, 1) := by decide +kernel
theorem dX12_startSo_85 : decode cX12_startSo 85 = .ok (.getfield 98, 3) := by decide +kernel
theorem dX12_startSo_88 : decode cX12_startSo 88 = .ok (.bipush 43, 2) := by decide +kernel
theorem dX12_startSo_90 : decode cX12_startSo 90 = .ok (.iload_n 1, 1) := by decide +kernel
theorem dX12_startSo_91 : decode cX12_startSo 91 = .ok (.iadd, 1) := by decide +kernel
theorem dX12_startSo_92 : decode cX12_startSo 92 = .ok (.iaload, 1) := by decide +kernel
theorem dX12_startSo_93 : decode cX12_startSo 93 = .ok (.iastore, 1) := by decide +kernel
theorem dX12_startSo_94 : decode cX12_startSo 94 = .ok (.aload_n 0, 1) := by decide +kernel
theorem dX12_startSo_95 : decode cX12_startSo 95 = .ok (.getfield 98, 3) := by decide +kernel
theorem dX12_startSo_98 : decode cX12_startSo 98 = .ok (.bipush 113, 2) := by decide +kernel
theorem dX12_startSo_100 : decode cX12_startSo 100 = .ok (.iload_n 1, 1) := by decide +kernel
theorem dX12_startSo_101 : decode cX12_startSo 101 = .ok (.iadd, 1) := by decide +kernel
theorem dX12_startSo_102 : decode cX12_startSo 102 = .ok (.aload_n 0, 1) := by decide +kernel
theorem dX12_startSo_103 : decode cX12_startSo 103 = .ok (.getfield 98, 3) := by decide +kernel
theorem dX12_startSo_106 : decode cX12_startSo 106 = .ok (.bipush 49, 2) := by decide +kernel
theorem dX12_startSo_108 : decode cX12_startSo 108 = .ok (.iload_n 1, 1) := by decide +kernel
theorem dX12_startSo_109 : decode cX12_startSo 109 = .ok (.iadd, 1) := by decide +kernel
theorem dX12_startSo_110 : decode cX12_startSo 110 = .ok (.iaload, 1) := by decide +kernel
theorem dX12_startSo_111 : decode cX12_startSo 111 = .ok (.iastore, 1) := by decide +kernel
theorem dX12_startSo_112 : decode cX12_startSo 112 = .ok (.aload_n 0, 1) := by decide +kernel
theorem dX12_startSo_113 : decode cX12_startSo 113 = .ok (.getfield 98, 3) := by decide +kernel
theorem dX12_startSo_116 : decode cX12_startSo 116 = .ok (.bipush 119, 2) := by decide +kernel
theorem dX12_startSo_118 : decode cX12_startSo 118 = .ok (.iload_n 1, 1) := by decide +kernel
theorem dX12_startSo_119 : decode cX12_startSo 119 = .ok (.iadd, 1) := by decide +kernel
theorem dX12_startSo_120 : decode cX12_startSo 120 = .ok (.aload_n 0, 1) := by decide +kernel
theorem dX12_startSo_121 : decode cX12_startSo 121 = .ok (.getfield 98, 3) := by decide +kernel
theorem dX12_startSo_124 : decode cX12_startSo 124 = .ok (.bipush 61, 2) := by decide +kernel
theorem dX12_startSo_126 : decode cX12_startSo 126 = .ok (.iload_n 1, 1) := by decide +kernel
theorem dX12_startSo_127 : decode cX12_startSo 127 = .ok (.iadd, 1) := by decide +kernel
theorem dX12_startSo_128 : decode cX12_startSo 128 = .ok (.iaload, 1) := by decide +kernel
theorem dX12_startSo_129 : decode cX12_startSo 129 = .ok (.iastore, 1) := by decide +kernel
theorem dX12_startSo_130 : decode cX12_startSo 130 = .ok (.iinc 1 1, 3) := by decide +kernel
theorem dX12_startSo_133 : decode cX12_startSo 133 = .ok (.goto (-63), 3) := by decide +kernel
theorem dX12_startSo_136 : decode cX12_startSo 136 = .ok (.return_, 1) := by decide +kernel
theorem dX12_findIn_0 : decode cX12_findIn 0 = .ok (.iconst 0, 1) := by decide +kernel
theorem dX12_findIn_1 : decode cX12_findIn 1 = .ok (.istore 5, 2) := by decide +kernel
theorem dX12_findIn_3 : decode cX12_findIn 3 = .ok (.iload 5, 2) := by decide +kernel
theorem dX12_findIn_5 : decode cX12_findIn 5 = .ok (.iload_n 2, 1) := by decide +kernel
theorem dX12_findIn_6 : decode cX12_findIn 6 = .ok (.if_icmp .ge 23, 3) := by decide +kernel
theorem dX12_findIn_29 : decode cX12_findIn 29 = .ok (.iconst (-1), 1) := by decide +kernel
theorem dX12_findIn_30 : decode cX12_findIn 30 = .ok (.ireturn, 1) := by decide +kernel
theorem dX12_findIn_9 : decode cX12_findIn 9 = .ok (.aload_n 0, 1) := by decide +kernel
theorem dX12_findIn_10 : decode cX12_findIn 10 = .ok (.iload_n 1, 1) := by decide +kernel
theorem dX12_findIn_11 : decode cX12_findIn 11 = .ok (.iload 5, 2) := by decide +kernel
theorem dX12_findIn_13 : decode cX12_findIn 13 = .ok (.iadd, 1) := by decide +kernel
theorem dX12_findIn_14 : decode cX12_findIn 14 = .ok (.laload, 1) := by decide +kernel
theorem dX12_findIn_15 : decode cX12_findIn 15 = .ok (.lload_n 3, 1) := by decide +kernel
theorem dX12_findIn_16 : decode cX12_findIn 16 = .ok (.lcmp, 1) := by decide +kernel
theorem dX12_findIn_17 : decode cX12_findIn 17 = .ok (.ifCond .ne 6, 3) := by decide +kernel
theorem dX12_findIn_23 : decode cX12_findIn 23 = .ok (.iinc 5 1, 3) := by decide +kernel
theorem dX12_findIn_26 : decode cX12_findIn 26 = .ok (.goto (-23), 3) := by decide +kernel
theorem dX12_findIn_20 : decode cX12_findIn 20 = .ok (.iload 5, 2) := by decide +kernel
theorem dX12_findIn_22 : decode cX12_findIn 22 = .ok (.ireturn, 1) := by decide +kernel
theorem wd_step {w : Int64} {B : Int} (h : w.toInt < 27 * B) (hc : ¬ lg_cmp w 27 < 0) : (w / 27).toInt < B := by
  have h27 : (27 : Int64).toInt = 27 := by decide
  have h0 : 27 ≤ w.toInt := by
    by_cases hx : w < 27
    · exact absurd (show lg_cmp w 27 < 0 by unfold lg_cmp; rw [if_neg (Int64.lt_asymm hx), if_neg (Int64.ne_of_lt hx)]; decide) hc
    · have h5 := Int64.not_lt.mp hx
      have h6 := Int64.le_iff_toInt_le.mp h5
      rw [h27] at h6; exact h6
  have h1 : (w / 27).toInt = w.toInt / 27 := by
    rw [Int64.toInt_div_of_ne_right _ _ (by decide), h27, Int.tdiv_eq_ediv_of_nonneg (by omega)]
  rw [h1]; omega
theorem wd_one (w : Int64) (hc : ¬ lg_cmp w 27 < 0) : 1 ≤ (w / 27).toInt := by
  have h27 : (27 : Int64).toInt = 27 := by decide
  have h0 : 27 ≤ w.toInt := by
    by_cases hx : w < 27
    · exact absurd (show lg_cmp w 27 < 0 by unfold lg_cmp; rw [if_neg (Int64.lt_asymm hx), if_neg (Int64.ne_of_lt hx)]; decide) hc
    · have h5 := Int64.not_lt.mp hx
      have h6 := Int64.le_iff_toInt_le.mp h5
      rw [h27] at h6; exact h6
  have h1 : (w / 27).toInt = w.toInt / 27 := by
    rw [Int64.toInt_div_of_ne_right _ _ (by decide), h27, Int.tdiv_eq_ediv_of_nonneg (by omega)]
  rw [h1]; omega
