theorem dX12_landOf_0 : decode cX12_landOf 0 = .ok (.iconst 1, 1) := by decide +kernel
theorem dX12_landOf_1 : decode cX12_landOf 1 = .ok (.iload_n 1, 1) := by decide +kernel
theorem dX12_landOf_2 : decode cX12_landOf 2 = .ok (.ishl, 1) := by decide +kernel
theorem dX12_landOf_3 : decode cX12_landOf 3 = .ok (.istore_n 2, 1) := by decide +kernel
theorem dX12_landOf_4 : decode cX12_landOf 4 = .ok (.iconst 0, 1) := by decide +kernel
theorem dX12_landOf_5 : decode cX12_landOf 5 = .ok (.istore_n 3, 1) := by decide +kernel
theorem dX12_landOf_6 : decode cX12_landOf 6 = .ok (.iload_n 3, 1) := by decide +kernel
theorem dX12_landOf_7 : decode cX12_landOf 7 = .ok (.bipush 6, 2) := by decide +kernel
theorem dX12_landOf_9 : decode cX12_landOf 9 = .ok (.if_icmp .ge 91, 3) := by decide +kernel
theorem dX12_landOf_12 : decode cX12_landOf 12 = .ok (.iconst 0, 1) := by decide +kernel
theorem dX12_landOf_13 : decode cX12_landOf 13 = .ok (.istore 4, 2) := by decide +kernel
theorem dX12_landOf_15 : decode cX12_landOf 15 = .ok (.iload 4, 2) := by decide +kernel
theorem dX12_landOf_17 : decode cX12_landOf 17 = .ok (.aload_n 0, 1) := by decide +kernel
theorem dX12_landOf_18 : decode cX12_landOf 18 = .ok (.getfield 98, 3) := by decide +kernel
theorem dX12_landOf_21 : decode cX12_landOf 21 = .ok (.iconst 2, 1) := by decide +kernel
theorem dX12_landOf_22 : decode cX12_landOf 22 = .ok (.iaload, 1) := by decide +kernel
theorem dX12_landOf_23 : decode cX12_landOf 23 = .ok (.if_icmp .ge 71, 3) := by decide +kernel
theorem dX12_landOf_94 : decode cX12_landOf 94 = .ok (.iinc 3 1, 3) := by decide +kernel
theorem dX12_landOf_97 : decode cX12_landOf 97 = .ok (.goto (-91), 3) := by decide +kernel
theorem dX12_landOf_26 : decode cX12_landOf 26 = .ok (.iconst 0, 1) := by decide +kernel
theorem dX12_landOf_27 : decode cX12_landOf 27 = .ok (.istore 5, 2) := by decide +kernel
theorem dX12_landOf_29 : decode cX12_landOf 29 = .ok (.iload 5, 2) := by decide +kernel
theorem dX12_landOf_31 : decode cX12_landOf 31 = .ok (.aload_n 0, 1) := by decide +kernel
theorem dX12_landOf_32 : decode cX12_landOf 32 = .ok (.getfield 98, 3) := by decide +kernel
theorem dX12_landOf_35 : decode cX12_landOf 35 = .ok (.iconst 2, 1) := by decide +kernel
theorem dX12_landOf_36 : decode cX12_landOf 36 = .ok (.iaload, 1) := by decide +kernel
theorem dX12_landOf_37 : decode cX12_landOf 37 = .ok (.if_icmp .ge 51, 3) := by decide +kernel
theorem dX12_landOf_88 : decode cX12_landOf 88 = .ok (.iinc 4 1, 3) := by decide +kernel
theorem dX12_landOf_91 : decode cX12_landOf 91 = .ok (.goto (-76), 3) := by decide +kernel
theorem dX12_landOf_40 : decode cX12_landOf 40 = .ok (.iload_n 2, 1) := by decide +kernel
theorem dX12_landOf_41 : decode cX12_landOf 41 = .ok (.iload 4, 2) := by decide +kernel
theorem dX12_landOf_43 : decode cX12_landOf 43 = .ok (.invokestatic 348, 3) := by decide +kernel
theorem dX12_landOf_46 : decode cX12_landOf 46 = .ok (.ifCond .eq 36, 3) := by decide +kernel
theorem dX12_landOf_82 : decode cX12_landOf 82 = .ok (.iinc 5 1, 3) := by decide +kernel
theorem dX12_landOf_85 : decode cX12_landOf 85 = .ok (.goto (-56), 3) := by decide +kernel
theorem dX12_landOf_49 : decode cX12_landOf 49 = .ok (.aload_n 0, 1) := by decide +kernel
theorem dX12_landOf_50 : decode cX12_landOf 50 = .ok (.getfield 98, 3) := by decide +kernel
theorem dX12_landOf_53 : decode cX12_landOf 53 = .ok (.bipush 107, 2) := by decide +kernel
theorem dX12_landOf_55 : decode cX12_landOf 55 = .ok (.iload 4, 2) := by decide +kernel
theorem dX12_landOf_57 : decode cX12_landOf 57 = .ok (.iadd, 1) := by decide +kernel
theorem dX12_landOf_58 : decode cX12_landOf 58 = .ok (.iaload, 1) := by decide +kernel
theorem dX12_landOf_59 : decode cX12_landOf 59 = .ok (.aload_n 0, 1) := by decide +kernel
theorem dX12_landOf_60 : decode cX12_landOf 60 = .ok (.getfield 98, 3) := by decide +kernel
theorem dX12_landOf_63 : decode cX12_landOf 63 = .ok (.bipush 107, 2) := by decide +kernel
theorem dX12_landOf_65 : decode cX12_landOf 65 = .ok (.iload 5, 2) := by decide +kernel
theorem dX12_landOf_67 : decode cX12_landOf 67 = .ok (.iadd, 1) := by decide +kernel
theorem dX12_landOf_68 : decode cX12_landOf 68 = .ok (.iaload, 1) := by decide +kernel
theorem dX12_landOf_69 : decode cX12_landOf 69 = .ok (.invokestatic 329, 3) := by decide +kernel
theorem dX12_landOf_72 : decode cX12_landOf 72 = .ok (.ifCond .eq 10, 3) := by decide +kernel
theorem dX12_landOf_75 : decode cX12_landOf 75 = .ok (.iload_n 2, 1) := by decide +kernel
theorem dX12_landOf_76 : decode cX12_landOf 76 = .ok (.iconst 1, 1) := by decide +kernel
theorem dX12_landOf_77 : decode cX12_landOf 77 = .ok (.iload 5, 2) := by decide +kernel
theorem dX12_landOf_79 : decode cX12_landOf 79 = .ok (.ishl, 1) := by decide +kernel
theorem dX12_landOf_80 : decode cX12_landOf 80 = .ok (.ior, 1) := by decide +kernel
theorem dX12_landOf_81 : decode cX12_landOf 81 = .ok (.istore_n 2, 1) := by decide +kernel
theorem dX12_landOf_100 : decode cX12_landOf 100 = .ok (.iload_n 2, 1) := by decide +kernel
theorem dX12_landOf_101 : decode cX12_landOf 101 = .ok (.ireturn, 1) := by decide +kernel
theorem dX12_land_0 : decode cX12_land 0 = .ok (.aload_n 0, 1) := by decide +kernel
theorem dX12_land_1 : decode cX12_land 1 = .ok (.iconst 0, 1) := by decide +kernel
theorem dX12_land_2 : decode cX12_land 2 = .ok (.putfield 1, 3) := by decide +kernel
theorem dX12_land_5 : decode cX12_land 5 = .ok (.aload_n 0, 1) := by decide +kernel
theorem dX12_land_6 : decode cX12_land 6 = .ok (.iload_n 1, 1) := by decide +kernel
theorem dX12_land_7 : decode cX12_land 7 = .ok (.invokevirtual 257, 3) := by decide +kernel
theorem dX12_land_10 : decode cX12_land 10 = .ok (.ifCond .eq 11, 3) := by decide +kernel
theorem dX12_land_13 : decode cX12_land 13 = .ok (.aload_n 0, 1) := by decide +kernel
theorem dX12_land_14 : decode cX12_land 14 = .ok (.iload_n 1, 1) := by decide +kernel
theorem dX12_land_15 : decode cX12_land 15 = .ok (.invokevirtual 351, 3) := by decide +kernel
theorem dX12_land_18 : decode cX12_land 18 = .ok (.goto 4, 3) := by decide +kernel
theorem dX12_land_22 : decode cX12_land 22 = .ok (.ireturn, 1) := by decide +kernel
theorem dX12_land_21 : decode cX12_land 21 = .ok (.iconst (-1), 1) := by decide +kernel
theorem dX12_mean_0 : decode cX12_mean 0 = .ok (.aload_n 0, 1) := by decide +kernel
theorem dX12_mean_1 : decode cX12_mean 1 = .ok (.iconst 0, 1) := by decide +kernel
theorem dX12_mean_2 : decode cX12_mean 2 = .ok (.putfield 1, 3) := by decide +kernel
theorem dX12_mean_5 : decode cX12_mean 5 = .ok (.aload_n 0, 1) := by decide +kernel
theorem dX12_mean_6 : decode cX12_mean 6 = .ok (.iconst 0, 1) := by decide +kernel
theorem dX12_mean_7 : decode cX12_mean 7 = .ok (.iload_n 1, 1) := by decide +kernel
theorem dX12_mean_8 : decode cX12_mean 8 = .ok (.invokevirtual 252, 3) := by decide +kernel
theorem dX12_mean_11 : decode cX12_mean 11 = .ok (.ifCond .eq 12, 3) := by decide +kernel
theorem dX12_mean_14 : decode cX12_mean 14 = .ok (.iload_n 2, 1) := by decide +kernel
theorem dX12_mean_15 : decode cX12_mean 15 = .ok (.iconst 0, 1) := by decide +kernel
theorem dX12_mean_16 : decode cX12_mean 16 = .ok (.iconst 1, 1) := by decide +kernel
theorem dX12_mean_17 : decode cX12_mean 17 = .ok (.invokestatic 75, 3) := by decide +kernel
theorem dX12_mean_20 : decode cX12_mean 20 = .ok (.ifCond .ne 8, 3) := by decide +kernel
theorem dX12_mean_28 : decode cX12_mean 28 = .ok (.iconst 0, 1) := by decide +kernel
theorem dX12_mean_29 : decode cX12_mean 29 = .ok (.istore_n 3, 1) := by decide +kernel
theorem dX12_mean_30 : decode cX12_mean 30 = .ok (.iconst 0, 1) := by decide +kernel
theorem dX12_mean_31 : decode cX12_mean 31 = .ok (.istore 4, 2) := by decide +kernel
theorem dX12_mean_33 : decode cX12_mean 33 = .ok (.iload 4, 2) := by decide +kernel
theorem dX12_mean_35 : decode cX12_mean 35 = .ok (.aload_n 0, 1) := by decide +kernel
theorem dX12_mean_36 : decode cX12_mean 36 = .ok (.getfield 98, 3) := by decide +kernel
theorem dX12_mean_39 : decode cX12_mean 39 = .ok (.iconst 0, 1) := by decide +kernel
theorem dX12_mean_40 : decode cX12_mean 40 = .ok (.iaload, 1) := by decide +kernel
theorem dX12_mean_41 : decode cX12_mean 41 = .ok (.if_icmp .ge 27, 3) := by decide +kernel
theorem dX12_mean_68 : decode cX12_mean 68 = .ok (.iload_n 2, 1) := by decide +kernel
theorem dX12_mean_69 : decode cX12_mean 69 = .ok (.ifCond .ne 7, 3) := by decide +kernel
theorem dX12_mean_76 : decode cX12_mean 76 = .ok (.aload_n 0, 1) := by decide +kernel
theorem dX12_mean_77 : decode cX12_mean 77 = .ok (.getfield 98, 3) := by decide +kernel
theorem dX12_mean_80 : decode cX12_mean 80 = .ok (.iconst 0, 1) := by decide +kernel
theorem dX12_mean_81 : decode cX12_mean 81 = .ok (.iaload, 1) := by decide +kernel
theorem dX12_mean_82 : decode cX12_mean 82 = .ok (.aload_n 0, 1) := by decide +kernel
theorem dX12_mean_83 : decode cX12_mean 83 = .ok (.getfield 98, 3) := by decide +kernel
theorem dX12_mean_86 : decode cX12_mean 86 = .ok (.iconst 0, 1) := by decide +kernel
theorem dX12_mean_87 : decode cX12_mean 87 = .ok (.iaload, 1) := by decide +kernel
theorem dX12_mean_88 : decode cX12_mean 88 = .ok (.iload_n 3, 1) := by decide +kernel
theorem dX12_mean_89 : decode cX12_mean 89 = .ok (.invokestatic 354, 3) := by decide +kernel
theorem dX12_mean_92 : decode cX12_mean 92 = .ok (.idiv, 1) := by decide +kernel
theorem dX12_mean_93 : decode cX12_mean 93 = .ok (.ireturn, 1) := by decide +kernel
theorem dX12_mean_72 : decode cX12_mean 72 = .ok (.iload_n 3, 1) := by decide +kernel
theorem dX12_mean_73 : decode cX12_mean 73 = .ok (.goto 9, 3) := by decide +kernel
theorem dX12_mean_44 : decode cX12_mean 44 = .ok (.iload_n 3, 1) := by decide +kernel
theorem dX12_mean_45 : decode cX12_mean 45 = .ok (.aload_n 0, 1) := by decide +kernel
theorem dX12_mean_46 : decode cX12_mean 46 = .ok (.getfield 98, 3) := by decide +kernel
theorem dX12_mean_49 : decode cX12_mean 49 = .ok (.bipush 71, 2) := by decide +kernel
theorem dX12_mean_51 : decode cX12_mean 51 = .ok (.bipush 6, 2) := by decide +kernel
theorem dX12_mean_53 : decode cX12_mean 53 = .ok (.iload_n 1, 1) := by decide +kernel
theorem dX12_mean_54 : decode cX12_mean 54 = .ok (.imul, 1) := by decide +kernel
theorem dX12_mean_55 : decode cX12_mean 55 = .ok (.iadd, 1) := by decide +kernel
theorem dX12_mean_56 : decode cX12_mean 56 = .ok (.iload 4, 2) := by decide +kernel
theorem dX12_mean_58 : decode cX12_mean 58 = .ok (.iadd, 1) := by decide +kernel
theorem dX12_mean_59 : decode cX12_mean 59 = .ok (.iaload, 1) := by decide +kernel
theorem dX12_mean_60 : decode cX12_mean 60 = .ok (.iadd, 1) := by decide +kernel
theorem dX12_mean_61 : decode cX12_mean 61 = .ok (.istore_n 3, 1) := by decide +kernel
theorem dX12_mean_62 : decode cX12_mean 62 = .ok (.iinc 4 1, 3) := by decide +kernel
theorem dX12_mean_65 : decode cX12_mean 65 = .ok (.goto (-32), 3) := by decide +kernel
theorem dX12_mean_23 : decode cX12_mean 23 = .ok (.aload_n 0, 1) := by decide +kernel
theorem dX12_mean_24 : decode cX12_mean 24 = .ok (.invokevirtual 263, 3) := by decide +kernel
theorem dX12_mean_27 : decode cX12_mean 27 = .ok (.ireturn, 1) := by decide +kernel
set_option maxRecDepth 100000 in
theorem ggX12_landOf_X12_has : GoodIn wsX12_landOf wsX12_has := goodIn_r _ [5] rfl (by decide +kernel)
set_option maxRecDepth 100000 in
theorem ggX12_landOf_X12_areNear : GoodIn wsX12_landOf wsX12_areNear := goodIn_r _ [8, 9, 10, 4, 11] rfl (by decide +kernel)
set_option maxRecDepth 100000 in
theorem ggX12_land_X12_isLump : GoodIn wsX12_land wsX12_isLump := goodIn_r _ [6, 7, 8, 9, 5, 10, 24, 25, 26, 27, 28, 29, 30, 31, 32, 33, 34, 35, 36, 37, 38, 39, 40, 41, 42, 43, 44, 45, 46, 47, 48, 49, 50, 51, 52, 53, 54, 55, 56, 57, 58, 59, 60, 61, 62, 63, 64, 65, 66, 67, 68, 69, 70, 71, 72, 73, 74, 75] rfl (by decide +kernel)
set_option maxRecDepth 100000 in
theorem ggX12_land_X12_landOf : GoodIn wsX12_land wsX12_landOf := goodIn_r _ [14, 7, 15, 16, 5, 17, 18, 19, 20, 21, 22, 23, 24, 25, 26, 27, 28, 29, 30, 31, 32, 33, 34, 35, 36, 37, 38, 39, 40, 41, 42, 43, 44, 45, 46, 47, 48, 49, 50, 51, 52, 53, 54, 55, 56, 57, 58, 59, 60, 61, 62, 63, 64, 65, 66, 67, 68, 69, 70, 71, 72, 73, 74, 75] rfl (by decide +kernel)
set_option maxRecDepth 100000 in
theorem ggX12_mean_X12_isCell : GoodIn wsX12_mean wsX12_isCell := goodIn_r _ [7, 2, 8, 9, 6, 10, 18, 19, 20, 21, 22, 23, 24, 25, 26, 27, 28, 29, 30, 31, 32, 33, 34, 35, 36, 37, 38, 39, 40, 41, 42, 43, 44, 45, 46, 47, 48, 49, 50, 51, 52, 53, 54, 55, 56, 57, 58, 59, 60, 61, 62, 63, 64, 65, 66, 67, 68, 69] rfl (by decide +kernel)
set_option maxRecDepth 100000 in
theorem ggX12_mean_X12_isIn : GoodIn wsX12_mean wsX12_isIn := goodIn_r _ [10] rfl (by decide +kernel)
set_option maxRecDepth 100000 in
theorem ggX12_mean_X12_common : GoodIn wsX12_mean wsX12_common := goodIn_r _ [17] rfl (by decide +kernel)
set_option maxRecDepth 100000 in
theorem ggX12_mean_X12_refuse : GoodIn wsX12_mean wsX12_refuse := goodIn_r _ [14, 1, 18, 19, 20, 21, 22, 23, 24, 25, 26, 27, 28, 29, 30, 31, 32, 33, 34, 35, 36, 37, 38, 39, 40, 41, 42, 43, 44, 45, 46, 47, 48, 49, 50, 51, 52, 53, 54, 55, 56, 57, 58, 59, 60, 61, 62, 63, 64, 65, 66, 67, 68, 69] rfl (by decide +kernel)
set_option maxRecDepth 100000 in
theorem gX12_landOf_X12_has : GoodIn wsX12_landOf (va_wsS RX12 348 yX12_has wsX12_has) := goodIn_app (goodIn_of _ (by decide +kernel)) ggX12_landOf_X12_has
set_option maxRecDepth 100000 in
theorem gX12_landOf_X12_areNear : GoodIn wsX12_landOf (va_wsS RX12 329 yX12_areNear wsX12_areNear) := goodIn_app (goodIn_of _ (by decide +kernel)) ggX12_landOf_X12_areNear
set_option maxRecDepth 100000 in
theorem gX12_land_X12_isLump : GoodIn wsX12_land (wsV RX12 257 RX12 yX12_isLump wsX12_isLump) := goodIn_app (goodIn_of _ (by decide +kernel)) ggX12_land_X12_isLump
set_option maxRecDepth 100000 in
theorem gX12_land_X12_landOf : GoodIn wsX12_land (wsV RX12 351 RX12 yX12_landOf wsX12_landOf) := goodIn_app (goodIn_of _ (by decide +kernel)) ggX12_land_X12_landOf
set_option maxRecDepth 100000 in
theorem gX12_mean_X12_isCell : GoodIn wsX12_mean (wsV RX12 252 RX12 yX12_isCell wsX12_isCell) := goodIn_app (goodIn_of _ (by decide +kernel)) ggX12_mean_X12_isCell
set_option maxRecDepth 100000 in
theorem gX12_mean_X12_isIn : GoodIn wsX12_mean (va_wsS RX12 75 yX12_isIn wsX12_isIn) := goodIn_app (goodIn_of _ (by decide +kernel)) ggX12_mean_X12_isIn
set_option maxRecDepth 100000 in
theorem gX12_mean_X12_common : GoodIn wsX12_mean (va_wsS RX12 354 yX12_common wsX12_common) := goodIn_app (goodIn_of _ (by decide +kernel)) ggX12_mean_X12_common
set_option maxRecDepth 100000 in
theorem gX12_mean_X12_refuse : GoodIn wsX12_mean (wsV RX12 263 RX12 yX12_refuse wsX12_refuse) := goodIn_app (goodIn_of _ (by decide +kernel)) ggX12_mean_X12_refuse
set_option maxRecDepth 20000 in
theorem lf_x_landOf_1 (k9 : Nat) (n13 : Nat) (j11 : k9 ≤ 6) (hm15 : 6 - k9 < n13 + 1) (c16 : k9 < 6) : (k9 + 1) ≤ 6 := by
  try simp only [ia_lt, ia_le, ia_eq, ia_m1, ia_0, ia_1, ne_eq, true_and, and_true, false_and, and_false, or_false, false_or, or_true, true_or, not_true_eq_false, not_false_eq_true] at *
  all_goals omega
set_option maxRecDepth 20000 in
theorem lf_x_landOf_2 (k9 : Nat) (n13 : Nat) (j11 : k9 ≤ 6) (hm15 : 6 - k9 < n13 + 1) (c16 : k9 < 6) : 6 - (k9 + 1) < n13 := by
  try simp only [ia_lt, ia_le, ia_eq, ia_m1, ia_0, ia_1, ne_eq, true_and, and_true, false_and, and_false, or_false, false_or, or_true, true_or, not_true_eq_false, not_false_eq_true] at *
  all_goals omega
set_option maxRecDepth 20000 in
theorem lf_x_landOf_3 (knowF : Nat → Int32) (k23 : Nat) (n27 : Nat) (y30 : Int32) (k41 : Nat) (n45 : Nat) (y48 : Int32) (ab_now : NB knowF) (j25 : k23 ≤ 6) (hm29 : 6 - k23 < n27 + 1) (e31 : y30 = knowF 2) (b32 : 0 ≤ y30.toInt) (b33 : y30.toInt ≤ 6) (c34 : ¬ y30 ≤ nI k23) (j43 : k41 ≤ 6) (hm47 : 6 - k41 < n45 + 1) (e49 : y48 = knowF 2) (b50 : 0 ≤ y48.toInt) (b51 : y48.toInt ≤ 6) (c52 : y48 ≤ nI k41) : (k23 + 1) ≤ 6 := by
  have b_y30 := ia_b y30
  have b_y48 := ia_b y48
  try have k_0 := ia_n k23 (by first | decide | omega)
  try have k_1 := ia_n k41 (by first | decide | omega)
  try simp only [ia_lt, ia_le, ia_eq, ia_m1, ia_0, ia_1, ne_eq, true_and, and_true, false_and, and_false, or_false, false_or, or_true, true_or, not_true_eq_false, not_false_eq_true] at *
  all_goals omega
set_option maxRecDepth 20000 in
theorem lf_x_landOf_4 (knowF : Nat → Int32) (k23 : Nat) (n27 : Nat) (y30 : Int32) (k41 : Nat) (n45 : Nat) (y48 : Int32) (ab_now : NB knowF) (j25 : k23 ≤ 6) (hm29 : 6 - k23 < n27 + 1) (e31 : y30 = knowF 2) (b32 : 0 ≤ y30.toInt) (b33 : y30.toInt ≤ 6) (c34 : ¬ y30 ≤ nI k23) (j43 : k41 ≤ 6) (hm47 : 6 - k41 < n45 + 1) (e49 : y48 = knowF 2) (b50 : 0 ≤ y48.toInt) (b51 : y48.toInt ≤ 6) (c52 : y48 ≤ nI k41) : 6 - (k23 + 1) < n27 := by
  have b_y30 := ia_b y30
  have b_y48 := ia_b y48
  try have k_0 := ia_n k23 (by first | decide | omega)
  try have k_1 := ia_n k41 (by first | decide | omega)
  try simp only [ia_lt, ia_le, ia_eq, ia_m1, ia_0, ia_1, ne_eq, true_and, and_true, false_and, and_false, or_false, false_or, or_true, true_or, not_true_eq_false, not_false_eq_true] at *
  all_goals omega
set_option maxRecDepth 20000 in
theorem lf_x_landOf_5 (knowF : Nat → Int32) (k23 : Nat) (n27 : Nat) (y30 : Int32) (k41 : Nat) (n45 : Nat) (y48 : Int32) (ab_now : NB knowF) (j25 : k23 ≤ 6) (hm29 : 6 - k23 < n27 + 1) (e31 : y30 = knowF 2) (b32 : 0 ≤ y30.toInt) (b33 : y30.toInt ≤ 6) (c34 : ¬ y30 ≤ nI k23) (j43 : k41 ≤ 6) (hm47 : 6 - k41 < n45 + 1) (e49 : y48 = knowF 2) (b50 : 0 ≤ y48.toInt) (b51 : y48.toInt ≤ 6) (c52 : ¬ y48 ≤ nI k41) : (k41 + 1) ≤ 6 := by
  have b_y30 := ia_b y30
  have b_y48 := ia_b y48
  try have k_0 := ia_n k23 (by first | decide | omega)
  try have k_1 := ia_n k41 (by first | decide | omega)
  try simp only [ia_lt, ia_le, ia_eq, ia_m1, ia_0, ia_1, ne_eq, true_and, and_true, false_and, and_false, or_false, false_or, or_true, true_or, not_true_eq_false, not_false_eq_true] at *
  all_goals omega
set_option maxRecDepth 20000 in
theorem lf_x_landOf_6 (knowF : Nat → Int32) (k23 : Nat) (n27 : Nat) (y30 : Int32) (k41 : Nat) (n45 : Nat) (y48 : Int32) (ab_now : NB knowF) (j25 : k23 ≤ 6) (hm29 : 6 - k23 < n27 + 1) (e31 : y30 = knowF 2) (b32 : 0 ≤ y30.toInt) (b33 : y30.toInt ≤ 6) (c34 : ¬ y30 ≤ nI k23) (j43 : k41 ≤ 6) (hm47 : 6 - k41 < n45 + 1) (e49 : y48 = knowF 2) (b50 : 0 ≤ y48.toInt) (b51 : y48.toInt ≤ 6) (c52 : ¬ y48 ≤ nI k41) : 6 - (k41 + 1) < n45 := by
  have b_y30 := ia_b y30
  have b_y48 := ia_b y48
  try have k_0 := ia_n k23 (by first | decide | omega)
  try have k_1 := ia_n k41 (by first | decide | omega)
  try simp only [ia_lt, ia_le, ia_eq, ia_m1, ia_0, ia_1, ne_eq, true_and, and_true, false_and, and_false, or_false, false_or, or_true, true_or, not_true_eq_false, not_false_eq_true] at *
  all_goals omega
set_option maxRecDepth 20000 in
theorem lf_x_landOf_7 (knowF : Nat → Int32) (k23 : Nat) (n27 : Nat) (y30 : Int32) (k41 : Nat) (n45 : Nat) (y48 : Int32) (y56 : Int32) (ab_now : NB knowF) (j25 : k23 ≤ 6) (hm29 : 6 - k23 < n27 + 1) (e31 : y30 = knowF 2) (b32 : 0 ≤ y30.toInt) (b33 : y30.toInt ≤ 6) (c34 : ¬ y30 ≤ nI k23) (j43 : k41 ≤ 6) (hm47 : 6 - k41 < n45 + 1) (e49 : y48 = knowF 2) (b50 : 0 ≤ y48.toInt) (b51 : y48.toInt ≤ 6) (c52 : ¬ y48 ≤ nI k41) (e57 : y56 = knowF (107 + k23)) : (107 + k23) < 373 := by
  have b_y30 := ia_b y30
  have b_y48 := ia_b y48
  have b_y56 := ia_b y56
  try have k_0 := ia_n k23 (by first | decide | omega)
  try have k_1 := ia_n k41 (by first | decide | omega)
  try simp only [ia_lt, ia_le, ia_eq, ia_m1, ia_0, ia_1, ne_eq, true_and, and_true, false_and, and_false, or_false, false_or, or_true, true_or, not_true_eq_false, not_false_eq_true] at *
  all_goals omega
set_option maxRecDepth 20000 in
theorem lf_x_landOf_8 (knowF : Nat → Int32) (k23 : Nat) (n27 : Nat) (y30 : Int32) (k41 : Nat) (n45 : Nat) (y48 : Int32) (y56 : Int32) (ab_now : NB knowF) (j25 : k23 ≤ 6) (hm29 : 6 - k23 < n27 + 1) (e31 : y30 = knowF 2) (b32 : 0 ≤ y30.toInt) (b33 : y30.toInt ≤ 6) (c34 : ¬ y30 ≤ nI k23) (j43 : k41 ≤ 6) (hm47 : 6 - k41 < n45 + 1) (e49 : y48 = knowF 2) (b50 : 0 ≤ y48.toInt) (b51 : y48.toInt ≤ 6) (c52 : ¬ y48 ≤ nI k41) (e57 : y56 = knowF (107 + k23)) : 107 ≤ (107 + k23) := by
  have b_y30 := ia_b y30
  have b_y48 := ia_b y48
  have b_y56 := ia_b y56
  try have k_0 := ia_n k23 (by first | decide | omega)
  try have k_1 := ia_n k41 (by first | decide | omega)
  try simp only [ia_lt, ia_le, ia_eq, ia_m1, ia_0, ia_1, ne_eq, true_and, and_true, false_and, and_false, or_false, false_or, or_true, true_or, not_true_eq_false, not_false_eq_true] at *
  all_goals omega
set_option maxRecDepth 20000 in
theorem lf_x_landOf_9 (knowF : Nat → Int32) (k23 : Nat) (n27 : Nat) (y30 : Int32) (k41 : Nat) (n45 : Nat) (y48 : Int32) (y56 : Int32) (ab_now : NB knowF) (j25 : k23 ≤ 6) (hm29 : 6 - k23 < n27 + 1) (e31 : y30 = knowF 2) (b32 : 0 ≤ y30.toInt) (b33 : y30.toInt ≤ 6) (c34 : ¬ y30 ≤ nI k23) (j43 : k41 ≤ 6) (hm47 : 6 - k41 < n45 + 1) (e49 : y48 = knowF 2) (b50 : 0 ≤ y48.toInt) (b51 : y48.toInt ≤ 6) (c52 : ¬ y48 ≤ nI k41) (e57 : y56 = knowF (107 + k23)) : (107 + k23) < 119 := by
  have b_y30 := ia_b y30
  have b_y48 := ia_b y48
  have b_y56 := ia_b y56
  try have k_0 := ia_n k23 (by first | decide | omega)
  try have k_1 := ia_n k41 (by first | decide | omega)
  try simp only [ia_lt, ia_le, ia_eq, ia_m1, ia_0, ia_1, ne_eq, true_and, and_true, false_and, and_false, or_false, false_or, or_true, true_or, not_true_eq_false, not_false_eq_true] at *
  all_goals omega
set_option maxRecDepth 20000 in
theorem lf_x_landOf_10 (knowF : Nat → Int32) (k23 : Nat) (n27 : Nat) (y30 : Int32) (k41 : Nat) (n45 : Nat) (y48 : Int32) (y56 : Int32) (y60 : Int32) (ab_now : NB knowF) (j25 : k23 ≤ 6) (hm29 : 6 - k23 < n27 + 1) (e31 : y30 = knowF 2) (b32 : 0 ≤ y30.toInt) (b33 : y30.toInt ≤ 6) (c34 : ¬ y30 ≤ nI k23) (j43 : k41 ≤ 6) (hm47 : 6 - k41 < n45 + 1) (e49 : y48 = knowF 2) (b50 : 0 ≤ y48.toInt) (b51 : y48.toInt ≤ 6) (c52 : ¬ y48 ≤ nI k41) (e57 : y56 = knowF (107 + k23)) (b58 : 0 ≤ y56.toInt) (b59 : y56.toInt ≤ 35) (e61 : y60 = knowF (107 + k41)) : (107 + k41) < 373 := by
  have b_y30 := ia_b y30
  have b_y48 := ia_b y48
  have b_y56 := ia_b y56
  have b_y60 := ia_b y60
  try have k_0 := ia_n k23 (by first | decide | omega)
  try have k_1 := ia_n k41 (by first | decide | omega)
  try simp only [ia_lt, ia_le, ia_eq, ia_m1, ia_0, ia_1, ne_eq, true_and, and_true, false_and, and_false, or_false, false_or, or_true, true_or, not_true_eq_false, not_false_eq_true] at *
  all_goals omega
set_option maxRecDepth 20000 in
theorem lf_x_landOf_11 (knowF : Nat → Int32) (k23 : Nat) (n27 : Nat) (y30 : Int32) (k41 : Nat) (n45 : Nat) (y48 : Int32) (y56 : Int32) (y60 : Int32) (ab_now : NB knowF) (j25 : k23 ≤ 6) (hm29 : 6 - k23 < n27 + 1) (e31 : y30 = knowF 2) (b32 : 0 ≤ y30.toInt) (b33 : y30.toInt ≤ 6) (c34 : ¬ y30 ≤ nI k23) (j43 : k41 ≤ 6) (hm47 : 6 - k41 < n45 + 1) (e49 : y48 = knowF 2) (b50 : 0 ≤ y48.toInt) (b51 : y48.toInt ≤ 6) (c52 : ¬ y48 ≤ nI k41) (e57 : y56 = knowF (107 + k23)) (b58 : 0 ≤ y56.toInt) (b59 : y56.toInt ≤ 35) (e61 : y60 = knowF (107 + k41)) : 107 ≤ (107 + k41) := by
  have b_y30 := ia_b y30
  have b_y48 := ia_b y48
  have b_y56 := ia_b y56
  have b_y60 := ia_b y60
  try have k_0 := ia_n k23 (by first | decide | omega)
  try have k_1 := ia_n k41 (by first | decide | omega)
  try simp only [ia_lt, ia_le, ia_eq, ia_m1, ia_0, ia_1, ne_eq, true_and, and_true, false_and, and_false, or_false, false_or, or_true, true_or, not_true_eq_false, not_false_eq_true] at *
  all_goals omega
set_option maxRecDepth 20000 in
theorem lf_x_landOf_12 (knowF : Nat → Int32) (k23 : Nat) (n27 : Nat) (y30 : Int32) (k41 : Nat) (n45 : Nat) (y48 : Int32) (y56 : Int32) (y60 : Int32) (ab_now : NB knowF) (j25 : k23 ≤ 6) (hm29 : 6 - k23 < n27 + 1) (e31 : y30 = knowF 2) (b32 : 0 ≤ y30.toInt) (b33 : y30.toInt ≤ 6) (c34 : ¬ y30 ≤ nI k23) (j43 : k41 ≤ 6) (hm47 : 6 - k41 < n45 + 1) (e49 : y48 = knowF 2) (b50 : 0 ≤ y48.toInt) (b51 : y48.toInt ≤ 6) (c52 : ¬ y48 ≤ nI k41) (e57 : y56 = knowF (107 + k23)) (b58 : 0 ≤ y56.toInt) (b59 : y56.toInt ≤ 35) (e61 : y60 = knowF (107 + k41)) : (107 + k41) < 119 := by
  have b_y30 := ia_b y30
  have b_y48 := ia_b y48
  have b_y56 := ia_b y56
  have b_y60 := ia_b y60
  try have k_0 := ia_n k23 (by first | decide | omega)
  try have k_1 := ia_n k41 (by first | decide | omega)
  try simp only [ia_lt, ia_le, ia_eq, ia_m1, ia_0, ia_1, ne_eq, true_and, and_true, false_and, and_false, or_false, false_or, or_true, true_or, not_true_eq_false, not_false_eq_true] at *
  all_goals omega
set_option maxRecDepth 20000 in
theorem lf_x_landOf_13 (knowF : Nat → Int32) (k23 : Nat) (n27 : Nat) (y30 : Int32) (k41 : Nat) (n45 : Nat) (y48 : Int32) (y56 : Int32) (y60 : Int32) (ab_now : NB knowF) (j25 : k23 ≤ 6) (hm29 : 6 - k23 < n27 + 1) (e31 : y30 = knowF 2) (b32 : 0 ≤ y30.toInt) (b33 : y30.toInt ≤ 6) (c34 : ¬ y30 ≤ nI k23) (j43 : k41 ≤ 6) (hm47 : 6 - k41 < n45 + 1) (e49 : y48 = knowF 2) (b50 : 0 ≤ y48.toInt) (b51 : y48.toInt ≤ 6) (c52 : ¬ y48 ≤ nI k41) (e57 : y56 = knowF (107 + k23)) (b58 : 0 ≤ y56.toInt) (b59 : y56.toInt ≤ 35) (e61 : y60 = knowF (107 + k41)) (b62 : 0 ≤ y60.toInt) (b63 : y60.toInt ≤ 35) : (k41 + 1) ≤ 6 := by
  have b_y30 := ia_b y30
  have b_y48 := ia_b y48
  have b_y56 := ia_b y56
  have b_y60 := ia_b y60
  try have k_0 := ia_n k23 (by first | decide | omega)
  try have k_1 := ia_n k41 (by first | decide | omega)
  try simp only [ia_lt, ia_le, ia_eq, ia_m1, ia_0, ia_1, ne_eq, true_and, and_true, false_and, and_false, or_false, false_or, or_true, true_or, not_true_eq_false, not_false_eq_true] at *
  all_goals omega
set_option maxRecDepth 20000 in
theorem lf_x_landOf_14 (knowF : Nat → Int32) (k23 : Nat) (n27 : Nat) (y30 : Int32) (k41 : Nat) (n45 : Nat) (y48 : Int32) (y56 : Int32) (y60 : Int32) (ab_now : NB knowF) (j25 : k23 ≤ 6) (hm29 : 6 - k23 < n27 + 1) (e31 : y30 = knowF 2) (b32 : 0 ≤ y30.toInt) (b33 : y30.toInt ≤ 6) (c34 : ¬ y30 ≤ nI k23) (j43 : k41 ≤ 6) (hm47 : 6 - k41 < n45 + 1) (e49 : y48 = knowF 2) (b50 : 0 ≤ y48.toInt) (b51 : y48.toInt ≤ 6) (c52 : ¬ y48 ≤ nI k41) (e57 : y56 = knowF (107 + k23)) (b58 : 0 ≤ y56.toInt) (b59 : y56.toInt ≤ 35) (e61 : y60 = knowF (107 + k41)) (b62 : 0 ≤ y60.toInt) (b63 : y60.toInt ≤ 35) : 6 - (k41 + 1) < n45 := by
  have b_y30 := ia_b y30
  have b_y48 := ia_b y48
  have b_y56 := ia_b y56
  have b_y60 := ia_b y60
  try have k_0 := ia_n k23 (by first | decide | omega)
  try have k_1 := ia_n k41 (by first | decide | omega)
  try simp only [ia_lt, ia_le, ia_eq, ia_m1, ia_0, ia_1, ne_eq, true_and, and_true, false_and, and_false, or_false, false_or, or_true, true_or, not_true_eq_false, not_false_eq_true] at *
  all_goals omega
set_option maxRecDepth 20000 in
theorem lf_x_landOf_15 (knowF : Nat → Int32) (k23 : Nat) (n27 : Nat) (y30 : Int32) (k41 : Nat) (x42 : Int32) (n45 : Nat) (y48 : Int32) (y56 : Int32) (y60 : Int32) (y67 : Int32) (y69 : Int32) (ab_now : NB knowF) (j25 : k23 ≤ 6) (hm29 : 6 - k23 < n27 + 1) (e31 : y30 = knowF 2) (b32 : 0 ≤ y30.toInt) (b33 : y30.toInt ≤ 6) (c34 : ¬ y30 ≤ nI k23) (j43 : k41 ≤ 6) (hm47 : 6 - k41 < n45 + 1) (e49 : y48 = knowF 2) (b50 : 0 ≤ y48.toInt) (b51 : y48.toInt ≤ 6) (c52 : ¬ y48 ≤ nI k41) (e57 : y56 = knowF (107 + k23)) (b58 : 0 ≤ y56.toInt) (b59 : y56.toInt ≤ 35) (e61 : y60 = knowF (107 + k41)) (b62 : 0 ≤ y60.toInt) (b63 : y60.toInt ≤ 35) (e68 : y67 = (nI 1) <<< ((nI k41) &&& 31)) (e70 : y69 = x42 ||| y67) : (k41 + 1) ≤ 6 := by
  have b_y30 := ia_b y30
  have b_x42 := ia_b x42
  have b_y48 := ia_b y48
  have b_y56 := ia_b y56
  have b_y60 := ia_b y60
  have b_y67 := ia_b y67
  have b_y69 := ia_b y69
  try have k_0 := ia_n k23 (by first | decide | omega)
  try have k_1 := ia_n k41 (by first | decide | omega)
  try have k_2 := ia_n 1 (by first | decide | omega)
  try simp only [ia_lt, ia_le, ia_eq, ia_m1, ia_0, ia_1, ne_eq, true_and, and_true, false_and, and_false, or_false, false_or, or_true, true_or, not_true_eq_false, not_false_eq_true] at *
  all_goals omega
set_option maxRecDepth 20000 in
theorem lf_x_landOf_16 (knowF : Nat → Int32) (k23 : Nat) (n27 : Nat) (y30 : Int32) (k41 : Nat) (x42 : Int32) (n45 : Nat) (y48 : Int32) (y56 : Int32) (y60 : Int32) (y67 : Int32) (y69 : Int32) (ab_now : NB knowF) (j25 : k23 ≤ 6) (hm29 : 6 - k23 < n27 + 1) (e31 : y30 = knowF 2) (b32 : 0 ≤ y30.toInt) (b33 : y30.toInt ≤ 6) (c34 : ¬ y30 ≤ nI k23) (j43 : k41 ≤ 6) (hm47 : 6 - k41 < n45 + 1) (e49 : y48 = knowF 2) (b50 : 0 ≤ y48.toInt) (b51 : y48.toInt ≤ 6) (c52 : ¬ y48 ≤ nI k41) (e57 : y56 = knowF (107 + k23)) (b58 : 0 ≤ y56.toInt) (b59 : y56.toInt ≤ 35) (e61 : y60 = knowF (107 + k41)) (b62 : 0 ≤ y60.toInt) (b63 : y60.toInt ≤ 35) (e68 : y67 = (nI 1) <<< ((nI k41) &&& 31)) (e70 : y69 = x42 ||| y67) : 6 - (k41 + 1) < n45 := by
  have b_y30 := ia_b y30
  have b_x42 := ia_b x42
  have b_y48 := ia_b y48
  have b_y56 := ia_b y56
  have b_y60 := ia_b y60
  have b_y67 := ia_b y67
  have b_y69 := ia_b y69
  try have k_0 := ia_n k23 (by first | decide | omega)
  try have k_1 := ia_n k41 (by first | decide | omega)
  try have k_2 := ia_n 1 (by first | decide | omega)
  try simp only [ia_lt, ia_le, ia_eq, ia_m1, ia_0, ia_1, ne_eq, true_and, and_true, false_and, and_false, or_false, false_or, or_true, true_or, not_true_eq_false, not_false_eq_true] at *
  all_goals omega
set_option maxRecDepth 20000 in
theorem lf_x_landOf_17   : 0 ≤ 6 := by
  try simp only [ia_lt, ia_le, ia_eq, ia_m1, ia_0, ia_1, ne_eq, true_and, and_true, false_and, and_false, or_false, false_or, or_true, true_or, not_true_eq_false, not_false_eq_true] at *
  all_goals omega
set_option maxRecDepth 20000 in
theorem lf_x_landOf_18   : 0 ≤ 6 := by
  try simp only [ia_lt, ia_le, ia_eq, ia_m1, ia_0, ia_1, ne_eq, true_and, and_true, false_and, and_false, or_false, false_or, or_true, true_or, not_true_eq_false, not_false_eq_true] at *
  all_goals omega
set_option maxRecDepth 20000 in
theorem lf_x_landOf_19   : 0 ≤ 6 := by
  try simp only [ia_lt, ia_le, ia_eq, ia_m1, ia_0, ia_1, ne_eq, true_and, and_true, false_and, and_false, or_false, false_or, or_true, true_or, not_true_eq_false, not_false_eq_true] at *
  all_goals omega
set_option maxHeartbeats 4000000 in
set_option maxRecDepth 100000 in
theorem c_x_landOf (l : Launch) (dC : Nat → ClassId) (dI : Nat → Nat → Nat) (ky : Nat → ClassId) (o : Nat) (kthrown : Int32) (ktape : Nat) (ktaped : Nat) (ksize : Nat) (klimit : Nat) (kto : Nat) (kfrom : Nat) (kkind : Int32) (knumber : Int32) (ksign : Int32) (kfault : Int32) (kplace : Int32) (kword : Int64) (ktold : Int32) (know : Nat) (kread : Nat) (kkept : Nat) (ksnaps : Nat) (kaside : Nat) (kname : Nat) (kreadName : Nat) (kkeptName : Nat) (kisKept : Nat) (konces : Nat) (ksnapMany : Nat) (khasCells : Int32) (kpoured : Nat) (kfar : Nat) (ksides : Nat) (ksideMany : Nat) (kwayDays : Int32) (khasWay : Int32) (klines : Nat) (kmet : Nat) (kmetMany : Nat) (ksunk : Nat) (ktrying : Nat) (ksunkMany : Nat) (ksending : Int32) (kfleets : Int32) (ktext : Nat) (ktexts : Nat) (kseed : Int32) (kline : Nat) (kwritten : Nat) (klineMany : Nat) (khasWritten : Int32) (knode : Nat) (knodes : Nat) (konesMany : Nat) (kwithin : Nat) (ktop : Nat) (knowF : Nat → Int32) (x : Int32) (iv_ko_0 : ktaped ≤ 940) (iv_ko_1 : ksize ≤ 940) (iv_ko_2 : klimit ≤ 900) (iv_ko_3 : kto ≤ ksize) (iv_ko_4 : kfrom ≤ 940) (iv_ko_5 : ksnapMany ≤ 8) (iv_ko_6 : ksideMany ≤ 36) (iv_ko_7 : kmetMany ≤ 3) (iv_ko_8 : ksunkMany ≤ 36) (iv_ko_9 : ktexts ≤ 64) (iv_ko_10 : klineMany ≤ 40) (iv_ko_11 : knodes ≤ 60) (iv_ko_12 : konesMany ≤ 20) (iv_ko_13 : kwithin ≤ 8) (iv_ko_14 : ktop ≤ 59) (ab_now : NB knowF) : Met l yX12_landOf wsX12_landOf ({ frames := 2, cells := 0, slots := 0, locals := 41 }) (PcP dC dI ky [.ref o, .int x] [(o, .inr (12, [.int kthrown, .ref ktape, .int (nI ktaped), .int (nI ksize), .int (nI klimit), .int (nI kto), .int (nI kfrom), .int kkind, .int knumber, .int ksign, .int kfault, .int kplace, .long kword, .int ktold, .ref know, .ref kread, .ref kkept, .ref ksnaps, .ref kaside, .ref kname, .ref kreadName, .ref kkeptName, .ref kisKept, .ref konces, .int (nI ksnapMany), .int khasCells, .ref kpoured, .ref kfar, .ref ksides, .int (nI ksideMany), .int kwayDays, .int khasWay, .ref klines, .ref kmet, .int (nI kmetMany), .ref ksunk, .ref ktrying, .int (nI ksunkMany), .int ksending, .int kfleets, .ref ktext, .int (nI ktexts), .int kseed, .ref kline, .ref kwritten, .int (nI klineMany), .int khasWritten, .ref knode, .int (nI knodes), .int (nI konesMany), .int (nI kwithin), .int (nI ktop)])), (know, .inl (ky 0, 373, .inl knowF))]) (vp_Si (fun r : Int32 => True)) 0 0 (fun _ => False) := by
  refine Met.ofW (cc := cX12_landOf) (maxL := 6) (ret := (some .int)) (by decide) rfl ?_
  intro p e s m args below meth c s₁ B hml hv
  obtain ⟨rfl, hP, hK⟩ := hv
  have hx := B.exec
  have hb := B.bytes
  have hr := B.returns
  have hts := atoms_spec (ws := wsX12_landOf) B.pre
  have hown : s.vm.findClass RX12 = some m.cls := findClass_of_methodNamed B.named
  have hlocks := B.notSynchronized
  have hin12 : ∀ w ∈ u_ws RX12 TX12 52, w ∈ wsX12_landOf := by decide +kernel
  have hl := lv_entry ([.ref o, .int x]) (n := 6) (Nat.le_of_ble_eq_true rfl)
  rw [lg_entry_eq]
  generalize (lg_sl ([.ref o, .int x]) ++ List.replicate (6 - (lg_sl ([.ref o, .int x])).length) Slot.unset).toArray = ls at hl ⊢
  have hl : lv_has ls 6 [(0, .ref o), (1, .int x)] := hl
  refine q_name (fun Q hQ => ?_)
  generalize ([.ref o, .int x] : List Value).toArray = args at hts hQ ⊢
  refine lv_iconst (v := nI 1) hx hb dX12_landOf_0 (by decide) ?_
  refine lv_iload_n hx hb dX12_landOf_1 rfl (lv_at hl 1 rfl) ?_
  refine lv_ishl hx hb dX12_landOf_2 ?_
  refine lv_topi (fun y1 e2 => ?_)
  refine lv_istore_n (lv' := [(2, .int y1), (0, .ref o), (1, .int x)]) hx hb dX12_landOf_3 rfl hl (by decide) rfl (fun ls hl => ?_)
  refine lv_iconst (v := nI 0) hx hb dX12_landOf_4 (by decide) ?_
  refine lv_istore_n (lv' := [(3, .int (nI 0)), (2, .int y1), (0, .ref o), (1, .int x)]) hx hb dX12_landOf_5 rfl hl (by decide) rfl (fun ls hl => ?_)
  have hL12 : ∀ (n13 : Nat) (k9 : Nat) (x10 : Int32), (k9 ≤ 6) → 6 - k9 < n13 → ∀ (ls : Array Slot), lv_has ls 6 [(3, .int (nI k9)), (2, .int x10), (0, .ref o)] → W p l e (headSpec wsX12_landOf ({ frames := 2, cells := 0, slots := 0, locals := 41 })).room s m args below meth c s.heap [] 0 0 Q (F0 m 6 ls []) := by
    intro n13
    induction n13 with
    | zero => intro k9 x10 _ h9; exact absurd h9 (Nat.not_lt_zero _)
    | succ n13 ih14 =>
      intro k9 x10 j11 hm15 ls hl
      refine lv_iload_n hx hb dX12_landOf_6 rfl (lv_at hl 0 rfl) ?_
      refine lv_bipush (v := nI 6) hx hb dX12_landOf_7 (by decide) ?_
      refine n_icmp_ge (x := k9) (y := 6) (tgt := 100) hx hb (by omega) (by omega) dX12_landOf_9 (by decide) (fun c16 => ?_) (fun c16 => ?_)
      · refine lv_iload_n hx hb dX12_landOf_100 rfl (lv_at hl 1 rfl) ?_
        rw [hQ]
        exact W.iret (v := x10) hx hb hr (fun t9 ht9 hW9 => ⟨x10, rfl, trivial, ht9⟩) (fun _ h => absurd h List.not_mem_nil) dX12_landOf_101
      · refine lv_iconst (v := nI 0) hx hb dX12_landOf_12 (by decide) ?_
        refine lv_istore (lv' := [(4, .int (nI 0)), (3, .int (nI k9)), (2, .int x10), (0, .ref o)]) hx hb dX12_landOf_13 hl (by decide) rfl (fun ls hl => ?_)
        have hL26 : ∀ (n27 : Nat) (k23 : Nat) (x24 : Int32), (k23 ≤ 6) → 6 - k23 < n27 → ∀ (ls : Array Slot), lv_has ls 6 [(4, .int (nI k23)), (3, .int (nI k9)), (2, .int x24), (0, .ref o)] → W p l e (headSpec wsX12_landOf ({ frames := 2, cells := 0, slots := 0, locals := 41 })).room s m args below meth c s.heap [] 0 0 Q (F0 m 15 ls []) := by
          intro n27
          induction n27 with
          | zero => intro k23 x24 _ h9; exact absurd h9 (Nat.not_lt_zero _)
          | succ n27 ih28 =>
            intro k23 x24 j25 hm29 ls hl
            refine lv_iload hx hb dX12_landOf_15 (lv_at hl 0 rfl) ?_
            refine lv_aload_n hx hb dX12_landOf_17 rfl (lv_at hl 3 rfl) ?_
            refine va_get (D := (dC, dI)) (ci := 12) (v := .ref know) (C := RX12) (T := TX12) (N := 52) hx hb hts hin12 hown hK hP 0 rfl rfl 14 (by decide) (hts (.fieldLink RX12 98 "PorridgeSeaModel" "now" "[I") (List.mem_of_getElem? (i := 1) rfl)) (fun _ h9 => h9) rfl dX12_landOf_18 ?_
            refine lv_iconst (v := nI 2) hx hb dX12_landOf_21 (by decide) ?_
            obtain ⟨y30, e31⟩ : ∃ z9, z9 = knowF 2 := ⟨_, rfl⟩
            refine r_iald hx hb hK hP 1 rfl 2 (by decide) (by decide) y30 e31.symm dX12_landOf_22 ?_
            obtain ⟨b32, b33⟩ : (0 : Int) ≤ y30.toInt ∧ y30.toInt ≤ 6 := by rw [e31]; exact ld_NB_2 ab_now 2 (by decide) (by decide)
            refine lv_icmp_ge (tgt := 94) hx hb dX12_landOf_23 (by decide) (fun c34 => ?_) (fun c34 => ?_)
            · refine lv_iinc (v := nI (k9 + 1)) (lv' := [(3, .int (nI (k9 + 1))), (4, .int (nI k23)), (2, .int x24), (0, .ref o)]) hx hb dX12_landOf_94 hl (k := 1) rfl (show nI k9 + nI 1 = nI (k9 + 1) from nI_add _ _) (by decide) rfl (fun ls hl => ?_)
              refine lv_goto (tgt := 6) hx hb dX12_landOf_97 (by decide) ?_
              exact ih14 (k9 + 1) x24 (lf_x_landOf_1 k9 n13 j11 hm15 c16) (lf_x_landOf_2 k9 n13 j11 hm15 c16) _ (lv_sub hl [0, 2, 3] rfl)
            · refine lv_iconst (v := nI 0) hx hb dX12_landOf_26 (by decide) ?_
              refine lv_istore (lv' := [(5, .int (nI 0)), (4, .int (nI k23)), (3, .int (nI k9)), (2, .int x24), (0, .ref o)]) hx hb dX12_landOf_27 hl (by decide) rfl (fun ls hl => ?_)
              have hL44 : ∀ (n45 : Nat) (k41 : Nat) (x42 : Int32), (k41 ≤ 6) → 6 - k41 < n45 → ∀ (ls : Array Slot), lv_has ls 6 [(5, .int (nI k41)), (4, .int (nI k23)), (3, .int (nI k9)), (2, .int x42), (0, .ref o)] → W p l e (headSpec wsX12_landOf ({ frames := 2, cells := 0, slots := 0, locals := 41 })).room s m args below meth c s.heap [] 0 0 Q (F0 m 29 ls []) := by
                intro n45
                induction n45 with
                | zero => intro k41 x42 _ h9; exact absurd h9 (Nat.not_lt_zero _)
                | succ n45 ih46 =>
                  intro k41 x42 j43 hm47 ls hl
                  refine lv_iload hx hb dX12_landOf_29 (lv_at hl 0 rfl) ?_
                  refine lv_aload_n hx hb dX12_landOf_31 rfl (lv_at hl 4 rfl) ?_
                  refine va_get (D := (dC, dI)) (ci := 12) (v := .ref know) (C := RX12) (T := TX12) (N := 52) hx hb hts hin12 hown hK hP 0 rfl rfl 14 (by decide) (hts (.fieldLink RX12 98 "PorridgeSeaModel" "now" "[I") (List.mem_of_getElem? (i := 1) rfl)) (fun _ h9 => h9) rfl dX12_landOf_32 ?_
                  refine lv_iconst (v := nI 2) hx hb dX12_landOf_35 (by decide) ?_
                  obtain ⟨y48, e49⟩ : ∃ z9, z9 = knowF 2 := ⟨_, rfl⟩
                  refine r_iald hx hb hK hP 1 rfl 2 (by decide) (by decide) y48 e49.symm dX12_landOf_36 ?_
                  obtain ⟨b50, b51⟩ : (0 : Int) ≤ y48.toInt ∧ y48.toInt ≤ 6 := by rw [e49]; exact ld_NB_2 ab_now 2 (by decide) (by decide)
                  refine lv_icmp_ge (tgt := 88) hx hb dX12_landOf_37 (by decide) (fun c52 => ?_) (fun c52 => ?_)
                  · refine lv_iinc (v := nI (k23 + 1)) (lv' := [(4, .int (nI (k23 + 1))), (5, .int (nI k41)), (3, .int (nI k9)), (2, .int x42), (0, .ref o)]) hx hb dX12_landOf_88 hl (k := 1) rfl (show nI k23 + nI 1 = nI (k23 + 1) from nI_add _ _) (by decide) rfl (fun ls hl => ?_)
                    refine lv_goto (tgt := 15) hx hb dX12_landOf_91 (by decide) ?_
                    exact ih28 (k23 + 1) x42 (lf_x_landOf_3 knowF k23 n27 y30 k41 n45 y48 ab_now j25 hm29 e31 b32 b33 c34 j43 hm47 e49 b50 b51 c52) (lf_x_landOf_4 knowF k23 n27 y30 k41 n45 y48 ab_now j25 hm29 e31 b32 b33 c34 j43 hm47 e49 b50 b51 c52) _ (lv_sub hl [0, 2, 3, 4] rfl)
                  · refine lv_iload_n hx hb dX12_landOf_40 rfl (lv_at hl 3 rfl) ?_
                    refine lv_iload hx hb dX12_landOf_41 (lv_at hl 1 rfl) ?_
                    refine vp_callSi (W.runS (As := [.int x42, .int (nI k23)]) (rest := []) ⟨hx, hb, hml, hown, hts⟩ (c_x_has l dC dI ky x42 (nI k23)) (va_cwS 2 hts gX12_landOf_X12_has rfl rfl rfl (by decide +kernel) ⟨(Nat.le_of_ble_eq_true rfl), (Nat.le_of_ble_eq_true rfl)⟩) (pre_PS hK hP [] rfl) rfl rfl hl.1 rfl (lv_room (Nat.le_of_ble_eq_true rfl)) dX12_landOf_43 ⟨(Nat.le_of_ble_eq_true rfl), (Nat.le_of_ble_eq_true rfl)⟩) (fun r53 p54 => ?_)
                    refine lv_if_eq (tgt := 82) hx hb dX12_landOf_46 (by decide) (fun c55 => ?_) (fun c55 => ?_)
                    · refine lv_iinc (v := nI (k41 + 1)) (lv' := [(5, .int (nI (k41 + 1))), (4, .int (nI k23)), (3, .int (nI k9)), (2, .int x42), (0, .ref o)]) hx hb dX12_landOf_82 hl (k := 0) rfl (show nI k41 + nI 1 = nI (k41 + 1) from nI_add _ _) (by decide) rfl (fun ls hl => ?_)
                      refine lv_goto (tgt := 29) hx hb dX12_landOf_85 (by decide) ?_
                      exact ih46 (k41 + 1) x42 (lf_x_landOf_5 knowF k23 n27 y30 k41 n45 y48 ab_now j25 hm29 e31 b32 b33 c34 j43 hm47 e49 b50 b51 c52) (lf_x_landOf_6 knowF k23 n27 y30 k41 n45 y48 ab_now j25 hm29 e31 b32 b33 c34 j43 hm47 e49 b50 b51 c52) _ (lv_sub hl [0, 1, 2, 3, 4] rfl)
                    · refine lv_aload_n hx hb dX12_landOf_49 rfl (lv_at hl 4 rfl) ?_
                      refine va_get (D := (dC, dI)) (ci := 12) (v := .ref know) (C := RX12) (T := TX12) (N := 52) hx hb hts hin12 hown hK hP 0 rfl rfl 14 (by decide) (hts (.fieldLink RX12 98 "PorridgeSeaModel" "now" "[I") (List.mem_of_getElem? (i := 1) rfl)) (fun _ h9 => h9) rfl dX12_landOf_50 ?_
                      refine lv_bipush (v := nI 107) hx hb dX12_landOf_53 (by decide) ?_
                      refine lv_iload hx hb dX12_landOf_55 (lv_at hl 1 rfl) ?_
                      refine lv_iadd hx hb dX12_landOf_57 ?_
                      refine r_ti (nI (107 + k23)) (nI_add _ _) ?_
                      obtain ⟨y56, e57⟩ : ∃ z9, z9 = knowF (107 + k23) := ⟨_, rfl⟩
                      refine r_iald hx hb hK hP 1 rfl (107 + k23) (lf_x_landOf_7 knowF k23 n27 y30 k41 n45 y48 y56 ab_now j25 hm29 e31 b32 b33 c34 j43 hm47 e49 b50 b51 c52 e57) (by decide) y56 e57.symm dX12_landOf_58 ?_
                      obtain ⟨b58, b59⟩ : (0 : Int) ≤ y56.toInt ∧ y56.toInt ≤ 35 := by rw [e57]; exact ld_NB_107 ab_now (107 + k23) (lf_x_landOf_8 knowF k23 n27 y30 k41 n45 y48 y56 ab_now j25 hm29 e31 b32 b33 c34 j43 hm47 e49 b50 b51 c52 e57) (lf_x_landOf_9 knowF k23 n27 y30 k41 n45 y48 y56 ab_now j25 hm29 e31 b32 b33 c34 j43 hm47 e49 b50 b51 c52 e57)
                      refine lv_aload_n hx hb dX12_landOf_59 rfl (lv_at hl 4 rfl) ?_
                      refine va_get (D := (dC, dI)) (ci := 12) (v := .ref know) (C := RX12) (T := TX12) (N := 52) hx hb hts hin12 hown hK hP 0 rfl rfl 14 (by decide) (hts (.fieldLink RX12 98 "PorridgeSeaModel" "now" "[I") (List.mem_of_getElem? (i := 1) rfl)) (fun _ h9 => h9) rfl dX12_landOf_60 ?_
                      refine lv_bipush (v := nI 107) hx hb dX12_landOf_63 (by decide) ?_
                      refine lv_iload hx hb dX12_landOf_65 (lv_at hl 0 rfl) ?_
                      refine lv_iadd hx hb dX12_landOf_67 ?_
                      refine r_ti (nI (107 + k41)) (nI_add _ _) ?_
                      obtain ⟨y60, e61⟩ : ∃ z9, z9 = knowF (107 + k41) := ⟨_, rfl⟩
                      refine r_iald hx hb hK hP 1 rfl (107 + k41) (lf_x_landOf_10 knowF k23 n27 y30 k41 n45 y48 y56 y60 ab_now j25 hm29 e31 b32 b33 c34 j43 hm47 e49 b50 b51 c52 e57 b58 b59 e61) (by decide) y60 e61.symm dX12_landOf_68 ?_
                      obtain ⟨b62, b63⟩ : (0 : Int) ≤ y60.toInt ∧ y60.toInt ≤ 35 := by rw [e61]; exact ld_NB_107 ab_now (107 + k41) (lf_x_landOf_11 knowF k23 n27 y30 k41 n45 y48 y56 y60 ab_now j25 hm29 e31 b32 b33 c34 j43 hm47 e49 b50 b51 c52 e57 b58 b59 e61) (lf_x_landOf_12 knowF k23 n27 y30 k41 n45 y48 y56 y60 ab_now j25 hm29 e31 b32 b33 c34 j43 hm47 e49 b50 b51 c52 e57 b58 b59 e61)
                      refine vp_callSi (W.runS (As := [.int y56, .int y60]) (rest := []) ⟨hx, hb, hml, hown, hts⟩ (c_x_areNear l dC dI ky y56 y60) (va_cwS 2 hts gX12_landOf_X12_areNear rfl rfl rfl (by decide +kernel) ⟨(Nat.le_of_ble_eq_true rfl), (Nat.le_of_ble_eq_true rfl)⟩) (pre_PS hK hP [] rfl) rfl rfl hl.1 rfl (lv_room (Nat.le_of_ble_eq_true rfl)) dX12_landOf_69 ⟨(Nat.le_of_ble_eq_true rfl), (Nat.le_of_ble_eq_true rfl)⟩) (fun r64 p65 => ?_)
                      refine lv_if_eq (tgt := 82) hx hb dX12_landOf_72 (by decide) (fun c66 => ?_) (fun c66 => ?_)
                      · refine lv_iinc (v := nI (k41 + 1)) (lv' := [(5, .int (nI (k41 + 1))), (4, .int (nI k23)), (3, .int (nI k9)), (2, .int x42), (0, .ref o)]) hx hb dX12_landOf_82 hl (k := 0) rfl (show nI k41 + nI 1 = nI (k41 + 1) from nI_add _ _) (by decide) rfl (fun ls hl => ?_)
                        refine lv_goto (tgt := 29) hx hb dX12_landOf_85 (by decide) ?_
                        exact ih46 (k41 + 1) x42 (lf_x_landOf_13 knowF k23 n27 y30 k41 n45 y48 y56 y60 ab_now j25 hm29 e31 b32 b33 c34 j43 hm47 e49 b50 b51 c52 e57 b58 b59 e61 b62 b63) (lf_x_landOf_14 knowF k23 n27 y30 k41 n45 y48 y56 y60 ab_now j25 hm29 e31 b32 b33 c34 j43 hm47 e49 b50 b51 c52 e57 b58 b59 e61 b62 b63) _ (lv_sub hl [0, 1, 2, 3, 4] rfl)
                      · refine lv_iload_n hx hb dX12_landOf_75 rfl (lv_at hl 3 rfl) ?_
                        refine lv_iconst (v := nI 1) hx hb dX12_landOf_76 (by decide) ?_
                        refine lv_iload hx hb dX12_landOf_77 (lv_at hl 0 rfl) ?_
                        refine lv_ishl hx hb dX12_landOf_79 ?_
                        refine lv_topi (fun y67 e68 => ?_)
                        refine lv_ior hx hb dX12_landOf_80 ?_
                        refine lv_topi (fun y69 e70 => ?_)
                        refine lv_istore_n (lv' := [(2, .int y69), (5, .int (nI k41)), (4, .int (nI k23)), (3, .int (nI k9)), (0, .ref o)]) hx hb dX12_landOf_81 rfl hl (by decide) rfl (fun ls hl => ?_)
                        refine lv_iinc (v := nI (k41 + 1)) (lv' := [(5, .int (nI (k41 + 1))), (2, .int y69), (4, .int (nI k23)), (3, .int (nI k9)), (0, .ref o)]) hx hb dX12_landOf_82 hl (k := 1) rfl (show nI k41 + nI 1 = nI (k41 + 1) from nI_add _ _) (by decide) rfl (fun ls hl => ?_)
                        refine lv_goto (tgt := 29) hx hb dX12_landOf_85 (by decide) ?_
                        exact ih46 (k41 + 1) y69 (lf_x_landOf_15 knowF k23 n27 y30 k41 x42 n45 y48 y56 y60 y67 y69 ab_now j25 hm29 e31 b32 b33 c34 j43 hm47 e49 b50 b51 c52 e57 b58 b59 e61 b62 b63 e68 e70) (lf_x_landOf_16 knowF k23 n27 y30 k41 x42 n45 y48 y56 y60 y67 y69 ab_now j25 hm29 e31 b32 b33 c34 j43 hm47 e49 b50 b51 c52 e57 b58 b59 e61 b62 b63 e68 e70) _ (lv_sub hl [0, 2, 3, 1, 4] rfl)
              exact hL44 ((6 - 0) + 1) 0 x24 (lf_x_landOf_17) (Nat.lt_succ_self _) _ (lv_sub hl [0, 1, 2, 3, 4] rfl)
        exact hL26 ((6 - 0) + 1) 0 x10 (lf_x_landOf_18) (Nat.lt_succ_self _) _ (lv_sub hl [0, 1, 2, 3] rfl)
  exact hL12 ((6 - 0) + 1) 0 y1 (lf_x_landOf_19) (Nat.lt_succ_self _) _ (lv_sub hl [0, 1, 2] rfl)
set_option maxHeartbeats 4000000 in
set_option maxRecDepth 100000 in
theorem c_x_land (l : Launch) (dC : Nat → ClassId) (dI : Nat → Nat → Nat) (ky : Nat → ClassId) (sz : Nat) (o : Nat) (kthrown : Int32) (ktape : Nat) (ktaped : Nat) (ksize : Nat) (klimit : Nat) (kto : Nat) (kfrom : Nat) (kkind : Int32) (knumber : Int32) (ksign : Int32) (kfault : Int32) (kplace : Int32) (kword : Int64) (ktold : Int32) (know : Nat) (kread : Nat) (kkept : Nat) (ksnaps : Nat) (kaside : Nat) (kname : Nat) (kreadName : Nat) (kkeptName : Nat) (kisKept : Nat) (konces : Nat) (ksnapMany : Nat) (khasCells : Int32) (kpoured : Nat) (kfar : Nat) (ksides : Nat) (ksideMany : Nat) (kwayDays : Int32) (khasWay : Int32) (klines : Nat) (kmet : Nat) (kmetMany : Nat) (ksunk : Nat) (ktrying : Nat) (ksunkMany : Nat) (ksending : Int32) (kfleets : Int32) (ktext : Nat) (ktexts : Nat) (kseed : Int32) (kline : Nat) (kwritten : Nat) (klineMany : Nat) (khasWritten : Int32) (knode : Nat) (knodes : Nat) (konesMany : Nat) (kwithin : Nat) (ktop : Nat) (knowF : Nat → Int32) (x : Int32) (iv_ko_0 : ktaped ≤ 940) (iv_ko_1 : ksize ≤ 940) (iv_ko_2 : klimit ≤ 900) (iv_ko_3 : kto ≤ ksize) (iv_ko_4 : kfrom ≤ 940) (iv_ko_5 : ksnapMany ≤ 8) (iv_ko_6 : ksideMany ≤ 36) (iv_ko_7 : kmetMany ≤ 3) (iv_ko_8 : ksunkMany ≤ 36) (iv_ko_9 : ktexts ≤ 64) (iv_ko_10 : klineMany ≤ 40) (iv_ko_11 : knodes ≤ 60) (iv_ko_12 : konesMany ≤ 20) (iv_ko_13 : kwithin ≤ 8) (iv_ko_14 : ktop ≤ 59) (ab_now : NB knowF) : Met l yX12_land wsX12_land ({ frames := 3, cells := 0, slots := 0, locals := 66 }) (PcU dC dI ky [.ref o, .int x] [(o, .inr (12, [.int kthrown, .ref ktape, .int (nI ktaped), .int (nI ksize), .int (nI klimit), .int (nI kto), .int (nI kfrom), .int kkind, .int knumber, .int ksign, .int kfault, .int kplace, .long kword, .int ktold, .ref know, .ref kread, .ref kkept, .ref ksnaps, .ref kaside, .ref kname, .ref kreadName, .ref kkeptName, .ref kisKept, .ref konces, .int (nI ksnapMany), .int khasCells, .ref kpoured, .ref kfar, .ref ksides, .int (nI ksideMany), .int kwayDays, .int khasWay, .ref klines, .ref kmet, .int (nI kmetMany), .ref ksunk, .ref ktrying, .int (nI ksunkMany), .int ksending, .int kfleets, .ref ktext, .int (nI ktexts), .int kseed, .ref kline, .ref kwritten, .int (nI klineMany), .int khasWritten, .ref knode, .int (nI knodes), .int (nI konesMany), .int (nI kwithin), .int (nI ktop)])), (know, .inl (ky 0, 373, .inl knowF))] sz) (va_Qi (fun (r : Int32) (kthrownG : Int32) => True) (BU dC dI ky (fun (kthrownG : Int32) => [(o, .inr (12, [.int kthrownG, .ref ktape, .int (nI ktaped), .int (nI ksize), .int (nI klimit), .int (nI kto), .int (nI kfrom), .int kkind, .int knumber, .int ksign, .int kfault, .int kplace, .long kword, .int ktold, .ref know, .ref kread, .ref kkept, .ref ksnaps, .ref kaside, .ref kname, .ref kreadName, .ref kkeptName, .ref kisKept, .ref konces, .int (nI ksnapMany), .int khasCells, .ref kpoured, .ref kfar, .ref ksides, .int (nI ksideMany), .int kwayDays, .int khasWay, .ref klines, .ref kmet, .int (nI kmetMany), .ref ksunk, .ref ktrying, .int (nI ksunkMany), .int ksending, .int kfleets, .ref ktext, .int (nI ktexts), .int kseed, .ref kline, .ref kwritten, .int (nI klineMany), .int khasWritten, .ref knode, .int (nI knodes), .int (nI konesMany), .int (nI kwithin), .int (nI ktop)])), (know, .inl (ky 0, 373, .inl knowF))]) (va_A [(o, .inr (12, [.int kthrown, .ref ktape, .int (nI ktaped), .int (nI ksize), .int (nI klimit), .int (nI kto), .int (nI kfrom), .int kkind, .int knumber, .int ksign, .int kfault, .int kplace, .long kword, .int ktold, .ref know, .ref kread, .ref kkept, .ref ksnaps, .ref kaside, .ref kname, .ref kreadName, .ref kkeptName, .ref kisKept, .ref konces, .int (nI ksnapMany), .int khasCells, .ref kpoured, .ref kfar, .ref ksides, .int (nI ksideMany), .int kwayDays, .int khasWay, .ref klines, .ref kmet, .int (nI kmetMany), .ref ksunk, .ref ktrying, .int (nI ksunkMany), .int ksending, .int kfleets, .ref ktext, .int (nI ktexts), .int kseed, .ref kline, .ref kwritten, .int (nI klineMany), .int khasWritten, .ref knode, .int (nI knodes), .int (nI konesMany), .int (nI kwithin), .int (nI ktop)])), (know, .inl (ky 0, 373, .inl knowF))] sz)) (va_A [(o, .inr (12, [.int kthrown, .ref ktape, .int (nI ktaped), .int (nI ksize), .int (nI klimit), .int (nI kto), .int (nI kfrom), .int kkind, .int knumber, .int ksign, .int kfault, .int kplace, .long kword, .int ktold, .ref know, .ref kread, .ref kkept, .ref ksnaps, .ref kaside, .ref kname, .ref kreadName, .ref kkeptName, .ref kisKept, .ref konces, .int (nI ksnapMany), .int khasCells, .ref kpoured, .ref kfar, .ref ksides, .int (nI ksideMany), .int kwayDays, .int khasWay, .ref klines, .ref kmet, .int (nI kmetMany), .ref ksunk, .ref ktrying, .int (nI ksunkMany), .int ksending, .int kfleets, .ref ktext, .int (nI ktexts), .int kseed, .ref kline, .ref kwritten, .int (nI klineMany), .int khasWritten, .ref knode, .int (nI knodes), .int (nI konesMany), .int (nI kwithin), .int (nI ktop)])), (know, .inl (ky 0, 373, .inl knowF))] sz)) 0 0 (va_A [(o, .inr (12, [.int kthrown, .ref ktape, .int (nI ktaped), .int (nI ksize), .int (nI klimit), .int (nI kto), .int (nI kfrom), .int kkind, .int knumber, .int ksign, .int kfault, .int kplace, .long kword, .int ktold, .ref know, .ref kread, .ref kkept, .ref ksnaps, .ref kaside, .ref kname, .ref kreadName, .ref kkeptName, .ref kisKept, .ref konces, .int (nI ksnapMany), .int khasCells, .ref kpoured, .ref kfar, .ref ksides, .int (nI ksideMany), .int kwayDays, .int khasWay, .ref klines, .ref kmet, .int (nI kmetMany), .ref ksunk, .ref ktrying, .int (nI ksunkMany), .int ksending, .int kfleets, .ref ktext, .int (nI ktexts), .int kseed, .ref kline, .ref kwritten, .int (nI klineMany), .int khasWritten, .ref knode, .int (nI knodes), .int (nI konesMany), .int (nI kwithin), .int (nI ktop)])), (know, .inl (ky 0, 373, .inl knowF))] sz) := by
  refine Met.ofW (cc := cX12_land) (maxL := 2) (ret := (some .int)) (by decide) rfl ?_
  intro p e s m args below meth c s₁ B hml hv
  obtain ⟨rfl, hsz, hP, hK, hD0⟩ := hv
  have hx := B.exec
  have hb := B.bytes
  have hr := B.returns
  have hts := atoms_spec (ws := wsX12_land) B.pre
  have hown : s.vm.findClass RX12 = some m.cls := findClass_of_methodNamed B.named
  have hlocks := B.notSynchronized
  have hin12 : ∀ w ∈ u_ws RX12 TX12 52, w ∈ wsX12_land := by decide +kernel
  subst hsz
  have hD := hD0.self (sz := s.heap.size)
  generalize hAe : va_A [(o, .inr (12, [.int kthrown, .ref ktape, .int (nI ktaped), .int (nI ksize), .int (nI klimit), .int (nI kto), .int (nI kfrom), .int kkind, .int knumber, .int ksign, .int kfault, .int kplace, .long kword, .int ktold, .ref know, .ref kread, .ref kkept, .ref ksnaps, .ref kaside, .ref kname, .ref kreadName, .ref kkeptName, .ref kisKept, .ref konces, .int (nI ksnapMany), .int khasCells, .ref kpoured, .ref kfar, .ref ksides, .int (nI ksideMany), .int kwayDays, .int khasWay, .ref klines, .ref kmet, .int (nI kmetMany), .ref ksunk, .ref ktrying, .int (nI ksunkMany), .int ksending, .int kfleets, .ref ktext, .int (nI ktexts), .int kseed, .ref kline, .ref kwritten, .int (nI klineMany), .int khasWritten, .ref knode, .int (nI knodes), .int (nI konesMany), .int (nI kwithin), .int (nI ktop)])), (know, .inl (ky 0, 373, .inl knowF))] s.heap.size = A at hD ⊢
  have hA : ∀ q : Nat, s.heap.size ≤ q → A q := fun q h => by rw [← hAe]; exact Or.inr h
  have hS : va_S A s.heap s.heap [] := va_S.rf
  have hl := lv_entry ([.ref o, .int x]) (n := 2) (Nat.le_of_ble_eq_true rfl)
  rw [lg_entry_eq]
  generalize (lg_sl ([.ref o, .int x]) ++ List.replicate (2 - (lg_sl ([.ref o, .int x])).length) Slot.unset).toArray = ls at hl ⊢
  have hl : lv_has ls 2 [(0, .ref o), (1, .int x)] := hl
  refine q_name (fun Q hQ => ?_)
  generalize ([.ref o, .int x] : List Value).toArray = args at hts hQ ⊢
  refine lv_aload_n hx hb dX12_land_0 rfl (lv_at hl 0 rfl) ?_
  refine lv_iconst (v := nI 0) hx hb dX12_land_1 (by decide) ?_
  refine va_put (D := (dC, dI)) (ci := 12) (v := .int (nI 0)) (ty := .int) (C := RX12) (T := TX12) (N := 52) hx hb hts hin12 tyX12 tyX12_ok nmX12 hown hK hP hD hS 0 rfl rfl 0 (by decide) (hts (.fieldLink RX12 1 "PorridgeSeaModel" "thrown" "I") (List.mem_of_getElem? (i := 1) rfl)) (fun _ h9 => h9) rfl (by decide +kernel) rfl rfl (Nat.le_of_ble_eq_true rfl) dX12_land_2 (fun H locs hP hD hS => ?_)
  have hP : va_P (dC, dI) vwCl [(o, .inr (12, [.int (nI 0), .ref ktape, .int (nI ktaped), .int (nI ksize), .int (nI klimit), .int (nI kto), .int (nI kfrom), .int kkind, .int knumber, .int ksign, .int kfault, .int kplace, .long kword, .int ktold, .ref know, .ref kread, .ref kkept, .ref ksnaps, .ref kaside, .ref kname, .ref kreadName, .ref kkeptName, .ref kisKept, .ref konces, .int (nI ksnapMany), .int khasCells, .ref kpoured, .ref kfar, .ref ksides, .int (nI ksideMany), .int kwayDays, .int khasWay, .ref klines, .ref kmet, .int (nI kmetMany), .ref ksunk, .ref ktrying, .int (nI ksunkMany), .int ksending, .int kfleets, .ref ktext, .int (nI ktexts), .int kseed, .ref kline, .ref kwritten, .int (nI klineMany), .int khasWritten, .ref knode, .int (nI knodes), .int (nI konesMany), .int (nI kwithin), .int (nI ktop)])), (know, .inl (ky 0, 373, .inl knowF))] H := hP
  have hD : va_D A [(o, .inr (12, [.int (nI 0), .ref ktape, .int (nI ktaped), .int (nI ksize), .int (nI klimit), .int (nI kto), .int (nI kfrom), .int kkind, .int knumber, .int ksign, .int kfault, .int kplace, .long kword, .int ktold, .ref know, .ref kread, .ref kkept, .ref ksnaps, .ref kaside, .ref kname, .ref kreadName, .ref kkeptName, .ref kisKept, .ref konces, .int (nI ksnapMany), .int khasCells, .ref kpoured, .ref kfar, .ref ksides, .int (nI ksideMany), .int kwayDays, .int khasWay, .ref klines, .ref kmet, .int (nI kmetMany), .ref ksunk, .ref ktrying, .int (nI ksunkMany), .int ksending, .int kfleets, .ref ktext, .int (nI ktexts), .int kseed, .ref kline, .ref kwritten, .int (nI klineMany), .int khasWritten, .ref knode, .int (nI knodes), .int (nI konesMany), .int (nI kwithin), .int (nI ktop)])), (know, .inl (ky 0, 373, .inl knowF))] := hD
  refine lv_aload_n hx hb dX12_land_5 rfl (lv_at hl 0 rfl) ?_
  refine lv_iload_n hx hb dX12_land_6 rfl (lv_at hl 1 rfl) ?_
  refine vp_callSi (W.runV (As := [.int x]) (rest := []) ⟨hx, hb, hml, hown, hts⟩ (c_x_isLump l dC dI ky o (nI 0) ktape ktaped ksize klimit kto kfrom kkind knumber ksign kfault kplace kword ktold know kread kkept ksnaps kaside kname kreadName kkeptName kisKept konces ksnapMany khasCells kpoured kfar ksides ksideMany kwayDays khasWay klines kmet kmetMany ksunk ktrying ksunkMany ksending kfleets ktext ktexts kseed kline kwritten klineMany khasWritten knode knodes konesMany kwithin ktop knowF x iv_ko_0 iv_ko_1 iv_ko_2 iv_ko_3 iv_ko_4 iv_ko_5 iv_ko_6 iv_ko_7 iv_ko_8 iv_ko_9 iv_ko_10 iv_ko_11 iv_ko_12 iv_ko_13 iv_ko_14 ab_now) (cwV 1 hts gX12_land_X12_isLump rfl rfl rfl (by decide +kernel) ⟨(Nat.le_of_ble_eq_true rfl), (Nat.le_of_ble_eq_true rfl)⟩) (pre_PV hK hP [0, 1] rfl (ci := 12) (q0 := 0) rfl rfl) rfl rfl hl.1 rfl (lv_room (Nat.le_of_ble_eq_true rfl)) dX12_land_7 ⟨(Nat.le_of_ble_eq_true rfl), (Nat.le_of_ble_eq_true rfl)⟩) (fun r1 p2 => ?_)
  rcases p2 with ⟨rfl, t3, t4, t5⟩ | ⟨rfl, t6⟩
  · refine lv_if_eq (tgt := 21) hx hb dX12_land_10 (by decide) (fun c7 => absurd c7 (by decide)) (fun c7 => ?_)
    refine lv_aload_n hx hb dX12_land_13 rfl (lv_at hl 0 rfl) ?_
    refine lv_iload_n hx hb dX12_land_14 rfl (lv_at hl 1 rfl) ?_
    refine vp_callSi (W.runV (As := [.int x]) (rest := []) ⟨hx, hb, hml, hown, hts⟩ (c_x_landOf l dC dI ky o (nI 0) ktape ktaped ksize klimit kto kfrom kkind knumber ksign kfault kplace kword ktold know kread kkept ksnaps kaside kname kreadName kkeptName kisKept konces ksnapMany khasCells kpoured kfar ksides ksideMany kwayDays khasWay klines kmet kmetMany ksunk ktrying ksunkMany ksending kfleets ktext ktexts kseed kline kwritten klineMany khasWritten knode knodes konesMany kwithin ktop knowF x iv_ko_0 iv_ko_1 iv_ko_2 iv_ko_3 iv_ko_4 iv_ko_5 iv_ko_6 iv_ko_7 iv_ko_8 iv_ko_9 iv_ko_10 iv_ko_11 iv_ko_12 iv_ko_13 iv_ko_14 ab_now) (cwV 1 hts gX12_land_X12_landOf rfl rfl rfl (by decide +kernel) ⟨(Nat.le_of_ble_eq_true rfl), (Nat.le_of_ble_eq_true rfl)⟩) (pre_PV hK hP [0, 1] rfl (ci := 12) (q0 := 0) rfl rfl) rfl rfl hl.1 rfl (lv_room (Nat.le_of_ble_eq_true rfl)) dX12_land_15 ⟨(Nat.le_of_ble_eq_true rfl), (Nat.le_of_ble_eq_true rfl)⟩) (fun r8 p9 => ?_)
    refine lv_goto (tgt := 22) hx hb dX12_land_18 (by decide) ?_
    rw [hQ]
    exact W.iret (v := r8) hx hb hr (fun t9 ht9 hW9 => ⟨⟨r8, (nI 0), rfl, trivial, by rw [ht9]; exact hP, va_K.moved hW9.alike hK, hD⟩, hS.F ht9⟩) hS.2.2 dX12_land_22
  · refine lv_if_eq (tgt := 21) hx hb dX12_land_10 (by decide) (fun c10 => ?_) (fun c10 => absurd (by decide) c10)
    refine lv_iconst (v := (-1 : Int32)) hx hb dX12_land_21 (by decide) ?_
    rw [hQ]
    exact W.iret (v := (-1 : Int32)) hx hb hr (fun t9 ht9 hW9 => ⟨⟨(-1 : Int32), (nI 0), rfl, trivial, by rw [ht9]; exact hP, va_K.moved hW9.alike hK, hD⟩, hS.F ht9⟩) hS.2.2 dX12_land_22
set_option maxRecDepth 20000 in
theorem lf_x_mean_1 (knowF : Nat → Int32) (x : Int32) (k27 : Nat) (x28 : Int32) (n33 : Nat) (y36 : Int32) (y42 : Int32) (y46 : Int32) (ab_now : NB knowF) (t3 : 0 ≤ (nI 0).toInt) (t4 : (nI 0).toInt < (knowF 0).toInt) (t5 : 0 ≤ x.toInt) (t6 : x.toInt < (knowF 1).toInt) (t7 : (nI 0).toInt ≤ 5) (t8 : x.toInt ≤ 5) (j29 : k27 ≤ 6) (j30 : 0 ≤ x28.toInt) (j31 : x28.toInt ≤ ((9 * k27 : Nat) : Int)) (hm35 : 6 - k27 < n33 + 1) (e37 : y36 = knowF 0) (b38 : 2 ≤ y36.toInt) (b39 : y36.toInt ≤ 6) (c40 : y36 ≤ nI k27) (e43 : y42 = knowF 0) (b44 : 2 ≤ y42.toInt) (b45 : y42.toInt ≤ 6) (e47 : y46 = knowF 0) (b48 : 2 ≤ y46.toInt) (b49 : y46.toInt ≤ 6) : 0 ≤ x28.toInt ∧ x28.toInt < ((55 : Nat) : Int) := by
  have b_x := ia_b x
  have b_x28 := ia_b x28
  have b_y36 := ia_b y36
  have b_y42 := ia_b y42
  have b_y46 := ia_b y46
  try have k_0 := ia_n 0 (by first | decide | omega)
  try have k_1 := ia_n k27 (by first | decide | omega)
  try simp only [ia_lt, ia_le, ia_eq, ia_m1, ia_0, ia_1, ne_eq, true_and, and_true, false_and, and_false, or_false, false_or, or_true, true_or, not_true_eq_false, not_false_eq_true] at *
  all_goals omega
set_option maxRecDepth 20000 in
theorem lf_x_mean_2 (knowF : Nat → Int32) (x : Int32) (k27 : Nat) (x28 : Int32) (n33 : Nat) (y36 : Int32) (y42 : Int32) (y46 : Int32) (n50 : Nat) (ab_now : NB knowF) (t3 : 0 ≤ (nI 0).toInt) (t4 : (nI 0).toInt < (knowF 0).toInt) (t5 : 0 ≤ x.toInt) (t6 : x.toInt < (knowF 1).toInt) (t7 : (nI 0).toInt ≤ 5) (t8 : x.toInt ≤ 5) (j29 : k27 ≤ 6) (j30 : 0 ≤ x28.toInt) (j31 : x28.toInt ≤ ((9 * k27 : Nat) : Int)) (hm35 : 6 - k27 < n33 + 1) (e37 : y36 = knowF 0) (b38 : 2 ≤ y36.toInt) (b39 : y36.toInt ≤ 6) (c40 : y36 ≤ nI k27) (e43 : y42 = knowF 0) (b44 : 2 ≤ y42.toInt) (b45 : y42.toInt ≤ 6) (e47 : y46 = knowF 0) (b48 : 2 ≤ y46.toInt) (b49 : y46.toInt ≤ 6) (h51 : n50 < 55) (e52 : x28 = nI n50) : 0 ≤ y46.toInt ∧ y46.toInt < ((7 : Nat) : Int) := by
  have b_x := ia_b x
  have b_x28 := ia_b x28
  have b_y36 := ia_b y36
  have b_y42 := ia_b y42
  have b_y46 := ia_b y46
  try have k_0 := ia_n 0 (by first | decide | omega)
  try have k_1 := ia_n k27 (by first | decide | omega)
  try have k_2 := ia_n n50 (by first | decide | omega)
  try simp only [ia_lt, ia_le, ia_eq, ia_m1, ia_0, ia_1, ne_eq, true_and, and_true, false_and, and_false, or_false, false_or, or_true, true_or, not_true_eq_false, not_false_eq_true] at *
  all_goals omega
set_option maxRecDepth 20000 in
theorem lf_x_mean_3 (knowF : Nat → Int32) (x : Int32) (k27 : Nat) (x28 : Int32) (n33 : Nat) (y36 : Int32) (y42 : Int32) (y46 : Int32) (n50 : Nat) (n53 : Nat) (ab_now : NB knowF) (t3 : 0 ≤ (nI 0).toInt) (t4 : (nI 0).toInt < (knowF 0).toInt) (t5 : 0 ≤ x.toInt) (t6 : x.toInt < (knowF 1).toInt) (t7 : (nI 0).toInt ≤ 5) (t8 : x.toInt ≤ 5) (j29 : k27 ≤ 6) (j30 : 0 ≤ x28.toInt) (j31 : x28.toInt ≤ ((9 * k27 : Nat) : Int)) (hm35 : 6 - k27 < n33 + 1) (e37 : y36 = knowF 0) (b38 : 2 ≤ y36.toInt) (b39 : y36.toInt ≤ 6) (c40 : y36 ≤ nI k27) (e43 : y42 = knowF 0) (b44 : 2 ≤ y42.toInt) (b45 : y42.toInt ≤ 6) (e47 : y46 = knowF 0) (b48 : 2 ≤ y46.toInt) (b49 : y46.toInt ≤ 6) (h51 : n50 < 55) (e52 : x28 = nI n50) (h54 : n53 < 7) (e55 : y46 = nI n53) : 2 ≤ n53 := by
  have b_x := ia_b x
  have b_x28 := ia_b x28
  have b_y36 := ia_b y36
  have b_y42 := ia_b y42
  have b_y46 := ia_b y46
  try have k_0 := ia_n 0 (by first | decide | omega)
  try have k_1 := ia_n k27 (by first | decide | omega)
  try have k_2 := ia_n n50 (by first | decide | omega)
  try have k_3 := ia_n n53 (by first | decide | omega)
  try simp only [ia_lt, ia_le, ia_eq, ia_m1, ia_0, ia_1, ne_eq, true_and, and_true, false_and, and_false, or_false, false_or, or_true, true_or, not_true_eq_false, not_false_eq_true] at *
  all_goals omega
set_option maxRecDepth 20000 in
theorem lf_x_mean_4 (knowF : Nat → Int32) (x : Int32) (k27 : Nat) (x28 : Int32) (n33 : Nat) (y36 : Int32) (y42 : Int32) (y46 : Int32) (n50 : Nat) (n53 : Nat) (ab_now : NB knowF) (t3 : 0 ≤ (nI 0).toInt) (t4 : (nI 0).toInt < (knowF 0).toInt) (t5 : 0 ≤ x.toInt) (t6 : x.toInt < (knowF 1).toInt) (t7 : (nI 0).toInt ≤ 5) (t8 : x.toInt ≤ 5) (j29 : k27 ≤ 6) (j30 : 0 ≤ x28.toInt) (j31 : x28.toInt ≤ ((9 * k27 : Nat) : Int)) (hm35 : 6 - k27 < n33 + 1) (e37 : y36 = knowF 0) (b38 : 2 ≤ y36.toInt) (b39 : y36.toInt ≤ 6) (c40 : y36 ≤ nI k27) (e43 : y42 = knowF 0) (b44 : 2 ≤ y42.toInt) (b45 : y42.toInt ≤ 6) (e47 : y46 = knowF 0) (b48 : 2 ≤ y46.toInt) (b49 : y46.toInt ≤ 6) (h51 : n50 < 55) (e52 : x28 = nI n50) (h54 : n53 < 7) (e55 : y46 = nI n53) (f56 : 2 ≤ n53) : 0 < n53 := by
  have b_x := ia_b x
  have b_x28 := ia_b x28
  have b_y36 := ia_b y36
  have b_y42 := ia_b y42
  have b_y46 := ia_b y46
  try have k_0 := ia_n 0 (by first | decide | omega)
  try have k_1 := ia_n k27 (by first | decide | omega)
  try have k_2 := ia_n n50 (by first | decide | omega)
  try have k_3 := ia_n n53 (by first | decide | omega)
  try simp only [ia_lt, ia_le, ia_eq, ia_m1, ia_0, ia_1, ne_eq, true_and, and_true, false_and, and_false, or_false, false_or, or_true, true_or, not_true_eq_false, not_false_eq_true] at *
  all_goals omega
set_option maxRecDepth 20000 in
theorem lf_x_mean_5 (knowF : Nat → Int32) (x : Int32) (k27 : Nat) (x28 : Int32) (n33 : Nat) (y36 : Int32) (y42 : Int32) (y46 : Int32) (n50 : Nat) (n53 : Nat) (ab_now : NB knowF) (t3 : 0 ≤ (nI 0).toInt) (t4 : (nI 0).toInt < (knowF 0).toInt) (t5 : 0 ≤ x.toInt) (t6 : x.toInt < (knowF 1).toInt) (t7 : (nI 0).toInt ≤ 5) (t8 : x.toInt ≤ 5) (j29 : k27 ≤ 6) (j30 : 0 ≤ x28.toInt) (j31 : x28.toInt ≤ ((9 * k27 : Nat) : Int)) (hm35 : 6 - k27 < n33 + 1) (e37 : y36 = knowF 0) (b38 : 2 ≤ y36.toInt) (b39 : y36.toInt ≤ 6) (c40 : y36 ≤ nI k27) (e43 : y42 = knowF 0) (b44 : 2 ≤ y42.toInt) (b45 : y42.toInt ≤ 6) (e47 : y46 = knowF 0) (b48 : 2 ≤ y46.toInt) (b49 : y46.toInt ≤ 6) (h51 : n50 < 55) (e52 : x28 = nI n50) (h54 : n53 < 7) (e55 : y46 = nI n53) (f56 : 2 ≤ n53) : n53 < 10000 := by
  have b_x := ia_b x
  have b_x28 := ia_b x28
  have b_y36 := ia_b y36
  have b_y42 := ia_b y42
  have b_y46 := ia_b y46
  try have k_0 := ia_n 0 (by first | decide | omega)
  try have k_1 := ia_n k27 (by first | decide | omega)
  try have k_2 := ia_n n50 (by first | decide | omega)
  try have k_3 := ia_n n53 (by first | decide | omega)
  try simp only [ia_lt, ia_le, ia_eq, ia_m1, ia_0, ia_1, ne_eq, true_and, and_true, false_and, and_false, or_false, false_or, or_true, true_or, not_true_eq_false, not_false_eq_true] at *
  all_goals omega
set_option maxRecDepth 20000 in
theorem lf_x_mean_6 (knowF : Nat → Int32) (x : Int32) (k27 : Nat) (x28 : Int32) (n33 : Nat) (y36 : Int32) (y42 : Int32) (y46 : Int32) (n50 : Nat) (n53 : Nat) (ab_now : NB knowF) (t3 : 0 ≤ (nI 0).toInt) (t4 : (nI 0).toInt < (knowF 0).toInt) (t5 : 0 ≤ x.toInt) (t6 : x.toInt < (knowF 1).toInt) (t7 : (nI 0).toInt ≤ 5) (t8 : x.toInt ≤ 5) (j29 : k27 ≤ 6) (j30 : 0 ≤ x28.toInt) (j31 : x28.toInt ≤ ((9 * k27 : Nat) : Int)) (hm35 : 6 - k27 < n33 + 1) (e37 : y36 = knowF 0) (b38 : 2 ≤ y36.toInt) (b39 : y36.toInt ≤ 6) (c40 : y36 ≤ nI k27) (e43 : y42 = knowF 0) (b44 : 2 ≤ y42.toInt) (b45 : y42.toInt ≤ 6) (e47 : y46 = knowF 0) (b48 : 2 ≤ y46.toInt) (b49 : y46.toInt ≤ 6) (h51 : n50 < 55) (e52 : x28 = nI n50) (h54 : n53 < 7) (e55 : y46 = nI n53) (f56 : 2 ≤ n53) : n50 < 10000 := by
  have b_x := ia_b x
  have b_x28 := ia_b x28
  have b_y36 := ia_b y36
  have b_y42 := ia_b y42
  have b_y46 := ia_b y46
  try have k_0 := ia_n 0 (by first | decide | omega)
  try have k_1 := ia_n k27 (by first | decide | omega)
  try have k_2 := ia_n n50 (by first | decide | omega)
  try have k_3 := ia_n n53 (by first | decide | omega)
  try simp only [ia_lt, ia_le, ia_eq, ia_m1, ia_0, ia_1, ne_eq, true_and, and_true, false_and, and_false, or_false, false_or, or_true, true_or, not_true_eq_false, not_false_eq_true] at *
  all_goals omega
set_option maxRecDepth 20000 in
theorem lf_x_mean_7 (knowF : Nat → Int32) (x : Int32) (k27 : Nat) (x28 : Int32) (n33 : Nat) (y36 : Int32) (y42 : Int32) (y46 : Int32) (n50 : Nat) (n53 : Nat) (ab_now : NB knowF) (t3 : 0 ≤ (nI 0).toInt) (t4 : (nI 0).toInt < (knowF 0).toInt) (t5 : 0 ≤ x.toInt) (t6 : x.toInt < (knowF 1).toInt) (t7 : (nI 0).toInt ≤ 5) (t8 : x.toInt ≤ 5) (j29 : k27 ≤ 6) (j30 : 0 ≤ x28.toInt) (j31 : x28.toInt ≤ ((9 * k27 : Nat) : Int)) (hm35 : 6 - k27 < n33 + 1) (e37 : y36 = knowF 0) (b38 : 2 ≤ y36.toInt) (b39 : y36.toInt ≤ 6) (c40 : y36 ≤ nI k27) (e43 : y42 = knowF 0) (b44 : 2 ≤ y42.toInt) (b45 : y42.toInt ≤ 6) (e47 : y46 = knowF 0) (b48 : 2 ≤ y46.toInt) (b49 : y46.toInt ≤ 6) (h51 : n50 < 55) (e52 : x28 = nI n50) (h54 : n53 < 7) (e55 : y46 = nI n53) (f56 : 2 ≤ n53) : 0 ≤ y42.toInt ∧ y42.toInt < ((7 : Nat) : Int) := by
  have b_x := ia_b x
  have b_x28 := ia_b x28
  have b_y36 := ia_b y36
  have b_y42 := ia_b y42
  have b_y46 := ia_b y46
  try have k_0 := ia_n 0 (by first | decide | omega)
  try have k_1 := ia_n k27 (by first | decide | omega)
  try have k_2 := ia_n n50 (by first | decide | omega)
  try have k_3 := ia_n n53 (by first | decide | omega)
  try simp only [ia_lt, ia_le, ia_eq, ia_m1, ia_0, ia_1, ne_eq, true_and, and_true, false_and, and_false, or_false, false_or, or_true, true_or, not_true_eq_false, not_false_eq_true] at *
  all_goals omega
set_option maxRecDepth 20000 in
theorem lf_x_mean_8 (knowF : Nat → Int32) (x : Int32) (k27 : Nat) (x28 : Int32) (n33 : Nat) (y36 : Int32) (y42 : Int32) (y46 : Int32) (n50 : Nat) (n53 : Nat) (n63 : Nat) (ab_now : NB knowF) (t3 : 0 ≤ (nI 0).toInt) (t4 : (nI 0).toInt < (knowF 0).toInt) (t5 : 0 ≤ x.toInt) (t6 : x.toInt < (knowF 1).toInt) (t7 : (nI 0).toInt ≤ 5) (t8 : x.toInt ≤ 5) (j29 : k27 ≤ 6) (j30 : 0 ≤ x28.toInt) (j31 : x28.toInt ≤ ((9 * k27 : Nat) : Int)) (hm35 : 6 - k27 < n33 + 1) (e37 : y36 = knowF 0) (b38 : 2 ≤ y36.toInt) (b39 : y36.toInt ≤ 6) (c40 : y36 ≤ nI k27) (e43 : y42 = knowF 0) (b44 : 2 ≤ y42.toInt) (b45 : y42.toInt ≤ 6) (e47 : y46 = knowF 0) (b48 : 2 ≤ y46.toInt) (b49 : y46.toInt ≤ 6) (h51 : n50 < 55) (e52 : x28 = nI n50) (h54 : n53 < 7) (e55 : y46 = nI n53) (f56 : 2 ≤ n53) (h64 : n63 < 7) (e65 : y42 = nI n63) : 2 ≤ n63 := by
  have b_x := ia_b x
  have b_x28 := ia_b x28
  have b_y36 := ia_b y36
  have b_y42 := ia_b y42
  have b_y46 := ia_b y46
  try have k_0 := ia_n 0 (by first | decide | omega)
  try have k_1 := ia_n k27 (by first | decide | omega)
  try have k_2 := ia_n n50 (by first | decide | omega)
  try have k_3 := ia_n n53 (by first | decide | omega)
  try have k_4 := ia_n n63 (by first | decide | omega)
  try simp only [ia_lt, ia_le, ia_eq, ia_m1, ia_0, ia_1, ne_eq, true_and, and_true, false_and, and_false, or_false, false_or, or_true, true_or, not_true_eq_false, not_false_eq_true] at *
  all_goals omega
set_option maxRecDepth 20000 in
theorem lf_x_mean_9 (knowF : Nat → Int32) (x : Int32) (k27 : Nat) (x28 : Int32) (n33 : Nat) (y36 : Int32) (y68 : Int32) (ab_now : NB knowF) (t3 : 0 ≤ (nI 0).toInt) (t4 : (nI 0).toInt < (knowF 0).toInt) (t5 : 0 ≤ x.toInt) (t6 : x.toInt < (knowF 1).toInt) (t7 : (nI 0).toInt ≤ 5) (t8 : x.toInt ≤ 5) (j29 : k27 ≤ 6) (j30 : 0 ≤ x28.toInt) (j31 : x28.toInt ≤ ((9 * k27 : Nat) : Int)) (hm35 : 6 - k27 < n33 + 1) (e37 : y36 = knowF 0) (b38 : 2 ≤ y36.toInt) (b39 : y36.toInt ≤ 6) (c40 : y36 ≤ nI k27) (e69 : y68 = knowF 0) (b70 : 2 ≤ y68.toInt) (b71 : y68.toInt ≤ 6) : 0 ≤ x28.toInt ∧ x28.toInt < ((55 : Nat) : Int) := by
  have b_x := ia_b x
  have b_x28 := ia_b x28
  have b_y36 := ia_b y36
  have b_y68 := ia_b y68
  try have k_0 := ia_n 0 (by first | decide | omega)
  try have k_1 := ia_n k27 (by first | decide | omega)
  try simp only [ia_lt, ia_le, ia_eq, ia_m1, ia_0, ia_1, ne_eq, true_and, and_true, false_and, and_false, or_false, false_or, or_true, true_or, not_true_eq_false, not_false_eq_true] at *
  all_goals omega
set_option maxRecDepth 20000 in
theorem lf_x_mean_10 (knowF : Nat → Int32) (x : Int32) (k27 : Nat) (x28 : Int32) (n33 : Nat) (y36 : Int32) (y68 : Int32) (n72 : Nat) (ab_now : NB knowF) (t3 : 0 ≤ (nI 0).toInt) (t4 : (nI 0).toInt < (knowF 0).toInt) (t5 : 0 ≤ x.toInt) (t6 : x.toInt < (knowF 1).toInt) (t7 : (nI 0).toInt ≤ 5) (t8 : x.toInt ≤ 5) (j29 : k27 ≤ 6) (j30 : 0 ≤ x28.toInt) (j31 : x28.toInt ≤ ((9 * k27 : Nat) : Int)) (hm35 : 6 - k27 < n33 + 1) (e37 : y36 = knowF 0) (b38 : 2 ≤ y36.toInt) (b39 : y36.toInt ≤ 6) (c40 : y36 ≤ nI k27) (e69 : y68 = knowF 0) (b70 : 2 ≤ y68.toInt) (b71 : y68.toInt ≤ 6) (h73 : n72 < 55) (e74 : x28 = nI n72) : 0 ≤ y68.toInt ∧ y68.toInt < ((7 : Nat) : Int) := by
  have b_x := ia_b x
  have b_x28 := ia_b x28
  have b_y36 := ia_b y36
  have b_y68 := ia_b y68
  try have k_0 := ia_n 0 (by first | decide | omega)
  try have k_1 := ia_n k27 (by first | decide | omega)
  try have k_2 := ia_n n72 (by first | decide | omega)
  try simp only [ia_lt, ia_le, ia_eq, ia_m1, ia_0, ia_1, ne_eq, true_and, and_true, false_and, and_false, or_false, false_or, or_true, true_or, not_true_eq_false, not_false_eq_true] at *
  all_goals omega
set_option maxRecDepth 20000 in
theorem lf_x_mean_11 (knowF : Nat → Int32) (x : Int32) (k27 : Nat) (x28 : Int32) (n33 : Nat) (y36 : Int32) (y68 : Int32) (n72 : Nat) (n75 : Nat) (ab_now : NB knowF) (t3 : 0 ≤ (nI 0).toInt) (t4 : (nI 0).toInt < (knowF 0).toInt) (t5 : 0 ≤ x.toInt) (t6 : x.toInt < (knowF 1).toInt) (t7 : (nI 0).toInt ≤ 5) (t8 : x.toInt ≤ 5) (j29 : k27 ≤ 6) (j30 : 0 ≤ x28.toInt) (j31 : x28.toInt ≤ ((9 * k27 : Nat) : Int)) (hm35 : 6 - k27 < n33 + 1) (e37 : y36 = knowF 0) (b38 : 2 ≤ y36.toInt) (b39 : y36.toInt ≤ 6) (c40 : y36 ≤ nI k27) (e69 : y68 = knowF 0) (b70 : 2 ≤ y68.toInt) (b71 : y68.toInt ≤ 6) (h73 : n72 < 55) (e74 : x28 = nI n72) (h76 : n75 < 7) (e77 : y68 = nI n75) : 2 ≤ n75 := by
  have b_x := ia_b x
  have b_x28 := ia_b x28
  have b_y36 := ia_b y36
  have b_y68 := ia_b y68
  try have k_0 := ia_n 0 (by first | decide | omega)
  try have k_1 := ia_n k27 (by first | decide | omega)
  try have k_2 := ia_n n72 (by first | decide | omega)
  try have k_3 := ia_n n75 (by first | decide | omega)
  try simp only [ia_lt, ia_le, ia_eq, ia_m1, ia_0, ia_1, ne_eq, true_and, and_true, false_and, and_false, or_false, false_or, or_true, true_or, not_true_eq_false, not_false_eq_true] at *
  all_goals omega
set_option maxRecDepth 20000 in
theorem lf_x_mean_12 (knowF : Nat → Int32) (x : Int32) (k27 : Nat) (x28 : Int32) (n33 : Nat) (y36 : Int32) (y68 : Int32) (n72 : Nat) (n75 : Nat) (ab_now : NB knowF) (t3 : 0 ≤ (nI 0).toInt) (t4 : (nI 0).toInt < (knowF 0).toInt) (t5 : 0 ≤ x.toInt) (t6 : x.toInt < (knowF 1).toInt) (t7 : (nI 0).toInt ≤ 5) (t8 : x.toInt ≤ 5) (j29 : k27 ≤ 6) (j30 : 0 ≤ x28.toInt) (j31 : x28.toInt ≤ ((9 * k27 : Nat) : Int)) (hm35 : 6 - k27 < n33 + 1) (e37 : y36 = knowF 0) (b38 : 2 ≤ y36.toInt) (b39 : y36.toInt ≤ 6) (c40 : y36 ≤ nI k27) (e69 : y68 = knowF 0) (b70 : 2 ≤ y68.toInt) (b71 : y68.toInt ≤ 6) (h73 : n72 < 55) (e74 : x28 = nI n72) (h76 : n75 < 7) (e77 : y68 = nI n75) (f78 : 2 ≤ n75) : 0 < n75 := by
  have b_x := ia_b x
  have b_x28 := ia_b x28
  have b_y36 := ia_b y36
  have b_y68 := ia_b y68
  try have k_0 := ia_n 0 (by first | decide | omega)
  try have k_1 := ia_n k27 (by first | decide | omega)
  try have k_2 := ia_n n72 (by first | decide | omega)
  try have k_3 := ia_n n75 (by first | decide | omega)
  try simp only [ia_lt, ia_le, ia_eq, ia_m1, ia_0, ia_1, ne_eq, true_and, and_true, false_and, and_false, or_false, false_or, or_true, true_or, not_true_eq_false, not_false_eq_true] at *
  all_goals omega
set_option maxRecDepth 20000 in
theorem lf_x_mean_13 (knowF : Nat → Int32) (x : Int32) (k27 : Nat) (x28 : Int32) (n33 : Nat) (y36 : Int32) (y68 : Int32) (n72 : Nat) (n75 : Nat) (ab_now : NB knowF) (t3 : 0 ≤ (nI 0).toInt) (t4 : (nI 0).toInt < (knowF 0).toInt) (t5 : 0 ≤ x.toInt) (t6 : x.toInt < (knowF 1).toInt) (t7 : (nI 0).toInt ≤ 5) (t8 : x.toInt ≤ 5) (j29 : k27 ≤ 6) (j30 : 0 ≤ x28.toInt) (j31 : x28.toInt ≤ ((9 * k27 : Nat) : Int)) (hm35 : 6 - k27 < n33 + 1) (e37 : y36 = knowF 0) (b38 : 2 ≤ y36.toInt) (b39 : y36.toInt ≤ 6) (c40 : y36 ≤ nI k27) (e69 : y68 = knowF 0) (b70 : 2 ≤ y68.toInt) (b71 : y68.toInt ≤ 6) (h73 : n72 < 55) (e74 : x28 = nI n72) (h76 : n75 < 7) (e77 : y68 = nI n75) (f78 : 2 ≤ n75) : n75 < 10000 := by
  have b_x := ia_b x
  have b_x28 := ia_b x28
  have b_y36 := ia_b y36
  have b_y68 := ia_b y68
  try have k_0 := ia_n 0 (by first | decide | omega)
  try have k_1 := ia_n k27 (by first | decide | omega)
  try have k_2 := ia_n n72 (by first | decide | omega)
  try have k_3 := ia_n n75 (by first | decide | omega)
  try simp only [ia_lt, ia_le, ia_eq, ia_m1, ia_0, ia_1, ne_eq, true_and, and_true, false_and, and_false, or_false, false_or, or_true, true_or, not_true_eq_false, not_false_eq_true] at *
  all_goals omega
set_option maxRecDepth 20000 in
theorem lf_x_mean_14 (knowF : Nat → Int32) (x : Int32) (k27 : Nat) (x28 : Int32) (n33 : Nat) (y36 : Int32) (y68 : Int32) (n72 : Nat) (n75 : Nat) (ab_now : NB knowF) (t3 : 0 ≤ (nI 0).toInt) (t4 : (nI 0).toInt < (knowF 0).toInt) (t5 : 0 ≤ x.toInt) (t6 : x.toInt < (knowF 1).toInt) (t7 : (nI 0).toInt ≤ 5) (t8 : x.toInt ≤ 5) (j29 : k27 ≤ 6) (j30 : 0 ≤ x28.toInt) (j31 : x28.toInt ≤ ((9 * k27 : Nat) : Int)) (hm35 : 6 - k27 < n33 + 1) (e37 : y36 = knowF 0) (b38 : 2 ≤ y36.toInt) (b39 : y36.toInt ≤ 6) (c40 : y36 ≤ nI k27) (e69 : y68 = knowF 0) (b70 : 2 ≤ y68.toInt) (b71 : y68.toInt ≤ 6) (h73 : n72 < 55) (e74 : x28 = nI n72) (h76 : n75 < 7) (e77 : y68 = nI n75) (f78 : 2 ≤ n75) : n72 < 10000 := by
  have b_x := ia_b x
  have b_x28 := ia_b x28
  have b_y36 := ia_b y36
  have b_y68 := ia_b y68
  try have k_0 := ia_n 0 (by first | decide | omega)
  try have k_1 := ia_n k27 (by first | decide | omega)
  try have k_2 := ia_n n72 (by first | decide | omega)
  try have k_3 := ia_n n75 (by first | decide | omega)
  try simp only [ia_lt, ia_le, ia_eq, ia_m1, ia_0, ia_1, ne_eq, true_and, and_true, false_and, and_false, or_false, false_or, or_true, true_or, not_true_eq_false, not_false_eq_true] at *
  all_goals omega
set_option maxRecDepth 20000 in
theorem lf_x_mean_15 (knowF : Nat → Int32) (x : Int32) (k27 : Nat) (x28 : Int32) (n33 : Nat) (y36 : Int32) (ab_now : NB knowF) (t3 : 0 ≤ (nI 0).toInt) (t4 : (nI 0).toInt < (knowF 0).toInt) (t5 : 0 ≤ x.toInt) (t6 : x.toInt < (knowF 1).toInt) (t7 : (nI 0).toInt ≤ 5) (t8 : x.toInt ≤ 5) (j29 : k27 ≤ 6) (j30 : 0 ≤ x28.toInt) (j31 : x28.toInt ≤ ((9 * k27 : Nat) : Int)) (hm35 : 6 - k27 < n33 + 1) (e37 : y36 = knowF 0) (b38 : 2 ≤ y36.toInt) (b39 : y36.toInt ≤ 6) (c40 : ¬ y36 ≤ nI k27) : 0 ≤ x.toInt ∧ x.toInt < ((6 : Nat) : Int) := by
  have b_x := ia_b x
  have b_x28 := ia_b x28
  have b_y36 := ia_b y36
  try have k_0 := ia_n 0 (by first | decide | omega)
  try have k_1 := ia_n k27 (by first | decide | omega)
  try simp only [ia_lt, ia_le, ia_eq, ia_m1, ia_0, ia_1, ne_eq, true_and, and_true, false_and, and_false, or_false, false_or, or_true, true_or, not_true_eq_false, not_false_eq_true] at *
  all_goals omega
set_option maxRecDepth 20000 in
theorem lf_x_mean_16 (knowF : Nat → Int32) (x : Int32) (k27 : Nat) (x28 : Int32) (n33 : Nat) (y36 : Int32) (n86 : Nat) (y89 : Int32) (ab_now : NB knowF) (t3 : 0 ≤ (nI 0).toInt) (t4 : (nI 0).toInt < (knowF 0).toInt) (t5 : 0 ≤ x.toInt) (t6 : x.toInt < (knowF 1).toInt) (t7 : (nI 0).toInt ≤ 5) (t8 : x.toInt ≤ 5) (j29 : k27 ≤ 6) (j30 : 0 ≤ x28.toInt) (j31 : x28.toInt ≤ ((9 * k27 : Nat) : Int)) (hm35 : 6 - k27 < n33 + 1) (e37 : y36 = knowF 0) (b38 : 2 ≤ y36.toInt) (b39 : y36.toInt ≤ 6) (c40 : ¬ y36 ≤ nI k27) (h87 : n86 < 6) (e88 : x = nI n86) (e90 : y89 = knowF ((71 + (6 * n86)) + k27)) : ((71 + (6 * n86)) + k27) < 373 := by
  have b_x := ia_b x
  have b_x28 := ia_b x28
  have b_y36 := ia_b y36
  have b_y89 := ia_b y89
  try have k_0 := ia_n 0 (by first | decide | omega)
  try have k_1 := ia_n k27 (by first | decide | omega)
  try have k_2 := ia_n n86 (by first | decide | omega)
  try simp only [ia_lt, ia_le, ia_eq, ia_m1, ia_0, ia_1, ne_eq, true_and, and_true, false_and, and_false, or_false, false_or, or_true, true_or, not_true_eq_false, not_false_eq_true] at *
  all_goals omega
set_option maxRecDepth 20000 in
theorem lf_x_mean_17 (knowF : Nat → Int32) (x : Int32) (k27 : Nat) (x28 : Int32) (n33 : Nat) (y36 : Int32) (n86 : Nat) (y89 : Int32) (ab_now : NB knowF) (t3 : 0 ≤ (nI 0).toInt) (t4 : (nI 0).toInt < (knowF 0).toInt) (t5 : 0 ≤ x.toInt) (t6 : x.toInt < (knowF 1).toInt) (t7 : (nI 0).toInt ≤ 5) (t8 : x.toInt ≤ 5) (j29 : k27 ≤ 6) (j30 : 0 ≤ x28.toInt) (j31 : x28.toInt ≤ ((9 * k27 : Nat) : Int)) (hm35 : 6 - k27 < n33 + 1) (e37 : y36 = knowF 0) (b38 : 2 ≤ y36.toInt) (b39 : y36.toInt ≤ 6) (c40 : ¬ y36 ≤ nI k27) (h87 : n86 < 6) (e88 : x = nI n86) (e90 : y89 = knowF ((71 + (6 * n86)) + k27)) : 71 ≤ ((71 + (6 * n86)) + k27) := by
  have b_x := ia_b x
  have b_x28 := ia_b x28
  have b_y36 := ia_b y36
  have b_y89 := ia_b y89
  try have k_0 := ia_n 0 (by first | decide | omega)
  try have k_1 := ia_n k27 (by first | decide | omega)
  try have k_2 := ia_n n86 (by first | decide | omega)
  try simp only [ia_lt, ia_le, ia_eq, ia_m1, ia_0, ia_1, ne_eq, true_and, and_true, false_and, and_false, or_false, false_or, or_true, true_or, not_true_eq_false, not_false_eq_true] at *
  all_goals omega
set_option maxRecDepth 20000 in
theorem lf_x_mean_18 (knowF : Nat → Int32) (x : Int32) (k27 : Nat) (x28 : Int32) (n33 : Nat) (y36 : Int32) (n86 : Nat) (y89 : Int32) (ab_now : NB knowF) (t3 : 0 ≤ (nI 0).toInt) (t4 : (nI 0).toInt < (knowF 0).toInt) (t5 : 0 ≤ x.toInt) (t6 : x.toInt < (knowF 1).toInt) (t7 : (nI 0).toInt ≤ 5) (t8 : x.toInt ≤ 5) (j29 : k27 ≤ 6) (j30 : 0 ≤ x28.toInt) (j31 : x28.toInt ≤ ((9 * k27 : Nat) : Int)) (hm35 : 6 - k27 < n33 + 1) (e37 : y36 = knowF 0) (b38 : 2 ≤ y36.toInt) (b39 : y36.toInt ≤ 6) (c40 : ¬ y36 ≤ nI k27) (h87 : n86 < 6) (e88 : x = nI n86) (e90 : y89 = knowF ((71 + (6 * n86)) + k27)) : ((71 + (6 * n86)) + k27) < 107 := by
  have b_x := ia_b x
  have b_x28 := ia_b x28
  have b_y36 := ia_b y36
  have b_y89 := ia_b y89
  try have k_0 := ia_n 0 (by first | decide | omega)
  try have k_1 := ia_n k27 (by first | decide | omega)
  try have k_2 := ia_n n86 (by first | decide | omega)
  try simp only [ia_lt, ia_le, ia_eq, ia_m1, ia_0, ia_1, ne_eq, true_and, and_true, false_and, and_false, or_false, false_or, or_true, true_or, not_true_eq_false, not_false_eq_true] at *
  all_goals omega
set_option maxRecDepth 20000 in
theorem lf_x_mean_19 (knowF : Nat → Int32) (x : Int32) (k27 : Nat) (x28 : Int32) (n33 : Nat) (y36 : Int32) (n86 : Nat) (y89 : Int32) (ab_now : NB knowF) (t3 : 0 ≤ (nI 0).toInt) (t4 : (nI 0).toInt < (knowF 0).toInt) (t5 : 0 ≤ x.toInt) (t6 : x.toInt < (knowF 1).toInt) (t7 : (nI 0).toInt ≤ 5) (t8 : x.toInt ≤ 5) (j29 : k27 ≤ 6) (j30 : 0 ≤ x28.toInt) (j31 : x28.toInt ≤ ((9 * k27 : Nat) : Int)) (hm35 : 6 - k27 < n33 + 1) (e37 : y36 = knowF 0) (b38 : 2 ≤ y36.toInt) (b39 : y36.toInt ≤ 6) (c40 : ¬ y36 ≤ nI k27) (h87 : n86 < 6) (e88 : x = nI n86) (e90 : y89 = knowF ((71 + (6 * n86)) + k27)) (b91 : 0 ≤ y89.toInt) (b92 : y89.toInt ≤ 9) : 0 ≤ x28.toInt ∧ x28.toInt < ((46 : Nat) : Int) := by
  have b_x := ia_b x
  have b_x28 := ia_b x28
  have b_y36 := ia_b y36
  have b_y89 := ia_b y89
  try have k_0 := ia_n 0 (by first | decide | omega)
  try have k_1 := ia_n k27 (by first | decide | omega)
  try have k_2 := ia_n n86 (by first | decide | omega)
  try simp only [ia_lt, ia_le, ia_eq, ia_m1, ia_0, ia_1, ne_eq, true_and, and_true, false_and, and_false, or_false, false_or, or_true, true_or, not_true_eq_false, not_false_eq_true] at *
  all_goals omega
set_option maxRecDepth 20000 in
theorem lf_x_mean_20 (knowF : Nat → Int32) (x : Int32) (k27 : Nat) (x28 : Int32) (n33 : Nat) (y36 : Int32) (n86 : Nat) (y89 : Int32) (n93 : Nat) (ab_now : NB knowF) (t3 : 0 ≤ (nI 0).toInt) (t4 : (nI 0).toInt < (knowF 0).toInt) (t5 : 0 ≤ x.toInt) (t6 : x.toInt < (knowF 1).toInt) (t7 : (nI 0).toInt ≤ 5) (t8 : x.toInt ≤ 5) (j29 : k27 ≤ 6) (j30 : 0 ≤ x28.toInt) (j31 : x28.toInt ≤ ((9 * k27 : Nat) : Int)) (hm35 : 6 - k27 < n33 + 1) (e37 : y36 = knowF 0) (b38 : 2 ≤ y36.toInt) (b39 : y36.toInt ≤ 6) (c40 : ¬ y36 ≤ nI k27) (h87 : n86 < 6) (e88 : x = nI n86) (e90 : y89 = knowF ((71 + (6 * n86)) + k27)) (b91 : 0 ≤ y89.toInt) (b92 : y89.toInt ≤ 9) (h94 : n93 < 46) (e95 : x28 = nI n93) : 0 ≤ y89.toInt ∧ y89.toInt < ((10 : Nat) : Int) := by
  have b_x := ia_b x
  have b_x28 := ia_b x28
  have b_y36 := ia_b y36
  have b_y89 := ia_b y89
  try have k_0 := ia_n 0 (by first | decide | omega)
  try have k_1 := ia_n k27 (by first | decide | omega)
  try have k_2 := ia_n n86 (by first | decide | omega)
  try have k_3 := ia_n n93 (by first | decide | omega)
  try simp only [ia_lt, ia_le, ia_eq, ia_m1, ia_0, ia_1, ne_eq, true_and, and_true, false_and, and_false, or_false, false_or, or_true, true_or, not_true_eq_false, not_false_eq_true] at *
  all_goals omega
set_option maxRecDepth 20000 in
theorem lf_x_mean_21 (knowF : Nat → Int32) (x : Int32) (k27 : Nat) (x28 : Int32) (n33 : Nat) (y36 : Int32) (n86 : Nat) (y89 : Int32) (n93 : Nat) (n96 : Nat) (ab_now : NB knowF) (t3 : 0 ≤ (nI 0).toInt) (t4 : (nI 0).toInt < (knowF 0).toInt) (t5 : 0 ≤ x.toInt) (t6 : x.toInt < (knowF 1).toInt) (t7 : (nI 0).toInt ≤ 5) (t8 : x.toInt ≤ 5) (j29 : k27 ≤ 6) (j30 : 0 ≤ x28.toInt) (j31 : x28.toInt ≤ ((9 * k27 : Nat) : Int)) (hm35 : 6 - k27 < n33 + 1) (e37 : y36 = knowF 0) (b38 : 2 ≤ y36.toInt) (b39 : y36.toInt ≤ 6) (c40 : ¬ y36 ≤ nI k27) (h87 : n86 < 6) (e88 : x = nI n86) (e90 : y89 = knowF ((71 + (6 * n86)) + k27)) (b91 : 0 ≤ y89.toInt) (b92 : y89.toInt ≤ 9) (h94 : n93 < 46) (e95 : x28 = nI n93) (h97 : n96 < 10) (e98 : y89 = nI n96) : (k27 + 1) ≤ 6 := by
  have b_x := ia_b x
  have b_x28 := ia_b x28
  have b_y36 := ia_b y36
  have b_y89 := ia_b y89
  try have k_0 := ia_n 0 (by first | decide | omega)
  try have k_1 := ia_n k27 (by first | decide | omega)
  try have k_2 := ia_n n86 (by first | decide | omega)
  try have k_3 := ia_n n93 (by first | decide | omega)
  try have k_4 := ia_n n96 (by first | decide | omega)
  try simp only [ia_lt, ia_le, ia_eq, ia_m1, ia_0, ia_1, ne_eq, true_and, and_true, false_and, and_false, or_false, false_or, or_true, true_or, not_true_eq_false, not_false_eq_true] at *
  all_goals omega
set_option maxRecDepth 20000 in
theorem lf_x_mean_22 (knowF : Nat → Int32) (x : Int32) (k27 : Nat) (x28 : Int32) (n33 : Nat) (y36 : Int32) (n86 : Nat) (y89 : Int32) (n93 : Nat) (n96 : Nat) (ab_now : NB knowF) (t3 : 0 ≤ (nI 0).toInt) (t4 : (nI 0).toInt < (knowF 0).toInt) (t5 : 0 ≤ x.toInt) (t6 : x.toInt < (knowF 1).toInt) (t7 : (nI 0).toInt ≤ 5) (t8 : x.toInt ≤ 5) (j29 : k27 ≤ 6) (j30 : 0 ≤ x28.toInt) (j31 : x28.toInt ≤ ((9 * k27 : Nat) : Int)) (hm35 : 6 - k27 < n33 + 1) (e37 : y36 = knowF 0) (b38 : 2 ≤ y36.toInt) (b39 : y36.toInt ≤ 6) (c40 : ¬ y36 ≤ nI k27) (h87 : n86 < 6) (e88 : x = nI n86) (e90 : y89 = knowF ((71 + (6 * n86)) + k27)) (b91 : 0 ≤ y89.toInt) (b92 : y89.toInt ≤ 9) (h94 : n93 < 46) (e95 : x28 = nI n93) (h97 : n96 < 10) (e98 : y89 = nI n96) : 0 ≤ (nI (n93 + n96)).toInt := by
  have b_x := ia_b x
  have b_x28 := ia_b x28
  have b_y36 := ia_b y36
  have b_y89 := ia_b y89
  try have k_0 := ia_n 0 (by first | decide | omega)
  try have k_1 := ia_n k27 (by first | decide | omega)
  try have k_2 := ia_n n86 (by first | decide | omega)
  try have k_3 := ia_n n93 (by first | decide | omega)
  try have k_4 := ia_n n96 (by first | decide | omega)
  try have k_5 := ia_n (n93 + n96) (by first | decide | omega)
  try simp only [ia_lt, ia_le, ia_eq, ia_m1, ia_0, ia_1, ne_eq, true_and, and_true, false_and, and_false, or_false, false_or, or_true, true_or, not_true_eq_false, not_false_eq_true] at *
  all_goals omega
set_option maxRecDepth 20000 in
theorem lf_x_mean_23 (knowF : Nat → Int32) (x : Int32) (k27 : Nat) (x28 : Int32) (n33 : Nat) (y36 : Int32) (n86 : Nat) (y89 : Int32) (n93 : Nat) (n96 : Nat) (ab_now : NB knowF) (t3 : 0 ≤ (nI 0).toInt) (t4 : (nI 0).toInt < (knowF 0).toInt) (t5 : 0 ≤ x.toInt) (t6 : x.toInt < (knowF 1).toInt) (t7 : (nI 0).toInt ≤ 5) (t8 : x.toInt ≤ 5) (j29 : k27 ≤ 6) (j30 : 0 ≤ x28.toInt) (j31 : x28.toInt ≤ ((9 * k27 : Nat) : Int)) (hm35 : 6 - k27 < n33 + 1) (e37 : y36 = knowF 0) (b38 : 2 ≤ y36.toInt) (b39 : y36.toInt ≤ 6) (c40 : ¬ y36 ≤ nI k27) (h87 : n86 < 6) (e88 : x = nI n86) (e90 : y89 = knowF ((71 + (6 * n86)) + k27)) (b91 : 0 ≤ y89.toInt) (b92 : y89.toInt ≤ 9) (h94 : n93 < 46) (e95 : x28 = nI n93) (h97 : n96 < 10) (e98 : y89 = nI n96) : (nI (n93 + n96)).toInt ≤ ((9 * (k27 + 1) : Nat) : Int) := by
  have b_x := ia_b x
  have b_x28 := ia_b x28
  have b_y36 := ia_b y36
  have b_y89 := ia_b y89
  try have k_0 := ia_n 0 (by first | decide | omega)
  try have k_1 := ia_n k27 (by first | decide | omega)
  try have k_2 := ia_n n86 (by first | decide | omega)
  try have k_3 := ia_n n93 (by first | decide | omega)
  try have k_4 := ia_n n96 (by first | decide | omega)
  try have k_5 := ia_n (n93 + n96) (by first | decide | omega)
  try simp only [ia_lt, ia_le, ia_eq, ia_m1, ia_0, ia_1, ne_eq, true_and, and_true, false_and, and_false, or_false, false_or, or_true, true_or, not_true_eq_false, not_false_eq_true] at *
  all_goals omega
set_option maxRecDepth 20000 in
theorem lf_x_mean_24 (knowF : Nat → Int32) (x : Int32) (k27 : Nat) (x28 : Int32) (n33 : Nat) (y36 : Int32) (n86 : Nat) (y89 : Int32) (n93 : Nat) (n96 : Nat) (ab_now : NB knowF) (t3 : 0 ≤ (nI 0).toInt) (t4 : (nI 0).toInt < (knowF 0).toInt) (t5 : 0 ≤ x.toInt) (t6 : x.toInt < (knowF 1).toInt) (t7 : (nI 0).toInt ≤ 5) (t8 : x.toInt ≤ 5) (j29 : k27 ≤ 6) (j30 : 0 ≤ x28.toInt) (j31 : x28.toInt ≤ ((9 * k27 : Nat) : Int)) (hm35 : 6 - k27 < n33 + 1) (e37 : y36 = knowF 0) (b38 : 2 ≤ y36.toInt) (b39 : y36.toInt ≤ 6) (c40 : ¬ y36 ≤ nI k27) (h87 : n86 < 6) (e88 : x = nI n86) (e90 : y89 = knowF ((71 + (6 * n86)) + k27)) (b91 : 0 ≤ y89.toInt) (b92 : y89.toInt ≤ 9) (h94 : n93 < 46) (e95 : x28 = nI n93) (h97 : n96 < 10) (e98 : y89 = nI n96) : 6 - (k27 + 1) < n33 := by
  have b_x := ia_b x
  have b_x28 := ia_b x28
  have b_y36 := ia_b y36
  have b_y89 := ia_b y89
  try have k_0 := ia_n 0 (by first | decide | omega)
  try have k_1 := ia_n k27 (by first | decide | omega)
  try have k_2 := ia_n n86 (by first | decide | omega)
  try have k_3 := ia_n n93 (by first | decide | omega)
  try have k_4 := ia_n n96 (by first | decide | omega)
  try simp only [ia_lt, ia_le, ia_eq, ia_m1, ia_0, ia_1, ne_eq, true_and, and_true, false_and, and_false, or_false, false_or, or_true, true_or, not_true_eq_false, not_false_eq_true] at *
  all_goals omega
set_option maxRecDepth 20000 in
theorem lf_x_mean_25  (t3 : 0 ≤ (nI 0).toInt) (t7 : (nI 0).toInt ≤ 5) : 0 ≤ 6 := by
  try have k_0 := ia_n 0 (by first | decide | omega)
  try simp only [ia_lt, ia_le, ia_eq, ia_m1, ia_0, ia_1, ne_eq, true_and, and_true, false_and, and_false, or_false, false_or, or_true, true_or, not_true_eq_false, not_false_eq_true] at *
  all_goals omega
set_option maxRecDepth 20000 in
theorem lf_x_mean_26  (t3 : 0 ≤ (nI 0).toInt) (t7 : (nI 0).toInt ≤ 5) : (nI 0).toInt ≤ ((9 * 0 : Nat) : Int) := by
  try have k_0 := ia_n 0 (by first | decide | omega)
  try simp only [ia_lt, ia_le, ia_eq, ia_m1, ia_0, ia_1, ne_eq, true_and, and_true, false_and, and_false, or_false, false_or, or_true, true_or, not_true_eq_false, not_false_eq_true] at *
  all_goals omega
set_option maxHeartbeats 4000000 in
set_option maxRecDepth 100000 in
theorem c_x_mean (l : Launch) (dC : Nat → ClassId) (dI : Nat → Nat → Nat) (ky : Nat → ClassId) (sz : Nat) (o : Nat) (kthrown : Int32) (ktape : Nat) (ktaped : Nat) (ksize : Nat) (klimit : Nat) (kto : Nat) (kfrom : Nat) (kkind : Int32) (knumber : Int32) (ksign : Int32) (kfault : Int32) (kplace : Int32) (kword : Int64) (ktold : Int32) (know : Nat) (kread : Nat) (kkept : Nat) (ksnaps : Nat) (kaside : Nat) (kname : Nat) (kreadName : Nat) (kkeptName : Nat) (kisKept : Nat) (konces : Nat) (ksnapMany : Nat) (khasCells : Int32) (kpoured : Nat) (kfar : Nat) (ksides : Nat) (ksideMany : Nat) (kwayDays : Int32) (khasWay : Int32) (klines : Nat) (kmet : Nat) (kmetMany : Nat) (ksunk : Nat) (ktrying : Nat) (ksunkMany : Nat) (ksending : Int32) (kfleets : Int32) (ktext : Nat) (ktexts : Nat) (kseed : Int32) (kline : Nat) (kwritten : Nat) (klineMany : Nat) (khasWritten : Int32) (knode : Nat) (knodes : Nat) (konesMany : Nat) (kwithin : Nat) (ktop : Nat) (knowF : Nat → Int32) (x : Int32) (y : Int32) (iv_ko_0 : ktaped ≤ 940) (iv_ko_1 : ksize ≤ 940) (iv_ko_2 : klimit ≤ 900) (iv_ko_3 : kto ≤ ksize) (iv_ko_4 : kfrom ≤ 940) (iv_ko_5 : ksnapMany ≤ 8) (iv_ko_6 : ksideMany ≤ 36) (iv_ko_7 : kmetMany ≤ 3) (iv_ko_8 : ksunkMany ≤ 36) (iv_ko_9 : ktexts ≤ 64) (iv_ko_10 : klineMany ≤ 40) (iv_ko_11 : knodes ≤ 60) (iv_ko_12 : konesMany ≤ 20) (iv_ko_13 : kwithin ≤ 8) (iv_ko_14 : ktop ≤ 59) (ab_now : NB knowF) : Met l yX12_mean wsX12_mean ({ frames := 2, cells := 0, slots := 0, locals := 44 }) (PcU dC dI ky [.ref o, .int x, .int y] [(o, .inr (12, [.int kthrown, .ref ktape, .int (nI ktaped), .int (nI ksize), .int (nI klimit), .int (nI kto), .int (nI kfrom), .int kkind, .int knumber, .int ksign, .int kfault, .int kplace, .long kword, .int ktold, .ref know, .ref kread, .ref kkept, .ref ksnaps, .ref kaside, .ref kname, .ref kreadName, .ref kkeptName, .ref kisKept, .ref konces, .int (nI ksnapMany), .int khasCells, .ref kpoured, .ref kfar, .ref ksides, .int (nI ksideMany), .int kwayDays, .int khasWay, .ref klines, .ref kmet, .int (nI kmetMany), .ref ksunk, .ref ktrying, .int (nI ksunkMany), .int ksending, .int kfleets, .ref ktext, .int (nI ktexts), .int kseed, .ref kline, .ref kwritten, .int (nI klineMany), .int khasWritten, .ref knode, .int (nI knodes), .int (nI konesMany), .int (nI kwithin), .int (nI ktop)])), (know, .inl (ky 0, 373, .inl knowF))] sz) (va_Qi (fun (r : Int32) (kthrownG : Int32) => True) (BU dC dI ky (fun (kthrownG : Int32) => [(o, .inr (12, [.int kthrownG, .ref ktape, .int (nI ktaped), .int (nI ksize), .int (nI klimit), .int (nI kto), .int (nI kfrom), .int kkind, .int knumber, .int ksign, .int kfault, .int kplace, .long kword, .int ktold, .ref know, .ref kread, .ref kkept, .ref ksnaps, .ref kaside, .ref kname, .ref kreadName, .ref kkeptName, .ref kisKept, .ref konces, .int (nI ksnapMany), .int khasCells, .ref kpoured, .ref kfar, .ref ksides, .int (nI ksideMany), .int kwayDays, .int khasWay, .ref klines, .ref kmet, .int (nI kmetMany), .ref ksunk, .ref ktrying, .int (nI ksunkMany), .int ksending, .int kfleets, .ref ktext, .int (nI ktexts), .int kseed, .ref kline, .ref kwritten, .int (nI klineMany), .int khasWritten, .ref knode, .int (nI knodes), .int (nI konesMany), .int (nI kwithin), .int (nI ktop)])), (know, .inl (ky 0, 373, .inl knowF))]) (va_A [(o, .inr (12, [.int kthrown, .ref ktape, .int (nI ktaped), .int (nI ksize), .int (nI klimit), .int (nI kto), .int (nI kfrom), .int kkind, .int knumber, .int ksign, .int kfault, .int kplace, .long kword, .int ktold, .ref know, .ref kread, .ref kkept, .ref ksnaps, .ref kaside, .ref kname, .ref kreadName, .ref kkeptName, .ref kisKept, .ref konces, .int (nI ksnapMany), .int khasCells, .ref kpoured, .ref kfar, .ref ksides, .int (nI ksideMany), .int kwayDays, .int khasWay, .ref klines, .ref kmet, .int (nI kmetMany), .ref ksunk, .ref ktrying, .int (nI ksunkMany), .int ksending, .int kfleets, .ref ktext, .int (nI ktexts), .int kseed, .ref kline, .ref kwritten, .int (nI klineMany), .int khasWritten, .ref knode, .int (nI knodes), .int (nI konesMany), .int (nI kwithin), .int (nI ktop)])), (know, .inl (ky 0, 373, .inl knowF))] sz)) (va_A [(o, .inr (12, [.int kthrown, .ref ktape, .int (nI ktaped), .int (nI ksize), .int (nI klimit), .int (nI kto), .int (nI kfrom), .int kkind, .int knumber, .int ksign, .int kfault, .int kplace, .long kword, .int ktold, .ref know, .ref kread, .ref kkept, .ref ksnaps, .ref kaside, .ref kname, .ref kreadName, .ref kkeptName, .ref kisKept, .ref konces, .int (nI ksnapMany), .int khasCells, .ref kpoured, .ref kfar, .ref ksides, .int (nI ksideMany), .int kwayDays, .int khasWay, .ref klines, .ref kmet, .int (nI kmetMany), .ref ksunk, .ref ktrying, .int (nI ksunkMany), .int ksending, .int kfleets, .ref ktext, .int (nI ktexts), .int kseed, .ref kline, .ref kwritten, .int (nI klineMany), .int khasWritten, .ref knode, .int (nI knodes), .int (nI konesMany), .int (nI kwithin), .int (nI ktop)])), (know, .inl (ky 0, 373, .inl knowF))] sz)) 0 0 (va_A [(o, .inr (12, [.int kthrown, .ref ktape, .int (nI ktaped), .int (nI ksize), .int (nI klimit), .int (nI kto), .int (nI kfrom), .int kkind, .int knumber, .int ksign, .int kfault, .int kplace, .long kword, .int ktold, .ref know, .ref kread, .ref kkept, .ref ksnaps, .ref kaside, .ref kname, .ref kreadName, .ref kkeptName, .ref kisKept, .ref konces, .int (nI ksnapMany), .int khasCells, .ref kpoured, .ref kfar, .ref ksides, .int (nI ksideMany), .int kwayDays, .int khasWay, .ref klines, .ref kmet, .int (nI kmetMany), .ref ksunk, .ref ktrying, .int (nI ksunkMany), .int ksending, .int kfleets, .ref ktext, .int (nI ktexts), .int kseed, .ref kline, .ref kwritten, .int (nI klineMany), .int khasWritten, .ref knode, .int (nI knodes), .int (nI konesMany), .int (nI kwithin), .int (nI ktop)])), (know, .inl (ky 0, 373, .inl knowF))] sz) := by
  refine Met.ofW (cc := cX12_mean) (maxL := 5) (ret := (some .int)) (by decide) rfl ?_
  intro p e s m args below meth c s₁ B hml hv
  obtain ⟨rfl, hsz, hP, hK, hD0⟩ := hv
  have hx := B.exec
  have hb := B.bytes
  have hr := B.returns
  have hts := atoms_spec (ws := wsX12_mean) B.pre
  have hown : s.vm.findClass RX12 = some m.cls := findClass_of_methodNamed B.named
  have hlocks := B.notSynchronized
  have hin12 : ∀ w ∈ u_ws RX12 TX12 52, w ∈ wsX12_mean := by decide +kernel
  subst hsz
  have hD := hD0.self (sz := s.heap.size)
  generalize hAe : va_A [(o, .inr (12, [.int kthrown, .ref ktape, .int (nI ktaped), .int (nI ksize), .int (nI klimit), .int (nI kto), .int (nI kfrom), .int kkind, .int knumber, .int ksign, .int kfault, .int kplace, .long kword, .int ktold, .ref know, .ref kread, .ref kkept, .ref ksnaps, .ref kaside, .ref kname, .ref kreadName, .ref kkeptName, .ref kisKept, .ref konces, .int (nI ksnapMany), .int khasCells, .ref kpoured, .ref kfar, .ref ksides, .int (nI ksideMany), .int kwayDays, .int khasWay, .ref klines, .ref kmet, .int (nI kmetMany), .ref ksunk, .ref ktrying, .int (nI ksunkMany), .int ksending, .int kfleets, .ref ktext, .int (nI ktexts), .int kseed, .ref kline, .ref kwritten, .int (nI klineMany), .int khasWritten, .ref knode, .int (nI knodes), .int (nI konesMany), .int (nI kwithin), .int (nI ktop)])), (know, .inl (ky 0, 373, .inl knowF))] s.heap.size = A at hD ⊢
  have hA : ∀ q : Nat, s.heap.size ≤ q → A q := fun q h => by rw [← hAe]; exact Or.inr h
  have hS : va_S A s.heap s.heap [] := va_S.rf
  have hl := lv_entry ([.ref o, .int x, .int y]) (n := 5) (Nat.le_of_ble_eq_true rfl)
  rw [lg_entry_eq]
  generalize (lg_sl ([.ref o, .int x, .int y]) ++ List.replicate (5 - (lg_sl ([.ref o, .int x, .int y])).length) Slot.unset).toArray = ls at hl ⊢
  have hl : lv_has ls 5 [(0, .ref o), (1, .int x), (2, .int y)] := hl
  refine q_name (fun Q hQ => ?_)
  generalize ([.ref o, .int x, .int y] : List Value).toArray = args at hts hQ ⊢
  refine lv_aload_n hx hb dX12_mean_0 rfl (lv_at hl 0 rfl) ?_
  refine lv_iconst (v := nI 0) hx hb dX12_mean_1 (by decide) ?_
  refine va_put (D := (dC, dI)) (ci := 12) (v := .int (nI 0)) (ty := .int) (C := RX12) (T := TX12) (N := 52) hx hb hts hin12 tyX12 tyX12_ok nmX12 hown hK hP hD hS 0 rfl rfl 0 (by decide) (hts (.fieldLink RX12 1 "PorridgeSeaModel" "thrown" "I") (List.mem_of_getElem? (i := 1) rfl)) (fun _ h9 => h9) rfl (by decide +kernel) rfl rfl (Nat.le_of_ble_eq_true rfl) dX12_mean_2 (fun H locs hP hD hS => ?_)
  have hP : va_P (dC, dI) vwCl [(o, .inr (12, [.int (nI 0), .ref ktape, .int (nI ktaped), .int (nI ksize), .int (nI klimit), .int (nI kto), .int (nI kfrom), .int kkind, .int knumber, .int ksign, .int kfault, .int kplace, .long kword, .int ktold, .ref know, .ref kread, .ref kkept, .ref ksnaps, .ref kaside, .ref kname, .ref kreadName, .ref kkeptName, .ref kisKept, .ref konces, .int (nI ksnapMany), .int khasCells, .ref kpoured, .ref kfar, .ref ksides, .int (nI ksideMany), .int kwayDays, .int khasWay, .ref klines, .ref kmet, .int (nI kmetMany), .ref ksunk, .ref ktrying, .int (nI ksunkMany), .int ksending, .int kfleets, .ref ktext, .int (nI ktexts), .int kseed, .ref kline, .ref kwritten, .int (nI klineMany), .int khasWritten, .ref knode, .int (nI knodes), .int (nI konesMany), .int (nI kwithin), .int (nI ktop)])), (know, .inl (ky 0, 373, .inl knowF))] H := hP
  have hD : va_D A [(o, .inr (12, [.int (nI 0), .ref ktape, .int (nI ktaped), .int (nI ksize), .int (nI klimit), .int (nI kto), .int (nI kfrom), .int kkind, .int knumber, .int ksign, .int kfault, .int kplace, .long kword, .int ktold, .ref know, .ref kread, .ref kkept, .ref ksnaps, .ref kaside, .ref kname, .ref kreadName, .ref kkeptName, .ref kisKept, .ref konces, .int (nI ksnapMany), .int khasCells, .ref kpoured, .ref kfar, .ref ksides, .int (nI ksideMany), .int kwayDays, .int khasWay, .ref klines, .ref kmet, .int (nI kmetMany), .ref ksunk, .ref ktrying, .int (nI ksunkMany), .int ksending, .int kfleets, .ref ktext, .int (nI ktexts), .int kseed, .ref kline, .ref kwritten, .int (nI klineMany), .int khasWritten, .ref knode, .int (nI knodes), .int (nI konesMany), .int (nI kwithin), .int (nI ktop)])), (know, .inl (ky 0, 373, .inl knowF))] := hD
  refine lv_aload_n hx hb dX12_mean_5 rfl (lv_at hl 0 rfl) ?_
  refine lv_iconst (v := nI 0) hx hb dX12_mean_6 (by decide) ?_
  refine lv_iload_n hx hb dX12_mean_7 rfl (lv_at hl 1 rfl) ?_
  refine vp_callSi (W.runV (As := [.int (nI 0), .int x]) (rest := []) ⟨hx, hb, hml, hown, hts⟩ (c_x_isCell l dC dI ky o (nI 0) ktape ktaped ksize klimit kto kfrom kkind knumber ksign kfault kplace kword ktold know kread kkept ksnaps kaside kname kreadName kkeptName kisKept konces ksnapMany khasCells kpoured kfar ksides ksideMany kwayDays khasWay klines kmet kmetMany ksunk ktrying ksunkMany ksending kfleets ktext ktexts kseed kline kwritten klineMany khasWritten knode knodes konesMany kwithin ktop knowF (nI 0) x iv_ko_0 iv_ko_1 iv_ko_2 iv_ko_3 iv_ko_4 iv_ko_5 iv_ko_6 iv_ko_7 iv_ko_8 iv_ko_9 iv_ko_10 iv_ko_11 iv_ko_12 iv_ko_13 iv_ko_14 ab_now) (cwV 2 hts gX12_mean_X12_isCell rfl rfl rfl (by decide +kernel) ⟨(Nat.le_of_ble_eq_true rfl), (Nat.le_of_ble_eq_true rfl)⟩) (pre_PV hK hP [0, 1] rfl (ci := 12) (q0 := 0) rfl rfl) rfl rfl hl.1 rfl (lv_room (Nat.le_of_ble_eq_true rfl)) dX12_mean_8 ⟨(Nat.le_of_ble_eq_true rfl), (Nat.le_of_ble_eq_true rfl)⟩) (fun r1 p2 => ?_)
  rcases p2 with ⟨rfl, t3, t4, t5, t6, t7, t8⟩ | ⟨rfl, t9⟩
  · refine lv_if_eq (tgt := 23) hx hb dX12_mean_11 (by decide) (fun c10 => absurd c10 (by decide)) (fun c10 => ?_)
    refine lv_iload_n hx hb dX12_mean_14 rfl (lv_at hl 2 rfl) ?_
    refine lv_iconst (v := nI 0) hx hb dX12_mean_15 (by decide) ?_
    refine lv_iconst (v := nI 1) hx hb dX12_mean_16 (by decide) ?_
    refine vp_callSi (W.runS (As := [.int y, .int (nI 0), .int (nI 1)]) (rest := []) ⟨hx, hb, hml, hown, hts⟩ (c_x_isIn l dC dI ky y (nI 0) (nI 1)) (va_cwS 3 hts gX12_mean_X12_isIn rfl rfl rfl (by decide +kernel) ⟨(Nat.le_of_ble_eq_true rfl), (Nat.le_of_ble_eq_true rfl)⟩) (pre_PS hK hP [] rfl) rfl rfl hl.1 rfl (lv_room (Nat.le_of_ble_eq_true rfl)) dX12_mean_17 ⟨(Nat.le_of_ble_eq_true rfl), (Nat.le_of_ble_eq_true rfl)⟩) (fun r11 p12 => ?_)
    rcases p12 with ⟨rfl, t13, t14⟩ | ⟨rfl, t15⟩
    · refine lv_if_ne (tgt := 28) hx hb dX12_mean_20 (by decide) (fun c16 => ?_) (fun c16 => absurd c16 (by decide))
      refine lv_iconst (v := nI 0) hx hb dX12_mean_28 (by decide) ?_
      refine lv_istore_n (lv' := [(3, .int (nI 0)), (0, .ref o), (1, .int x), (2, .int y)]) hx hb dX12_mean_29 rfl hl (by decide) rfl (fun ls hl => ?_)
      refine lv_iconst (v := nI 0) hx hb dX12_mean_30 (by decide) ?_
      refine lv_istore (lv' := [(4, .int (nI 0)), (3, .int (nI 0)), (0, .ref o), (1, .int x), (2, .int y)]) hx hb dX12_mean_31 hl (by decide) rfl (fun ls hl => ?_)
      have hL32 : ∀ (n33 : Nat) (k27 : Nat) (x28 : Int32), (k27 ≤ 6) → (0 ≤ x28.toInt) → (x28.toInt ≤ ((9 * k27 : Nat) : Int)) → 6 - k27 < n33 → ∀ (H : Heap) (locs : List Loc) (ls : Array Slot), va_P (dC, dI) vwCl [(o, .inr (12, [.int (nI 0), .ref ktape, .int (nI ktaped), .int (nI ksize), .int (nI klimit), .int (nI kto), .int (nI kfrom), .int kkind, .int knumber, .int ksign, .int kfault, .int kplace, .long kword, .int ktold, .ref know, .ref kread, .ref kkept, .ref ksnaps, .ref kaside, .ref kname, .ref kreadName, .ref kkeptName, .ref kisKept, .ref konces, .int (nI ksnapMany), .int khasCells, .ref kpoured, .ref kfar, .ref ksides, .int (nI ksideMany), .int kwayDays, .int khasWay, .ref klines, .ref kmet, .int (nI kmetMany), .ref ksunk, .ref ktrying, .int (nI ksunkMany), .int ksending, .int kfleets, .ref ktext, .int (nI ktexts), .int kseed, .ref kline, .ref kwritten, .int (nI klineMany), .int khasWritten, .ref knode, .int (nI knodes), .int (nI konesMany), .int (nI kwithin), .int (nI ktop)])), (know, .inl (ky 0, 373, .inl knowF))] H → va_D A [(o, .inr (12, [.int (nI 0), .ref ktape, .int (nI ktaped), .int (nI ksize), .int (nI klimit), .int (nI kto), .int (nI kfrom), .int kkind, .int knumber, .int ksign, .int kfault, .int kplace, .long kword, .int ktold, .ref know, .ref kread, .ref kkept, .ref ksnaps, .ref kaside, .ref kname, .ref kreadName, .ref kkeptName, .ref kisKept, .ref konces, .int (nI ksnapMany), .int khasCells, .ref kpoured, .ref kfar, .ref ksides, .int (nI ksideMany), .int kwayDays, .int khasWay, .ref klines, .ref kmet, .int (nI kmetMany), .ref ksunk, .ref ktrying, .int (nI ksunkMany), .int ksending, .int kfleets, .ref ktext, .int (nI ktexts), .int kseed, .ref kline, .ref kwritten, .int (nI klineMany), .int khasWritten, .ref knode, .int (nI knodes), .int (nI konesMany), .int (nI kwithin), .int (nI ktop)])), (know, .inl (ky 0, 373, .inl knowF))] → va_S A s.heap H locs → lv_has ls 5 [(4, .int (nI k27)), (3, .int x28), (0, .ref o), (1, .int x), (2, .int y)] → W p l e (headSpec wsX12_mean ({ frames := 2, cells := 0, slots := 0, locals := 44 })).room s m args below meth c H locs 0 0 Q (F0 m 33 ls []) := by
        intro n33
        induction n33 with
        | zero => intro k27 x28 _ _ _ h9; exact absurd h9 (Nat.not_lt_zero _)
        | succ n33 ih34 =>
          intro k27 x28 j29 j30 j31 hm35 H locs ls hP hD hS hl
          refine lv_iload hx hb dX12_mean_33 (lv_at hl 0 rfl) ?_
          refine lv_aload_n hx hb dX12_mean_35 rfl (lv_at hl 2 rfl) ?_
          refine va_get (D := (dC, dI)) (ci := 12) (v := .ref know) (C := RX12) (T := TX12) (N := 52) hx hb hts hin12 hown hK hP 0 rfl rfl 14 (by decide) (hts (.fieldLink RX12 98 "PorridgeSeaModel" "now" "[I") (List.mem_of_getElem? (i := 2) rfl)) (fun _ h9 => h9) rfl dX12_mean_36 ?_
          refine lv_iconst (v := nI 0) hx hb dX12_mean_39 (by decide) ?_
          obtain ⟨y36, e37⟩ : ∃ z9, z9 = knowF 0 := ⟨_, rfl⟩
          refine r_iald hx hb hK hP 1 rfl 0 (by decide) (by decide) y36 e37.symm dX12_mean_40 ?_
          obtain ⟨b38, b39⟩ : (2 : Int) ≤ y36.toInt ∧ y36.toInt ≤ 6 := by rw [e37]; exact ld_NB_0 ab_now 0 (by decide) (by decide)
          refine lv_icmp_ge (tgt := 68) hx hb dX12_mean_41 (by decide) (fun c40 => ?_) (fun c40 => ?_)
          · refine lv_iload_n hx hb dX12_mean_68 rfl (lv_at hl 4 rfl) ?_
            refine lv_if_ne (tgt := 76) hx hb dX12_mean_69 (by decide) (fun c41 => ?_) (fun c41 => ?_)
            · refine lv_aload_n hx hb dX12_mean_76 rfl (lv_at hl 2 rfl) ?_
              refine va_get (D := (dC, dI)) (ci := 12) (v := .ref know) (C := RX12) (T := TX12) (N := 52) hx hb hts hin12 hown hK hP 0 rfl rfl 14 (by decide) (hts (.fieldLink RX12 98 "PorridgeSeaModel" "now" "[I") (List.mem_of_getElem? (i := 2) rfl)) (fun _ h9 => h9) rfl dX12_mean_77 ?_
              refine lv_iconst (v := nI 0) hx hb dX12_mean_80 (by decide) ?_
              obtain ⟨y42, e43⟩ : ∃ z9, z9 = knowF 0 := ⟨_, rfl⟩
              refine r_iald hx hb hK hP 1 rfl 0 (by decide) (by decide) y42 e43.symm dX12_mean_81 ?_
              obtain ⟨b44, b45⟩ : (2 : Int) ≤ y42.toInt ∧ y42.toInt ≤ 6 := by rw [e43]; exact ld_NB_0 ab_now 0 (by decide) (by decide)
              refine lv_aload_n hx hb dX12_mean_82 rfl (lv_at hl 2 rfl) ?_
              refine va_get (D := (dC, dI)) (ci := 12) (v := .ref know) (C := RX12) (T := TX12) (N := 52) hx hb hts hin12 hown hK hP 0 rfl rfl 14 (by decide) (hts (.fieldLink RX12 98 "PorridgeSeaModel" "now" "[I") (List.mem_of_getElem? (i := 2) rfl)) (fun _ h9 => h9) rfl dX12_mean_83 ?_
              refine lv_iconst (v := nI 0) hx hb dX12_mean_86 (by decide) ?_
              obtain ⟨y46, e47⟩ : ∃ z9, z9 = knowF 0 := ⟨_, rfl⟩
              refine r_iald hx hb hK hP 1 rfl 0 (by decide) (by decide) y46 e47.symm dX12_mean_87 ?_
              obtain ⟨b48, b49⟩ : (2 : Int) ≤ y46.toInt ∧ y46.toInt ≤ 6 := by rw [e47]; exact ld_NB_0 ab_now 0 (by decide) (by decide)
              refine lv_iload_n hx hb dX12_mean_88 rfl (lv_at hl 1 rfl) ?_
              obtain ⟨n50, h51, e52⟩ := nat_of x28 55 (by decide) (lf_x_mean_1 knowF x k27 x28 n33 y36 y42 y46 ab_now t3 t4 t5 t6 t7 t8 j29 j30 j31 hm35 e37 b38 b39 c40 e43 b44 b45 e47 b48 b49)
              rw [e52]
              obtain ⟨n53, h54, e55⟩ := nat_of y46 7 (by decide) (lf_x_mean_2 knowF x k27 x28 n33 y36 y42 y46 n50 ab_now t3 t4 t5 t6 t7 t8 j29 j30 j31 hm35 e37 b38 b39 c40 e43 b44 b45 e47 b48 b49 h51 e52)
              have f56 : 2 ≤ n53 := (lf_x_mean_3 knowF x k27 x28 n33 y36 y42 y46 n50 n53 ab_now t3 t4 t5 t6 t7 t8 j29 j30 j31 hm35 e37 b38 b39 c40 e43 b44 b45 e47 b48 b49 h51 e52 h54 e55)
              rw [e55]
              refine vp_callSi (W.runS (As := [.int (nI n53), .int (nI n50)]) (rest := [.int y42]) ⟨hx, hb, hml, hown, hts⟩ (c_x_common l dC dI ky n53 n50 (lf_x_mean_4 knowF x k27 x28 n33 y36 y42 y46 n50 n53 ab_now t3 t4 t5 t6 t7 t8 j29 j30 j31 hm35 e37 b38 b39 c40 e43 b44 b45 e47 b48 b49 h51 e52 h54 e55 f56) (lf_x_mean_5 knowF x k27 x28 n33 y36 y42 y46 n50 n53 ab_now t3 t4 t5 t6 t7 t8 j29 j30 j31 hm35 e37 b38 b39 c40 e43 b44 b45 e47 b48 b49 h51 e52 h54 e55 f56) (lf_x_mean_6 knowF x k27 x28 n33 y36 y42 y46 n50 n53 ab_now t3 t4 t5 t6 t7 t8 j29 j30 j31 hm35 e37 b38 b39 c40 e43 b44 b45 e47 b48 b49 h51 e52 h54 e55 f56)) (va_cwS 2 hts gX12_mean_X12_common rfl rfl rfl (by decide +kernel) ⟨(Nat.le_of_ble_eq_true rfl), (Nat.le_of_ble_eq_true rfl)⟩) (pre_PS hK hP [] rfl) rfl rfl hl.1 rfl (lv_room (Nat.le_of_ble_eq_true rfl)) dX12_mean_89 ⟨(Nat.le_of_ble_eq_true rfl), (Nat.le_of_ble_eq_true rfl)⟩) (fun r57 p58 => ?_)
              obtain ⟨k59, ⟨h61, h62⟩, rfl⟩ := p58
              obtain ⟨n63, h64, e65⟩ := nat_of y42 7 (by decide) (lf_x_mean_7 knowF x k27 x28 n33 y36 y42 y46 n50 n53 ab_now t3 t4 t5 t6 t7 t8 j29 j30 j31 hm35 e37 b38 b39 c40 e43 b44 b45 e47 b48 b49 h51 e52 h54 e55 f56)
              have f66 : 2 ≤ n63 := (lf_x_mean_8 knowF x k27 x28 n33 y36 y42 y46 n50 n53 n63 ab_now t3 t4 t5 t6 t7 t8 j29 j30 j31 hm35 e37 b38 b39 c40 e43 b44 b45 e47 b48 b49 h51 e52 h54 e55 f56 h64 e65)
              rw [e65]
              refine lv_idiv hx hb dX12_mean_92 (nI_ne0 (by omega) (by omega)) ?_
              refine r_ti (nI (n63 / k59)) (pk_div (by omega) (by omega) (by omega)) ?_
              have f67 : n63 / k59 ≤ n63 := Nat.div_le_self _ _
              rw [hQ]
              exact W.iret (v := nI (n63 / k59)) hx hb hr (fun t9 ht9 hW9 => ⟨⟨nI (n63 / k59), (nI 0), rfl, trivial, by rw [ht9]; exact hP, va_K.moved hW9.alike hK, hD⟩, hS.F ht9⟩) hS.2.2 dX12_mean_93
            · refine lv_iload_n hx hb dX12_mean_72 rfl (lv_at hl 1 rfl) ?_
              refine lv_goto (tgt := 82) hx hb dX12_mean_73 (by decide) ?_
              refine lv_aload_n hx hb dX12_mean_82 rfl (lv_at hl 2 rfl) ?_
              refine va_get (D := (dC, dI)) (ci := 12) (v := .ref know) (C := RX12) (T := TX12) (N := 52) hx hb hts hin12 hown hK hP 0 rfl rfl 14 (by decide) (hts (.fieldLink RX12 98 "PorridgeSeaModel" "now" "[I") (List.mem_of_getElem? (i := 2) rfl)) (fun _ h9 => h9) rfl dX12_mean_83 ?_
              refine lv_iconst (v := nI 0) hx hb dX12_mean_86 (by decide) ?_
              obtain ⟨y68, e69⟩ : ∃ z9, z9 = knowF 0 := ⟨_, rfl⟩
              refine r_iald hx hb hK hP 1 rfl 0 (by decide) (by decide) y68 e69.symm dX12_mean_87 ?_
              obtain ⟨b70, b71⟩ : (2 : Int) ≤ y68.toInt ∧ y68.toInt ≤ 6 := by rw [e69]; exact ld_NB_0 ab_now 0 (by decide) (by decide)
              refine lv_iload_n hx hb dX12_mean_88 rfl (lv_at hl 1 rfl) ?_
              obtain ⟨n72, h73, e74⟩ := nat_of x28 55 (by decide) (lf_x_mean_9 knowF x k27 x28 n33 y36 y68 ab_now t3 t4 t5 t6 t7 t8 j29 j30 j31 hm35 e37 b38 b39 c40 e69 b70 b71)
              rw [e74]
              obtain ⟨n75, h76, e77⟩ := nat_of y68 7 (by decide) (lf_x_mean_10 knowF x k27 x28 n33 y36 y68 n72 ab_now t3 t4 t5 t6 t7 t8 j29 j30 j31 hm35 e37 b38 b39 c40 e69 b70 b71 h73 e74)
              have f78 : 2 ≤ n75 := (lf_x_mean_11 knowF x k27 x28 n33 y36 y68 n72 n75 ab_now t3 t4 t5 t6 t7 t8 j29 j30 j31 hm35 e37 b38 b39 c40 e69 b70 b71 h73 e74 h76 e77)
              rw [e77]
              refine vp_callSi (W.runS (As := [.int (nI n75), .int (nI n72)]) (rest := [.int (nI n72)]) ⟨hx, hb, hml, hown, hts⟩ (c_x_common l dC dI ky n75 n72 (lf_x_mean_12 knowF x k27 x28 n33 y36 y68 n72 n75 ab_now t3 t4 t5 t6 t7 t8 j29 j30 j31 hm35 e37 b38 b39 c40 e69 b70 b71 h73 e74 h76 e77 f78) (lf_x_mean_13 knowF x k27 x28 n33 y36 y68 n72 n75 ab_now t3 t4 t5 t6 t7 t8 j29 j30 j31 hm35 e37 b38 b39 c40 e69 b70 b71 h73 e74 h76 e77 f78) (lf_x_mean_14 knowF x k27 x28 n33 y36 y68 n72 n75 ab_now t3 t4 t5 t6 t7 t8 j29 j30 j31 hm35 e37 b38 b39 c40 e69 b70 b71 h73 e74 h76 e77 f78)) (va_cwS 2 hts gX12_mean_X12_common rfl rfl rfl (by decide +kernel) ⟨(Nat.le_of_ble_eq_true rfl), (Nat.le_of_ble_eq_true rfl)⟩) (pre_PS hK hP [] rfl) rfl rfl hl.1 rfl (lv_room (Nat.le_of_ble_eq_true rfl)) dX12_mean_89 ⟨(Nat.le_of_ble_eq_true rfl), (Nat.le_of_ble_eq_true rfl)⟩) (fun r79 p80 => ?_)
              obtain ⟨k81, ⟨h83, h84⟩, rfl⟩ := p80
              refine lv_idiv hx hb dX12_mean_92 (nI_ne0 (by omega) (by omega)) ?_
              refine r_ti (nI (n72 / k81)) (pk_div (by omega) (by omega) (by omega)) ?_
              have f85 : n72 / k81 ≤ n72 := Nat.div_le_self _ _
              rw [hQ]
              exact W.iret (v := nI (n72 / k81)) hx hb hr (fun t9 ht9 hW9 => ⟨⟨nI (n72 / k81), (nI 0), rfl, trivial, by rw [ht9]; exact hP, va_K.moved hW9.alike hK, hD⟩, hS.F ht9⟩) hS.2.2 dX12_mean_93
          · refine lv_iload_n hx hb dX12_mean_44 rfl (lv_at hl 1 rfl) ?_
            refine lv_aload_n hx hb dX12_mean_45 rfl (lv_at hl 2 rfl) ?_
            refine va_get (D := (dC, dI)) (ci := 12) (v := .ref know) (C := RX12) (T := TX12) (N := 52) hx hb hts hin12 hown hK hP 0 rfl rfl 14 (by decide) (hts (.fieldLink RX12 98 "PorridgeSeaModel" "now" "[I") (List.mem_of_getElem? (i := 2) rfl)) (fun _ h9 => h9) rfl dX12_mean_46 ?_
            refine lv_bipush (v := nI 71) hx hb dX12_mean_49 (by decide) ?_
            refine lv_bipush (v := nI 6) hx hb dX12_mean_51 (by decide) ?_
            refine lv_iload_n hx hb dX12_mean_53 rfl (lv_at hl 3 rfl) ?_
            obtain ⟨n86, h87, e88⟩ := nat_of x 6 (by decide) (lf_x_mean_15 knowF x k27 x28 n33 y36 ab_now t3 t4 t5 t6 t7 t8 j29 j30 j31 hm35 e37 b38 b39 c40)
            rw [e88]
            refine lv_imul hx hb dX12_mean_54 ?_
            refine r_ti (nI (6 * n86)) (pk_mul _ _) ?_
            refine lv_iadd hx hb dX12_mean_55 ?_
            refine r_ti (nI (71 + (6 * n86))) (nI_add _ _) ?_
            refine lv_iload hx hb dX12_mean_56 (lv_at hl 0 rfl) ?_
            refine lv_iadd hx hb dX12_mean_58 ?_
            refine r_ti (nI ((71 + (6 * n86)) + k27)) (nI_add _ _) ?_
            obtain ⟨y89, e90⟩ : ∃ z9, z9 = knowF ((71 + (6 * n86)) + k27) := ⟨_, rfl⟩
            refine r_iald hx hb hK hP 1 rfl ((71 + (6 * n86)) + k27) (lf_x_mean_16 knowF x k27 x28 n33 y36 n86 y89 ab_now t3 t4 t5 t6 t7 t8 j29 j30 j31 hm35 e37 b38 b39 c40 h87 e88 e90) (by decide) y89 e90.symm dX12_mean_59 ?_
            obtain ⟨b91, b92⟩ : (0 : Int) ≤ y89.toInt ∧ y89.toInt ≤ 9 := by rw [e90]; exact ld_NB_71 ab_now ((71 + (6 * n86)) + k27) (lf_x_mean_17 knowF x k27 x28 n33 y36 n86 y89 ab_now t3 t4 t5 t6 t7 t8 j29 j30 j31 hm35 e37 b38 b39 c40 h87 e88 e90) (lf_x_mean_18 knowF x k27 x28 n33 y36 n86 y89 ab_now t3 t4 t5 t6 t7 t8 j29 j30 j31 hm35 e37 b38 b39 c40 h87 e88 e90)
            obtain ⟨n93, h94, e95⟩ := nat_of x28 46 (by decide) (lf_x_mean_19 knowF x k27 x28 n33 y36 n86 y89 ab_now t3 t4 t5 t6 t7 t8 j29 j30 j31 hm35 e37 b38 b39 c40 h87 e88 e90 b91 b92)
            rw [e95]
            obtain ⟨n96, h97, e98⟩ := nat_of y89 10 (by decide) (lf_x_mean_20 knowF x k27 x28 n33 y36 n86 y89 n93 ab_now t3 t4 t5 t6 t7 t8 j29 j30 j31 hm35 e37 b38 b39 c40 h87 e88 e90 b91 b92 h94 e95)
            rw [e98]
            refine lv_iadd hx hb dX12_mean_60 ?_
            refine r_ti (nI (n93 + n96)) (nI_add _ _) ?_
            refine lv_istore_n (lv' := [(3, .int (nI (n93 + n96))), (4, .int (nI k27)), (0, .ref o), (1, .int x), (2, .int y)]) hx hb dX12_mean_61 rfl hl (by decide) rfl (fun ls hl => ?_)
            refine lv_iinc (v := nI (k27 + 1)) (lv' := [(4, .int (nI (k27 + 1))), (3, .int (nI (n93 + n96))), (0, .ref o), (1, .int x), (2, .int y)]) hx hb dX12_mean_62 hl (k := 1) rfl (show nI k27 + nI 1 = nI (k27 + 1) from nI_add _ _) (by decide) rfl (fun ls hl => ?_)
            refine lv_goto (tgt := 33) hx hb dX12_mean_65 (by decide) ?_
            exact ih34 (k27 + 1) (nI (n93 + n96)) (lf_x_mean_21 knowF x k27 x28 n33 y36 n86 y89 n93 n96 ab_now t3 t4 t5 t6 t7 t8 j29 j30 j31 hm35 e37 b38 b39 c40 h87 e88 e90 b91 b92 h94 e95 h97 e98) (lf_x_mean_22 knowF x k27 x28 n33 y36 n86 y89 n93 n96 ab_now t3 t4 t5 t6 t7 t8 j29 j30 j31 hm35 e37 b38 b39 c40 h87 e88 e90 b91 b92 h94 e95 h97 e98) (lf_x_mean_23 knowF x k27 x28 n33 y36 n86 y89 n93 n96 ab_now t3 t4 t5 t6 t7 t8 j29 j30 j31 hm35 e37 b38 b39 c40 h87 e88 e90 b91 b92 h94 e95 h97 e98) (lf_x_mean_24 knowF x k27 x28 n33 y36 n86 y89 n93 n96 ab_now t3 t4 t5 t6 t7 t8 j29 j30 j31 hm35 e37 b38 b39 c40 h87 e88 e90 b91 b92 h94 e95 h97 e98) _ _ _ hP hD hS (lv_sub hl [0, 1, 2, 3, 4] rfl)
      exact hL32 ((6 - 0) + 1) 0 (nI 0) (lf_x_mean_25 t3 t7) t3 (lf_x_mean_26 t3 t7) (Nat.lt_succ_self _) _ _ _ hP hD hS (lv_sub hl [0, 1, 2, 3, 4] rfl)
    · refine lv_if_ne (tgt := 28) hx hb dX12_mean_20 (by decide) (fun c99 => absurd c99 (by decide)) (fun c99 => ?_)
      refine lv_aload_n hx hb dX12_mean_23 rfl (lv_at hl 0 rfl) ?_
      refine r_call_i (wr := [(know, .inl (ky 0, 373, .inl knowF))]) (va_runV (As := []) (rest := []) ⟨hx, hb, hml, hown, hts⟩ (c_x_refuse l dC dI ky H.size o (nI 0) ktape ktaped ksize klimit kto kfrom kkind knumber ksign kfault kplace kword ktold know kread kkept ksnaps kaside kname kreadName kkeptName kisKept konces ksnapMany khasCells kpoured kfar ksides ksideMany kwayDays khasWay klines kmet kmetMany ksunk ktrying ksunkMany ksending kfleets ktext ktexts kseed kline kwritten klineMany khasWritten knode knodes konesMany kwithin ktop iv_ko_0 iv_ko_1 iv_ko_2 iv_ko_3 iv_ko_4 iv_ko_5 iv_ko_6 iv_ko_7 iv_ko_8 iv_ko_9 iv_ko_10 iv_ko_11 iv_ko_12 iv_ko_13 iv_ko_14) (cwV 0 hts gX12_mean_X12_refuse rfl rfl rfl (by decide +kernel) ⟨(Nat.le_of_ble_eq_true rfl), (Nat.le_of_ble_eq_true rfl)⟩) (pre_UV hK hP hD [0] (by decide) rfl (ci := 12) (q0 := 0) rfl rfl) rfl rfl hl.1 rfl (lv_room (Nat.le_of_ble_eq_true rfl)) dX12_mean_24 ⟨(Nat.le_of_ble_eq_true rfl), (Nat.le_of_ble_eq_true rfl)⟩) hP hD hS hA [0] [1] rfl rfl (by decide) (by decide) (fun r102 u100 H locs p101 hP hD hS => ?_)
      obtain ⟨kthrownG_103, rfl⟩ : ∃ z, z = u100 := ⟨_, rfl⟩
      try dsimp only at p101
      have p104 := p101
      refine W.widen (k := 0) (n := 0) (Nat.le_of_ble_eq_true rfl) (Nat.le_of_ble_eq_true rfl) ?_
      have hP : va_P (dC, dI) vwCl [(know, .inl (ky 0, 373, .inl knowF)), (o, .inr (12, [.int kthrownG_103, .ref ktape, .int (nI ktaped), .int (nI ksize), .int (nI klimit), .int (nI kto), .int (nI kfrom), .int kkind, .int knumber, .int ksign, .int kfault, .int kplace, .long kword, .int ktold, .ref know, .ref kread, .ref kkept, .ref ksnaps, .ref kaside, .ref kname, .ref kreadName, .ref kkeptName, .ref kisKept, .ref konces, .int (nI ksnapMany), .int khasCells, .ref kpoured, .ref kfar, .ref ksides, .int (nI ksideMany), .int kwayDays, .int khasWay, .ref klines, .ref kmet, .int (nI kmetMany), .ref ksunk, .ref ktrying, .int (nI ksunkMany), .int ksending, .int kfleets, .ref ktext, .int (nI ktexts), .int kseed, .ref kline, .ref kwritten, .int (nI klineMany), .int khasWritten, .ref knode, .int (nI knodes), .int (nI konesMany), .int (nI kwithin), .int (nI ktop)]))] H := hP
      have hD : va_D A [(know, .inl (ky 0, 373, .inl knowF)), (o, .inr (12, [.int kthrownG_103, .ref ktape, .int (nI ktaped), .int (nI ksize), .int (nI klimit), .int (nI kto), .int (nI kfrom), .int kkind, .int knumber, .int ksign, .int kfault, .int kplace, .long kword, .int ktold, .ref know, .ref kread, .ref kkept, .ref ksnaps, .ref kaside, .ref kname, .ref kreadName, .ref kkeptName, .ref kisKept, .ref konces, .int (nI ksnapMany), .int khasCells, .ref kpoured, .ref kfar, .ref ksides, .int (nI ksideMany), .int kwayDays, .int khasWay, .ref klines, .ref kmet, .int (nI kmetMany), .ref ksunk, .ref ktrying, .int (nI ksunkMany), .int ksending, .int kfleets, .ref ktext, .int (nI ktexts), .int kseed, .ref kline, .ref kwritten, .int (nI klineMany), .int khasWritten, .ref knode, .int (nI knodes), .int (nI konesMany), .int (nI kwithin), .int (nI ktop)]))] := hD
      subst p104
      rw [hQ]
      have hP9 := hP.sub (ws' := [(o, .inr (12, [.int kthrownG_103, .ref ktape, .int (nI ktaped), .int (nI ksize), .int (nI klimit), .int (nI kto), .int (nI kfrom), .int kkind, .int knumber, .int ksign, .int kfault, .int kplace, .long kword, .int ktold, .ref know, .ref kread, .ref kkept, .ref ksnaps, .ref kaside, .ref kname, .ref kreadName, .ref kkeptName, .ref kisKept, .ref konces, .int (nI ksnapMany), .int khasCells, .ref kpoured, .ref kfar, .ref ksides, .int (nI ksideMany), .int kwayDays, .int khasWay, .ref klines, .ref kmet, .int (nI kmetMany), .ref ksunk, .ref ktrying, .int (nI ksunkMany), .int ksending, .int kfleets, .ref ktext, .int (nI ktexts), .int kseed, .ref kline, .ref kwritten, .int (nI klineMany), .int khasWritten, .ref knode, .int (nI knodes), .int (nI konesMany), .int (nI kwithin), .int (nI ktop)])), (know, .inl (ky 0, 373, .inl knowF))]) [1, 0] rfl
      have hD9 := hD.sub (ws' := [(o, .inr (12, [.int kthrownG_103, .ref ktape, .int (nI ktaped), .int (nI ksize), .int (nI klimit), .int (nI kto), .int (nI kfrom), .int kkind, .int knumber, .int ksign, .int kfault, .int kplace, .long kword, .int ktold, .ref know, .ref kread, .ref kkept, .ref ksnaps, .ref kaside, .ref kname, .ref kreadName, .ref kkeptName, .ref kisKept, .ref konces, .int (nI ksnapMany), .int khasCells, .ref kpoured, .ref kfar, .ref ksides, .int (nI ksideMany), .int kwayDays, .int khasWay, .ref klines, .ref kmet, .int (nI kmetMany), .ref ksunk, .ref ktrying, .int (nI ksunkMany), .int ksending, .int kfleets, .ref ktext, .int (nI ktexts), .int kseed, .ref kline, .ref kwritten, .int (nI klineMany), .int khasWritten, .ref knode, .int (nI knodes), .int (nI konesMany), .int (nI kwithin), .int (nI ktop)])), (know, .inl (ky 0, 373, .inl knowF))]) [1, 0] (by decide) rfl
      exact W.iret (v := nI 0) hx hb hr (fun t9 ht9 hW9 => ⟨⟨nI 0, kthrownG_103, rfl, trivial, by rw [ht9]; exact hP9, va_K.moved hW9.alike hK, hD9⟩, hS.F ht9⟩) hS.2.2 dX12_mean_27
  · refine lv_if_eq (tgt := 23) hx hb dX12_mean_11 (by decide) (fun c105 => ?_) (fun c105 => absurd (by decide) c105)
    refine lv_aload_n hx hb dX12_mean_23 rfl (lv_at hl 0 rfl) ?_
    refine r_call_i (wr := [(know, .inl (ky 0, 373, .inl knowF))]) (va_runV (As := []) (rest := []) ⟨hx, hb, hml, hown, hts⟩ (c_x_refuse l dC dI ky H.size o (nI 0) ktape ktaped ksize klimit kto kfrom kkind knumber ksign kfault kplace kword ktold know kread kkept ksnaps kaside kname kreadName kkeptName kisKept konces ksnapMany khasCells kpoured kfar ksides ksideMany kwayDays khasWay klines kmet kmetMany ksunk ktrying ksunkMany ksending kfleets ktext ktexts kseed kline kwritten klineMany khasWritten knode knodes konesMany kwithin ktop iv_ko_0 iv_ko_1 iv_ko_2 iv_ko_3 iv_ko_4 iv_ko_5 iv_ko_6 iv_ko_7 iv_ko_8 iv_ko_9 iv_ko_10 iv_ko_11 iv_ko_12 iv_ko_13 iv_ko_14) (cwV 0 hts gX12_mean_X12_refuse rfl rfl rfl (by decide +kernel) ⟨(Nat.le_of_ble_eq_true rfl), (Nat.le_of_ble_eq_true rfl)⟩) (pre_UV hK hP hD [0] (by decide) rfl (ci := 12) (q0 := 0) rfl rfl) rfl rfl hl.1 rfl (lv_room (Nat.le_of_ble_eq_true rfl)) dX12_mean_24 ⟨(Nat.le_of_ble_eq_true rfl), (Nat.le_of_ble_eq_true rfl)⟩) hP hD hS hA [0] [1] rfl rfl (by decide) (by decide) (fun r108 u106 H locs p107 hP hD hS => ?_)
    obtain ⟨kthrownG_109, rfl⟩ : ∃ z, z = u106 := ⟨_, rfl⟩
    try dsimp only at p107
    have p110 := p107
    refine W.widen (k := 0) (n := 0) (Nat.le_of_ble_eq_true rfl) (Nat.le_of_ble_eq_true rfl) ?_
    have hP : va_P (dC, dI) vwCl [(know, .inl (ky 0, 373, .inl knowF)), (o, .inr (12, [.int kthrownG_109, .ref ktape, .int (nI ktaped), .int (nI ksize), .int (nI klimit), .int (nI kto), .int (nI kfrom), .int kkind, .int knumber, .int ksign, .int kfault, .int kplace, .long kword, .int ktold, .ref know, .ref kread, .ref kkept, .ref ksnaps, .ref kaside, .ref kname, .ref kreadName, .ref kkeptName, .ref kisKept, .ref konces, .int (nI ksnapMany), .int khasCells, .ref kpoured, .ref kfar, .ref ksides, .int (nI ksideMany), .int kwayDays, .int khasWay, .ref klines, .ref kmet, .int (nI kmetMany), .ref ksunk, .ref ktrying, .int (nI ksunkMany), .int ksending, .int kfleets, .ref ktext, .int (nI ktexts), .int kseed, .ref kline, .ref kwritten, .int (nI klineMany), .int khasWritten, .ref knode, .int (nI knodes), .int (nI konesMany), .int (nI kwithin), .int (nI ktop)]))] H := hP
    have hD : va_D A [(know, .inl (ky 0, 373, .inl knowF)), (o, .inr (12, [.int kthrownG_109, .ref ktape, .int (nI ktaped), .int (nI ksize), .int (nI klimit), .int (nI kto), .int (nI kfrom), .int kkind, .int knumber, .int ksign, .int kfault, .int kplace, .long kword, .int ktold, .ref know, .ref kread, .ref kkept, .ref ksnaps, .ref kaside, .ref kname, .ref kreadName, .ref kkeptName, .ref kisKept, .ref konces, .int (nI ksnapMany), .int khasCells, .ref kpoured, .ref kfar, .ref ksides, .int (nI ksideMany), .int kwayDays, .int khasWay, .ref klines, .ref kmet, .int (nI kmetMany), .ref ksunk, .ref ktrying, .int (nI ksunkMany), .int ksending, .int kfleets, .ref ktext, .int (nI ktexts), .int kseed, .ref kline, .ref kwritten, .int (nI klineMany), .int khasWritten, .ref knode, .int (nI knodes), .int (nI konesMany), .int (nI kwithin), .int (nI ktop)]))] := hD
    subst p110
    rw [hQ]
    have hP9 := hP.sub (ws' := [(o, .inr (12, [.int kthrownG_109, .ref ktape, .int (nI ktaped), .int (nI ksize), .int (nI klimit), .int (nI kto), .int (nI kfrom), .int kkind, .int knumber, .int ksign, .int kfault, .int kplace, .long kword, .int ktold, .ref know, .ref kread, .ref kkept, .ref ksnaps, .ref kaside, .ref kname, .ref kreadName, .ref kkeptName, .ref kisKept, .ref konces, .int (nI ksnapMany), .int khasCells, .ref kpoured, .ref kfar, .ref ksides, .int (nI ksideMany), .int kwayDays, .int khasWay, .ref klines, .ref kmet, .int (nI kmetMany), .ref ksunk, .ref ktrying, .int (nI ksunkMany), .int ksending, .int kfleets, .ref ktext, .int (nI ktexts), .int kseed, .ref kline, .ref kwritten, .int (nI klineMany), .int khasWritten, .ref knode, .int (nI knodes), .int (nI konesMany), .int (nI kwithin), .int (nI ktop)])), (know, .inl (ky 0, 373, .inl knowF))]) [1, 0] rfl
    have hD9 := hD.sub (ws' := [(o, .inr (12, [.int kthrownG_109, .ref ktape, .int (nI ktaped), .int (nI ksize), .int (nI klimit), .int (nI kto), .int (nI kfrom), .int kkind, .int knumber, .int ksign, .int kfault, .int kplace, .long kword, .int ktold, .ref know, .ref kread, .ref kkept, .ref ksnaps, .ref kaside, .ref kname, .ref kreadName, .ref kkeptName, .ref kisKept, .ref konces, .int (nI ksnapMany), .int khasCells, .ref kpoured, .ref kfar, .ref ksides, .int (nI ksideMany), .int kwayDays, .int khasWay, .ref klines, .ref kmet, .int (nI kmetMany), .ref ksunk, .ref ktrying, .int (nI ksunkMany), .int ksending, .int kfleets, .ref ktext, .int (nI ktexts), .int kseed, .ref kline, .ref kwritten, .int (nI klineMany), .int khasWritten, .ref knode, .int (nI knodes), .int (nI konesMany), .int (nI kwithin), .int (nI ktop)])), (know, .inl (ky 0, 373, .inl knowF))]) [1, 0] (by decide) rfl
    exact W.iret (v := nI 0) hx hb hr (fun t9 ht9 hW9 => ⟨⟨nI 0, kthrownG_109, rfl, trivial, by rw [ht9]; exact hP9, va_K.moved hW9.alike hK, hD9⟩, hS.F ht9⟩) hS.2.2 dX12_mean_27
