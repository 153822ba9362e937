theorem dX12_fleet_0 : decode cX12_fleet 0 = .ok (.aload_n 0, 1) := by decide +kernel
theorem dX12_fleet_1 : decode cX12_fleet 1 = .ok (.iconst 0, 1) := by decide +kernel
theorem dX12_fleet_2 : decode cX12_fleet 2 = .ok (.putfield 1, 3) := by decide +kernel
theorem dX12_fleet_5 : decode cX12_fleet 5 = .ok (.iload_n 1, 1) := by decide +kernel
theorem dX12_fleet_6 : decode cX12_fleet 6 = .ok (.iconst 1, 1) := by decide +kernel
theorem dX12_fleet_7 : decode cX12_fleet 7 = .ok (.bipush 54, 2) := by decide +kernel
theorem dX12_fleet_9 : decode cX12_fleet 9 = .ok (.invokestatic 75, 3) := by decide +kernel
theorem dX12_fleet_12 : decode cX12_fleet 12 = .ok (.ifCond .ne 5, 3) := by decide +kernel
theorem dX12_fleet_17 : decode cX12_fleet 17 = .ok (.iconst (-1), 1) := by decide +kernel
theorem dX12_fleet_18 : decode cX12_fleet 18 = .ok (.istore_n 2, 1) := by decide +kernel
theorem dX12_fleet_19 : decode cX12_fleet 19 = .ok (.iconst 1, 1) := by decide +kernel
theorem dX12_fleet_20 : decode cX12_fleet 20 = .ok (.aload_n 0, 1) := by decide +kernel
theorem dX12_fleet_21 : decode cX12_fleet 21 = .ok (.getfield 98, 3) := by decide +kernel
theorem dX12_fleet_24 : decode cX12_fleet 24 = .ok (.iconst 3, 1) := by decide +kernel
theorem dX12_fleet_25 : decode cX12_fleet 25 = .ok (.iaload, 1) := by decide +kernel
theorem dX12_fleet_26 : decode cX12_fleet 26 = .ok (.ishl, 1) := by decide +kernel
theorem dX12_fleet_27 : decode cX12_fleet 27 = .ok (.iconst 1, 1) := by decide +kernel
theorem dX12_fleet_28 : decode cX12_fleet 28 = .ok (.isub, 1) := by decide +kernel
theorem dX12_fleet_29 : decode cX12_fleet 29 = .ok (.istore_n 3, 1) := by decide +kernel
theorem dX12_fleet_30 : decode cX12_fleet 30 = .ok (.iload_n 3, 1) := by decide +kernel
theorem dX12_fleet_31 : decode cX12_fleet 31 = .ok (.ifCond .le 85, 3) := by decide +kernel
theorem dX12_fleet_34 : decode cX12_fleet 34 = .ok (.iconst 0, 1) := by decide +kernel
theorem dX12_fleet_35 : decode cX12_fleet 35 = .ok (.istore 4, 2) := by decide +kernel
theorem dX12_fleet_37 : decode cX12_fleet 37 = .ok (.iconst 0, 1) := by decide +kernel
theorem dX12_fleet_38 : decode cX12_fleet 38 = .ok (.istore 5, 2) := by decide +kernel
theorem dX12_fleet_40 : decode cX12_fleet 40 = .ok (.iload 5, 2) := by decide +kernel
theorem dX12_fleet_42 : decode cX12_fleet 42 = .ok (.bipush 6, 2) := by decide +kernel
theorem dX12_fleet_44 : decode cX12_fleet 44 = .ok (.if_icmp .ge 33, 3) := by decide +kernel
theorem dX12_fleet_47 : decode cX12_fleet 47 = .ok (.iload_n 3, 1) := by decide +kernel
theorem dX12_fleet_48 : decode cX12_fleet 48 = .ok (.iload 5, 2) := by decide +kernel
theorem dX12_fleet_50 : decode cX12_fleet 50 = .ok (.invokestatic 348, 3) := by decide +kernel
theorem dX12_fleet_53 : decode cX12_fleet 53 = .ok (.ifCond .eq 18, 3) := by decide +kernel
theorem dX12_fleet_71 : decode cX12_fleet 71 = .ok (.iinc 5 1, 3) := by decide +kernel
theorem dX12_fleet_74 : decode cX12_fleet 74 = .ok (.goto (-34), 3) := by decide +kernel
theorem dX12_fleet_56 : decode cX12_fleet 56 = .ok (.iload 4, 2) := by decide +kernel
theorem dX12_fleet_58 : decode cX12_fleet 58 = .ok (.aload_n 0, 1) := by decide +kernel
theorem dX12_fleet_59 : decode cX12_fleet 59 = .ok (.getfield 98, 3) := by decide +kernel
theorem dX12_fleet_62 : decode cX12_fleet 62 = .ok (.bipush 55, 2) := by decide +kernel
theorem dX12_fleet_64 : decode cX12_fleet 64 = .ok (.iload 5, 2) := by decide +kernel
theorem dX12_fleet_66 : decode cX12_fleet 66 = .ok (.iadd, 1) := by decide +kernel
theorem dX12_fleet_67 : decode cX12_fleet 67 = .ok (.iaload, 1) := by decide +kernel
theorem dX12_fleet_68 : decode cX12_fleet 68 = .ok (.iadd, 1) := by decide +kernel
theorem dX12_fleet_69 : decode cX12_fleet 69 = .ok (.istore 4, 2) := by decide +kernel
theorem dX12_fleet_77 : decode cX12_fleet 77 = .ok (.iload_n 3, 1) := by decide +kernel
theorem dX12_fleet_78 : decode cX12_fleet 78 = .ok (.aload_n 0, 1) := by decide +kernel
theorem dX12_fleet_79 : decode cX12_fleet 79 = .ok (.invokevirtual 269, 3) := by decide +kernel
theorem dX12_fleet_82 : decode cX12_fleet 82 = .ok (.iand, 1) := by decide +kernel
theorem dX12_fleet_83 : decode cX12_fleet 83 = .ok (.ifCond .ne 27, 3) := by decide +kernel
theorem dX12_fleet_110 : decode cX12_fleet 110 = .ok (.iinc 3 (-1), 3) := by decide +kernel
theorem dX12_fleet_113 : decode cX12_fleet 113 = .ok (.goto (-83), 3) := by decide +kernel
theorem dX12_fleet_86 : decode cX12_fleet 86 = .ok (.iload 4, 2) := by decide +kernel
theorem dX12_fleet_88 : decode cX12_fleet 88 = .ok (.iload_n 1, 1) := by decide +kernel
theorem dX12_fleet_89 : decode cX12_fleet 89 = .ok (.if_icmp .lt 21, 3) := by decide +kernel
theorem dX12_fleet_92 : decode cX12_fleet 92 = .ok (.iload_n 2, 1) := by decide +kernel
theorem dX12_fleet_93 : decode cX12_fleet 93 = .ok (.iconst (-1), 1) := by decide +kernel
theorem dX12_fleet_94 : decode cX12_fleet 94 = .ok (.if_icmp .eq 14, 3) := by decide +kernel
theorem dX12_fleet_108 : decode cX12_fleet 108 = .ok (.iload_n 3, 1) := by decide +kernel
theorem dX12_fleet_109 : decode cX12_fleet 109 = .ok (.istore_n 2, 1) := by decide +kernel
theorem dX12_fleet_116 : decode cX12_fleet 116 = .ok (.iload_n 2, 1) := by decide +kernel
theorem dX12_fleet_117 : decode cX12_fleet 117 = .ok (.iconst (-1), 1) := by decide +kernel
theorem dX12_fleet_118 : decode cX12_fleet 118 = .ok (.if_icmp .ne 5, 3) := by decide +kernel
theorem dX12_fleet_121 : decode cX12_fleet 121 = .ok (.iconst (-1), 1) := by decide +kernel
theorem dX12_fleet_122 : decode cX12_fleet 122 = .ok (.ireturn, 1) := by decide +kernel
theorem dX12_fleet_97 : decode cX12_fleet 97 = .ok (.iload_n 3, 1) := by decide +kernel
theorem dX12_fleet_98 : decode cX12_fleet 98 = .ok (.invokestatic 357, 3) := by decide +kernel
theorem dX12_fleet_101 : decode cX12_fleet 101 = .ok (.iload_n 2, 1) := by decide +kernel
theorem dX12_fleet_102 : decode cX12_fleet 102 = .ok (.invokestatic 357, 3) := by decide +kernel
theorem dX12_fleet_105 : decode cX12_fleet 105 = .ok (.if_icmp .gt 5, 3) := by decide +kernel
theorem dX12_fleet_123 : decode cX12_fleet 123 = .ok (.aload_n 0, 1) := by decide +kernel
theorem dX12_fleet_124 : decode cX12_fleet 124 = .ok (.iload_n 2, 1) := by decide +kernel
theorem dX12_fleet_125 : decode cX12_fleet 125 = .ok (.putfield 157, 3) := by decide +kernel
theorem dX12_fleet_128 : decode cX12_fleet 128 = .ok (.iload_n 2, 1) := by decide +kernel
theorem dX12_fleet_129 : decode cX12_fleet 129 = .ok (.invokestatic 357, 3) := by decide +kernel
theorem dX12_fleet_132 : decode cX12_fleet 132 = .ok (.ireturn, 1) := by decide +kernel
theorem dX12_fleet_15 : decode cX12_fleet 15 = .ok (.iconst (-1), 1) := by decide +kernel
theorem dX12_fleet_16 : decode cX12_fleet 16 = .ok (.ireturn, 1) := by decide +kernel
set_option maxRecDepth 100000 in
theorem ggX12_fleet_X12_isIn : GoodIn wsX12_fleet wsX12_isIn := goodIn_r _ [7] rfl (by decide +kernel)
set_option maxRecDepth 100000 in
theorem ggX12_fleet_X12_has : GoodIn wsX12_fleet wsX12_has := goodIn_r _ [10] rfl (by decide +kernel)
set_option maxRecDepth 100000 in
theorem ggX12_fleet_X12_eaten : GoodIn wsX12_fleet wsX12_eaten := goodIn_r _ [14, 2, 15, 16, 17, 6, 18, 22, 23, 24, 25, 26, 27, 28, 29, 30, 31, 32, 33, 34, 35, 36, 37, 38, 39, 40, 41, 42, 43, 44, 45, 46, 47, 48, 49, 50, 51, 52, 53, 54, 55, 56, 57, 58, 59, 60, 61, 62, 63, 64, 65, 66, 67, 68, 69, 70, 71, 72, 73] rfl (by decide +kernel)
set_option maxRecDepth 100000 in
theorem ggX12_fleet_X12_bits : GoodIn wsX12_fleet wsX12_bits := goodIn_r _ [21] rfl (by decide +kernel)
set_option maxRecDepth 100000 in
theorem gX12_fleet_X12_isIn : GoodIn wsX12_fleet (va_wsS RX12 75 yX12_isIn wsX12_isIn) := goodIn_app (goodIn_of _ (by decide +kernel)) ggX12_fleet_X12_isIn
set_option maxRecDepth 100000 in
theorem gX12_fleet_X12_has : GoodIn wsX12_fleet (va_wsS RX12 348 yX12_has wsX12_has) := goodIn_app (goodIn_of _ (by decide +kernel)) ggX12_fleet_X12_has
set_option maxRecDepth 100000 in
theorem gX12_fleet_X12_eaten : GoodIn wsX12_fleet (wsV RX12 269 RX12 yX12_eaten wsX12_eaten) := goodIn_app (goodIn_of _ (by decide +kernel)) ggX12_fleet_X12_eaten
set_option maxRecDepth 100000 in
theorem gX12_fleet_X12_bits : GoodIn wsX12_fleet (va_wsS RX12 357 yX12_bits wsX12_bits) := goodIn_app (goodIn_of _ (by decide +kernel)) ggX12_fleet_X12_bits
set_option maxRecDepth 20000 in
theorem lf_x_fleet_1 (x17 : Int32) (n20 : Nat) (r41 : Int32) (y43 : Int32) (y46 : Int32) (hm22 : x17.toInt.toNat < n20 + 1) (c23 : ¬ x17 ≤ 0) (p42 : True) (e44 : y43 = x17 &&& r41) (c45 : y43 ≠ 0) (e47 : y46 = x17 + Int32.ofInt (-1)) : y46.toInt.toNat < n20 := by
  have b_x17 := ia_b x17
  have b_r41 := ia_b r41
  have b_y43 := ia_b y43
  have b_y46 := ia_b y46
  have h9 : 0 < x17.toInt → (x17 + Int32.ofInt (-1)).toInt = x17.toInt - 1 := dec_i x17
  try simp only [ia_lt, ia_le, ia_eq, ia_m1, ia_0, ia_1, ne_eq, true_and, and_true, false_and, and_false, or_false, false_or, or_true, true_or, not_true_eq_false, not_false_eq_true] at *
  all_goals omega
set_option maxRecDepth 20000 in
theorem lf_x_fleet_2 (x17 : Int32) (n20 : Nat) (r41 : Int32) (y43 : Int32) (y49 : Int32) (hm22 : x17.toInt.toNat < n20 + 1) (c23 : ¬ x17 ≤ 0) (p42 : True) (e44 : y43 = x17 &&& r41) (c45 : y43 = 0) (e50 : y49 = x17 + Int32.ofInt (-1)) : y49.toInt.toNat < n20 := by
  have b_x17 := ia_b x17
  have b_r41 := ia_b r41
  have b_y43 := ia_b y43
  have b_y49 := ia_b y49
  have h9 : 0 < x17.toInt → (x17 + Int32.ofInt (-1)).toInt = x17.toInt - 1 := dec_i x17
  try simp only [ia_lt, ia_le, ia_eq, ia_m1, ia_0, ia_1, ne_eq, true_and, and_true, false_and, and_false, or_false, false_or, or_true, true_or, not_true_eq_false, not_false_eq_true] at *
  all_goals omega
set_option maxRecDepth 20000 in
theorem lf_x_fleet_3 (x17 : Int32) (n20 : Nat) (r41 : Int32) (y43 : Int32) (y52 : Int32) (hm22 : x17.toInt.toNat < n20 + 1) (c23 : ¬ x17 ≤ 0) (p42 : True) (e44 : y43 = x17 &&& r41) (c45 : y43 = 0) (e53 : y52 = x17 + Int32.ofInt (-1)) : y52.toInt.toNat < n20 := by
  have b_x17 := ia_b x17
  have b_r41 := ia_b r41
  have b_y43 := ia_b y43
  have b_y52 := ia_b y52
  have h9 : 0 < x17.toInt → (x17 + Int32.ofInt (-1)).toInt = x17.toInt - 1 := dec_i x17
  try simp only [ia_lt, ia_le, ia_eq, ia_m1, ia_0, ia_1, ne_eq, true_and, and_true, false_and, and_false, or_false, false_or, or_true, true_or, not_true_eq_false, not_false_eq_true] at *
  all_goals omega
set_option maxRecDepth 20000 in
theorem lf_x_fleet_4 (x17 : Int32) (n20 : Nat) (r41 : Int32) (y43 : Int32) (y59 : Int32) (hm22 : x17.toInt.toNat < n20 + 1) (c23 : ¬ x17 ≤ 0) (p42 : True) (e44 : y43 = x17 &&& r41) (c45 : y43 = 0) (p55 : True) (p57 : True) (e60 : y59 = x17 + Int32.ofInt (-1)) : y59.toInt.toNat < n20 := by
  have b_x17 := ia_b x17
  have b_r41 := ia_b r41
  have b_y43 := ia_b y43
  have b_y59 := ia_b y59
  have h9 : 0 < x17.toInt → (x17 + Int32.ofInt (-1)).toInt = x17.toInt - 1 := dec_i x17
  try simp only [ia_lt, ia_le, ia_eq, ia_m1, ia_0, ia_1, ne_eq, true_and, and_true, false_and, and_false, or_false, false_or, or_true, true_or, not_true_eq_false, not_false_eq_true] at *
  all_goals omega
set_option maxRecDepth 20000 in
theorem lf_x_fleet_5 (x17 : Int32) (n20 : Nat) (r41 : Int32) (y43 : Int32) (y61 : Int32) (hm22 : x17.toInt.toNat < n20 + 1) (c23 : ¬ x17 ≤ 0) (p42 : True) (e44 : y43 = x17 &&& r41) (c45 : y43 = 0) (p55 : True) (p57 : True) (e62 : y61 = x17 + Int32.ofInt (-1)) : y61.toInt.toNat < n20 := by
  have b_x17 := ia_b x17
  have b_r41 := ia_b r41
  have b_y43 := ia_b y43
  have b_y61 := ia_b y61
  have h9 : 0 < x17.toInt → (x17 + Int32.ofInt (-1)).toInt = x17.toInt - 1 := dec_i x17
  try simp only [ia_lt, ia_le, ia_eq, ia_m1, ia_0, ia_1, ne_eq, true_and, and_true, false_and, and_false, or_false, false_or, or_true, true_or, not_true_eq_false, not_false_eq_true] at *
  all_goals omega
set_option maxRecDepth 20000 in
theorem lf_x_fleet_6 (k33 : Nat) (n37 : Nat) (j35 : k33 ≤ 6) (hm39 : 6 - k33 < n37 + 1) (c40 : k33 < 6) : (k33 + 1) ≤ 6 := by
  try simp only [ia_lt, ia_le, ia_eq, ia_m1, ia_0, ia_1, ne_eq, true_and, and_true, false_and, and_false, or_false, false_or, or_true, true_or, not_true_eq_false, not_false_eq_true] at *
  all_goals omega
set_option maxRecDepth 20000 in
theorem lf_x_fleet_7 (k33 : Nat) (n37 : Nat) (j35 : k33 ≤ 6) (hm39 : 6 - k33 < n37 + 1) (c40 : k33 < 6) : 6 - (k33 + 1) < n37 := by
  try simp only [ia_lt, ia_le, ia_eq, ia_m1, ia_0, ia_1, ne_eq, true_and, and_true, false_and, and_false, or_false, false_or, or_true, true_or, not_true_eq_false, not_false_eq_true] at *
  all_goals omega
set_option maxRecDepth 20000 in
theorem lf_x_fleet_8 (knowF : Nat → Int32) (y7 : Int32) (y11 : Int32) (y13 : Int32) (k33 : Nat) (n37 : Nat) (y66 : Int32) (ab_now : NB knowF) (e8 : y7 = knowF 3) (b9 : 0 ≤ y7.toInt) (b10 : y7.toInt ≤ 6) (e12 : y11 = (nI 1) <<< (y7 &&& 31)) (e14 : y13 = y11 - (nI 1)) (j35 : k33 ≤ 6) (hm39 : 6 - k33 < n37 + 1) (c40 : k33 < 6) (e67 : y66 = knowF (55 + k33)) : (55 + k33) < 373 := by
  have b_y7 := ia_b y7
  have b_y11 := ia_b y11
  have b_y13 := ia_b y13
  have b_y66 := ia_b y66
  try have k_0 := ia_n 1 (by first | decide | omega)
  try simp only [ia_lt, ia_le, ia_eq, ia_m1, ia_0, ia_1, ne_eq, true_and, and_true, false_and, and_false, or_false, false_or, or_true, true_or, not_true_eq_false, not_false_eq_true] at *
  all_goals omega
set_option maxRecDepth 20000 in
theorem lf_x_fleet_9 (knowF : Nat → Int32) (y7 : Int32) (y11 : Int32) (y13 : Int32) (k33 : Nat) (x34 : Int32) (n37 : Nat) (y66 : Int32) (y68 : Int32) (ab_now : NB knowF) (e8 : y7 = knowF 3) (b9 : 0 ≤ y7.toInt) (b10 : y7.toInt ≤ 6) (e12 : y11 = (nI 1) <<< (y7 &&& 31)) (e14 : y13 = y11 - (nI 1)) (j35 : k33 ≤ 6) (hm39 : 6 - k33 < n37 + 1) (c40 : k33 < 6) (e67 : y66 = knowF (55 + k33)) (e69 : y68 = x34 + y66) : (k33 + 1) ≤ 6 := by
  have b_y7 := ia_b y7
  have b_y11 := ia_b y11
  have b_y13 := ia_b y13
  have b_x34 := ia_b x34
  have b_y66 := ia_b y66
  have b_y68 := ia_b y68
  try have k_0 := ia_n 1 (by first | decide | omega)
  try simp only [ia_lt, ia_le, ia_eq, ia_m1, ia_0, ia_1, ne_eq, true_and, and_true, false_and, and_false, or_false, false_or, or_true, true_or, not_true_eq_false, not_false_eq_true] at *
  all_goals omega
set_option maxRecDepth 20000 in
theorem lf_x_fleet_10 (knowF : Nat → Int32) (y7 : Int32) (y11 : Int32) (y13 : Int32) (k33 : Nat) (x34 : Int32) (n37 : Nat) (y66 : Int32) (y68 : Int32) (ab_now : NB knowF) (e8 : y7 = knowF 3) (b9 : 0 ≤ y7.toInt) (b10 : y7.toInt ≤ 6) (e12 : y11 = (nI 1) <<< (y7 &&& 31)) (e14 : y13 = y11 - (nI 1)) (j35 : k33 ≤ 6) (hm39 : 6 - k33 < n37 + 1) (c40 : k33 < 6) (e67 : y66 = knowF (55 + k33)) (e69 : y68 = x34 + y66) : 6 - (k33 + 1) < n37 := by
  have b_y7 := ia_b y7
  have b_y11 := ia_b y11
  have b_y13 := ia_b y13
  have b_x34 := ia_b x34
  have b_y66 := ia_b y66
  have b_y68 := ia_b y68
  try have k_0 := ia_n 1 (by first | decide | omega)
  try simp only [ia_lt, ia_le, ia_eq, ia_m1, ia_0, ia_1, ne_eq, true_and, and_true, false_and, and_false, or_false, false_or, or_true, true_or, not_true_eq_false, not_false_eq_true] at *
  all_goals omega
set_option maxRecDepth 20000 in
theorem lf_x_fleet_11   : 0 ≤ 6 := by
  try simp only [ia_lt, ia_le, ia_eq, ia_m1, ia_0, ia_1, ne_eq, true_and, and_true, false_and, and_false, or_false, false_or, or_true, true_or, not_true_eq_false, not_false_eq_true] at *
  all_goals omega
set_option maxHeartbeats 4000000 in
set_option maxRecDepth 100000 in
theorem c_x_fleet (l : Launch) (dC : Nat → ClassId) (dI : Nat → Nat → Nat) (ky : Nat → ClassId) (sz : Nat) (o : Nat) (kthrown : Int32) (ktape : Nat) (ktaped : Nat) (ksize : Nat) (klimit : Nat) (kto : Nat) (kfrom : Nat) (kkind : Int32) (knumber : Int32) (ksign : Int32) (kfault : Int32) (kplace : Int32) (kword : Int64) (ktold : Int32) (know : Nat) (kread : Nat) (kkept : Nat) (ksnaps : Nat) (kaside : Nat) (kname : Nat) (kreadName : Nat) (kkeptName : Nat) (kisKept : Nat) (konces : Nat) (ksnapMany : Nat) (khasCells : Int32) (kpoured : Nat) (kfar : Nat) (ksides : Nat) (ksideMany : Nat) (kwayDays : Int32) (khasWay : Int32) (klines : Nat) (kmet : Nat) (kmetMany : Nat) (ksunk : Nat) (ktrying : Nat) (ksunkMany : Nat) (ksending : Int32) (kfleets : Int32) (ktext : Nat) (ktexts : Nat) (kseed : Int32) (kline : Nat) (kwritten : Nat) (klineMany : Nat) (khasWritten : Int32) (knode : Nat) (knodes : Nat) (konesMany : Nat) (kwithin : Nat) (ktop : Nat) (knowF : Nat → Int32) (x : Int32) (iv_ko_0 : ktaped ≤ 940) (iv_ko_1 : ksize ≤ 940) (iv_ko_2 : klimit ≤ 900) (iv_ko_3 : kto ≤ ksize) (iv_ko_4 : kfrom ≤ 940) (iv_ko_5 : ksnapMany ≤ 8) (iv_ko_6 : ksideMany ≤ 36) (iv_ko_7 : kmetMany ≤ 3) (iv_ko_8 : ksunkMany ≤ 36) (iv_ko_9 : ktexts ≤ 64) (iv_ko_10 : klineMany ≤ 40) (iv_ko_11 : knodes ≤ 60) (iv_ko_12 : konesMany ≤ 20) (iv_ko_13 : kwithin ≤ 8) (iv_ko_14 : ktop ≤ 59) (ab_now : NB knowF) : Met l yX12_fleet wsX12_fleet ({ frames := 2, cells := 0, slots := 0, locals := 43 }) (PcU dC dI ky [.ref o, .int x] [(o, .inr (12, [.int kthrown, .ref ktape, .int (nI ktaped), .int (nI ksize), .int (nI klimit), .int (nI kto), .int (nI kfrom), .int kkind, .int knumber, .int ksign, .int kfault, .int kplace, .long kword, .int ktold, .ref know, .ref kread, .ref kkept, .ref ksnaps, .ref kaside, .ref kname, .ref kreadName, .ref kkeptName, .ref kisKept, .ref konces, .int (nI ksnapMany), .int khasCells, .ref kpoured, .ref kfar, .ref ksides, .int (nI ksideMany), .int kwayDays, .int khasWay, .ref klines, .ref kmet, .int (nI kmetMany), .ref ksunk, .ref ktrying, .int (nI ksunkMany), .int ksending, .int kfleets, .ref ktext, .int (nI ktexts), .int kseed, .ref kline, .ref kwritten, .int (nI klineMany), .int khasWritten, .ref knode, .int (nI knodes), .int (nI konesMany), .int (nI kwithin), .int (nI ktop)])), (know, .inl (ky 0, 373, .inl knowF))] sz) (va_Qi (fun (r : Int32) (u : Int32 × Int32) => match u with | (kthrownG, kfleetsG) => True) (BU dC dI ky (fun (u : Int32 × Int32) => match u with | (kthrownG, kfleetsG) => [(o, .inr (12, [.int kthrownG, .ref ktape, .int (nI ktaped), .int (nI ksize), .int (nI klimit), .int (nI kto), .int (nI kfrom), .int kkind, .int knumber, .int ksign, .int kfault, .int kplace, .long kword, .int ktold, .ref know, .ref kread, .ref kkept, .ref ksnaps, .ref kaside, .ref kname, .ref kreadName, .ref kkeptName, .ref kisKept, .ref konces, .int (nI ksnapMany), .int khasCells, .ref kpoured, .ref kfar, .ref ksides, .int (nI ksideMany), .int kwayDays, .int khasWay, .ref klines, .ref kmet, .int (nI kmetMany), .ref ksunk, .ref ktrying, .int (nI ksunkMany), .int ksending, .int kfleetsG, .ref ktext, .int (nI ktexts), .int kseed, .ref kline, .ref kwritten, .int (nI klineMany), .int khasWritten, .ref knode, .int (nI knodes), .int (nI konesMany), .int (nI kwithin), .int (nI ktop)])), (know, .inl (ky 0, 373, .inl knowF))]) (va_A [(o, .inr (12, [.int kthrown, .ref ktape, .int (nI ktaped), .int (nI ksize), .int (nI klimit), .int (nI kto), .int (nI kfrom), .int kkind, .int knumber, .int ksign, .int kfault, .int kplace, .long kword, .int ktold, .ref know, .ref kread, .ref kkept, .ref ksnaps, .ref kaside, .ref kname, .ref kreadName, .ref kkeptName, .ref kisKept, .ref konces, .int (nI ksnapMany), .int khasCells, .ref kpoured, .ref kfar, .ref ksides, .int (nI ksideMany), .int kwayDays, .int khasWay, .ref klines, .ref kmet, .int (nI kmetMany), .ref ksunk, .ref ktrying, .int (nI ksunkMany), .int ksending, .int kfleets, .ref ktext, .int (nI ktexts), .int kseed, .ref kline, .ref kwritten, .int (nI klineMany), .int khasWritten, .ref knode, .int (nI knodes), .int (nI konesMany), .int (nI kwithin), .int (nI ktop)])), (know, .inl (ky 0, 373, .inl knowF))] sz)) (va_A [(o, .inr (12, [.int kthrown, .ref ktape, .int (nI ktaped), .int (nI ksize), .int (nI klimit), .int (nI kto), .int (nI kfrom), .int kkind, .int knumber, .int ksign, .int kfault, .int kplace, .long kword, .int ktold, .ref know, .ref kread, .ref kkept, .ref ksnaps, .ref kaside, .ref kname, .ref kreadName, .ref kkeptName, .ref kisKept, .ref konces, .int (nI ksnapMany), .int khasCells, .ref kpoured, .ref kfar, .ref ksides, .int (nI ksideMany), .int kwayDays, .int khasWay, .ref klines, .ref kmet, .int (nI kmetMany), .ref ksunk, .ref ktrying, .int (nI ksunkMany), .int ksending, .int kfleets, .ref ktext, .int (nI ktexts), .int kseed, .ref kline, .ref kwritten, .int (nI klineMany), .int khasWritten, .ref knode, .int (nI knodes), .int (nI konesMany), .int (nI kwithin), .int (nI ktop)])), (know, .inl (ky 0, 373, .inl knowF))] sz)) 0 0 (va_A [(o, .inr (12, [.int kthrown, .ref ktape, .int (nI ktaped), .int (nI ksize), .int (nI klimit), .int (nI kto), .int (nI kfrom), .int kkind, .int knumber, .int ksign, .int kfault, .int kplace, .long kword, .int ktold, .ref know, .ref kread, .ref kkept, .ref ksnaps, .ref kaside, .ref kname, .ref kreadName, .ref kkeptName, .ref kisKept, .ref konces, .int (nI ksnapMany), .int khasCells, .ref kpoured, .ref kfar, .ref ksides, .int (nI ksideMany), .int kwayDays, .int khasWay, .ref klines, .ref kmet, .int (nI kmetMany), .ref ksunk, .ref ktrying, .int (nI ksunkMany), .int ksending, .int kfleets, .ref ktext, .int (nI ktexts), .int kseed, .ref kline, .ref kwritten, .int (nI klineMany), .int khasWritten, .ref knode, .int (nI knodes), .int (nI konesMany), .int (nI kwithin), .int (nI ktop)])), (know, .inl (ky 0, 373, .inl knowF))] sz) := by
  refine Met.ofW (cc := cX12_fleet) (maxL := 6) (ret := (some .int)) (by decide) rfl ?_
  intro p e s m args below meth c s₁ B hml hv
  obtain ⟨rfl, hsz, hP, hK, hD0⟩ := hv
  have hx := B.exec
  have hb := B.bytes
  have hr := B.returns
  have hts := atoms_spec (ws := wsX12_fleet) B.pre
  have hown : s.vm.findClass RX12 = some m.cls := findClass_of_methodNamed B.named
  have hlocks := B.notSynchronized
  have hin12 : ∀ w ∈ u_ws RX12 TX12 52, w ∈ wsX12_fleet := by decide +kernel
  subst hsz
  have hD := hD0.self (sz := s.heap.size)
  generalize hAe : va_A [(o, .inr (12, [.int kthrown, .ref ktape, .int (nI ktaped), .int (nI ksize), .int (nI klimit), .int (nI kto), .int (nI kfrom), .int kkind, .int knumber, .int ksign, .int kfault, .int kplace, .long kword, .int ktold, .ref know, .ref kread, .ref kkept, .ref ksnaps, .ref kaside, .ref kname, .ref kreadName, .ref kkeptName, .ref kisKept, .ref konces, .int (nI ksnapMany), .int khasCells, .ref kpoured, .ref kfar, .ref ksides, .int (nI ksideMany), .int kwayDays, .int khasWay, .ref klines, .ref kmet, .int (nI kmetMany), .ref ksunk, .ref ktrying, .int (nI ksunkMany), .int ksending, .int kfleets, .ref ktext, .int (nI ktexts), .int kseed, .ref kline, .ref kwritten, .int (nI klineMany), .int khasWritten, .ref knode, .int (nI knodes), .int (nI konesMany), .int (nI kwithin), .int (nI ktop)])), (know, .inl (ky 0, 373, .inl knowF))] s.heap.size = A at hD ⊢
  have hA : ∀ q : Nat, s.heap.size ≤ q → A q := fun q h => by rw [← hAe]; exact Or.inr h
  have hS : va_S A s.heap s.heap [] := va_S.rf
  have hl := lv_entry ([.ref o, .int x]) (n := 6) (Nat.le_of_ble_eq_true rfl)
  rw [lg_entry_eq]
  generalize (lg_sl ([.ref o, .int x]) ++ List.replicate (6 - (lg_sl ([.ref o, .int x])).length) Slot.unset).toArray = ls at hl ⊢
  have hl : lv_has ls 6 [(0, .ref o), (1, .int x)] := hl
  refine q_name (fun Q hQ => ?_)
  generalize ([.ref o, .int x] : List Value).toArray = args at hts hQ ⊢
  refine lv_aload_n hx hb dX12_fleet_0 rfl (lv_at hl 0 rfl) ?_
  refine lv_iconst (v := nI 0) hx hb dX12_fleet_1 (by decide) ?_
  refine va_put (D := (dC, dI)) (ci := 12) (v := .int (nI 0)) (ty := .int) (C := RX12) (T := TX12) (N := 52) hx hb hts hin12 tyX12 tyX12_ok nmX12 hown hK hP hD hS 0 rfl rfl 0 (by decide) (hts (.fieldLink RX12 1 "PorridgeSeaModel" "thrown" "I") (List.mem_of_getElem? (i := 1) rfl)) (fun _ h9 => h9) rfl (by decide +kernel) rfl rfl (Nat.le_of_ble_eq_true rfl) dX12_fleet_2 (fun H locs hP hD hS => ?_)
  have hP : va_P (dC, dI) vwCl [(o, .inr (12, [.int (nI 0), .ref ktape, .int (nI ktaped), .int (nI ksize), .int (nI klimit), .int (nI kto), .int (nI kfrom), .int kkind, .int knumber, .int ksign, .int kfault, .int kplace, .long kword, .int ktold, .ref know, .ref kread, .ref kkept, .ref ksnaps, .ref kaside, .ref kname, .ref kreadName, .ref kkeptName, .ref kisKept, .ref konces, .int (nI ksnapMany), .int khasCells, .ref kpoured, .ref kfar, .ref ksides, .int (nI ksideMany), .int kwayDays, .int khasWay, .ref klines, .ref kmet, .int (nI kmetMany), .ref ksunk, .ref ktrying, .int (nI ksunkMany), .int ksending, .int kfleets, .ref ktext, .int (nI ktexts), .int kseed, .ref kline, .ref kwritten, .int (nI klineMany), .int khasWritten, .ref knode, .int (nI knodes), .int (nI konesMany), .int (nI kwithin), .int (nI ktop)])), (know, .inl (ky 0, 373, .inl knowF))] H := hP
  have hD : va_D A [(o, .inr (12, [.int (nI 0), .ref ktape, .int (nI ktaped), .int (nI ksize), .int (nI klimit), .int (nI kto), .int (nI kfrom), .int kkind, .int knumber, .int ksign, .int kfault, .int kplace, .long kword, .int ktold, .ref know, .ref kread, .ref kkept, .ref ksnaps, .ref kaside, .ref kname, .ref kreadName, .ref kkeptName, .ref kisKept, .ref konces, .int (nI ksnapMany), .int khasCells, .ref kpoured, .ref kfar, .ref ksides, .int (nI ksideMany), .int kwayDays, .int khasWay, .ref klines, .ref kmet, .int (nI kmetMany), .ref ksunk, .ref ktrying, .int (nI ksunkMany), .int ksending, .int kfleets, .ref ktext, .int (nI ktexts), .int kseed, .ref kline, .ref kwritten, .int (nI klineMany), .int khasWritten, .ref knode, .int (nI knodes), .int (nI konesMany), .int (nI kwithin), .int (nI ktop)])), (know, .inl (ky 0, 373, .inl knowF))] := hD
  refine lv_iload_n hx hb dX12_fleet_5 rfl (lv_at hl 1 rfl) ?_
  refine lv_iconst (v := nI 1) hx hb dX12_fleet_6 (by decide) ?_
  refine lv_bipush (v := nI 54) hx hb dX12_fleet_7 (by decide) ?_
  refine vp_callSi (W.runS (As := [.int x, .int (nI 1), .int (nI 54)]) (rest := []) ⟨hx, hb, hml, hown, hts⟩ (c_x_isIn l dC dI ky x (nI 1) (nI 54)) (va_cwS 3 hts gX12_fleet_X12_isIn rfl rfl rfl (by decide +kernel) ⟨(Nat.le_of_ble_eq_true rfl), (Nat.le_of_ble_eq_true rfl)⟩) (pre_PS hK hP [] rfl) rfl rfl hl.1 rfl (lv_room (Nat.le_of_ble_eq_true rfl)) dX12_fleet_9 ⟨(Nat.le_of_ble_eq_true rfl), (Nat.le_of_ble_eq_true rfl)⟩) (fun r1 p2 => ?_)
  rcases p2 with ⟨rfl, t3, t4⟩ | ⟨rfl, t5⟩
  · refine lv_if_ne (tgt := 17) hx hb dX12_fleet_12 (by decide) (fun c6 => ?_) (fun c6 => absurd c6 (by decide))
    refine lv_iconst (v := (-1 : Int32)) hx hb dX12_fleet_17 (by decide) ?_
    refine lv_istore_n (lv' := [(2, .int (-1 : Int32)), (0, .ref o), (1, .int x)]) hx hb dX12_fleet_18 rfl hl (by decide) rfl (fun ls hl => ?_)
    refine lv_iconst (v := nI 1) hx hb dX12_fleet_19 (by decide) ?_
    refine lv_aload_n hx hb dX12_fleet_20 rfl (lv_at hl 1 rfl) ?_
    refine va_get (D := (dC, dI)) (ci := 12) (v := .ref know) (C := RX12) (T := TX12) (N := 52) hx hb hts hin12 hown hK hP 0 rfl rfl 14 (by decide) (hts (.fieldLink RX12 98 "PorridgeSeaModel" "now" "[I") (List.mem_of_getElem? (i := 2) rfl)) (fun _ h9 => h9) rfl dX12_fleet_21 ?_
    refine lv_iconst (v := nI 3) hx hb dX12_fleet_24 (by decide) ?_
    obtain ⟨y7, e8⟩ : ∃ z9, z9 = knowF 3 := ⟨_, rfl⟩
    refine r_iald hx hb hK hP 1 rfl 3 (by decide) (by decide) y7 e8.symm dX12_fleet_25 ?_
    obtain ⟨b9, b10⟩ : (0 : Int) ≤ y7.toInt ∧ y7.toInt ≤ 6 := by rw [e8]; exact ld_NB_3 ab_now 3 (by decide) (by decide)
    refine lv_ishl hx hb dX12_fleet_26 ?_
    refine lv_topi (fun y11 e12 => ?_)
    refine lv_iconst (v := nI 1) hx hb dX12_fleet_27 (by decide) ?_
    refine lv_isub hx hb dX12_fleet_28 ?_
    refine lv_topi (fun y13 e14 => ?_)
    refine lv_istore_n (lv' := [(3, .int y13), (2, .int (-1 : Int32)), (0, .ref o), (1, .int x)]) hx hb dX12_fleet_29 rfl hl (by decide) rfl (fun ls hl => ?_)
    have hL19 : ∀ (n20 : Nat) (x17 : Int32) (x18 : Int32), x17.toInt.toNat < n20 → ∀ (H : Heap) (locs : List Loc) (ls : Array Slot), va_P (dC, dI) vwCl [(o, .inr (12, [.int (nI 0), .ref ktape, .int (nI ktaped), .int (nI ksize), .int (nI klimit), .int (nI kto), .int (nI kfrom), .int kkind, .int knumber, .int ksign, .int kfault, .int kplace, .long kword, .int ktold, .ref know, .ref kread, .ref kkept, .ref ksnaps, .ref kaside, .ref kname, .ref kreadName, .ref kkeptName, .ref kisKept, .ref konces, .int (nI ksnapMany), .int khasCells, .ref kpoured, .ref kfar, .ref ksides, .int (nI ksideMany), .int kwayDays, .int khasWay, .ref klines, .ref kmet, .int (nI kmetMany), .ref ksunk, .ref ktrying, .int (nI ksunkMany), .int ksending, .int kfleets, .ref ktext, .int (nI ktexts), .int kseed, .ref kline, .ref kwritten, .int (nI klineMany), .int khasWritten, .ref knode, .int (nI knodes), .int (nI konesMany), .int (nI kwithin), .int (nI ktop)])), (know, .inl (ky 0, 373, .inl knowF))] H → va_D A [(o, .inr (12, [.int (nI 0), .ref ktape, .int (nI ktaped), .int (nI ksize), .int (nI klimit), .int (nI kto), .int (nI kfrom), .int kkind, .int knumber, .int ksign, .int kfault, .int kplace, .long kword, .int ktold, .ref know, .ref kread, .ref kkept, .ref ksnaps, .ref kaside, .ref kname, .ref kreadName, .ref kkeptName, .ref kisKept, .ref konces, .int (nI ksnapMany), .int khasCells, .ref kpoured, .ref kfar, .ref ksides, .int (nI ksideMany), .int kwayDays, .int khasWay, .ref klines, .ref kmet, .int (nI kmetMany), .ref ksunk, .ref ktrying, .int (nI ksunkMany), .int ksending, .int kfleets, .ref ktext, .int (nI ktexts), .int kseed, .ref kline, .ref kwritten, .int (nI klineMany), .int khasWritten, .ref knode, .int (nI knodes), .int (nI konesMany), .int (nI kwithin), .int (nI ktop)])), (know, .inl (ky 0, 373, .inl knowF))] → va_S A s.heap H locs → lv_has ls 6 [(3, .int x17), (2, .int x18), (0, .ref o), (1, .int x)] → W p l e (headSpec wsX12_fleet ({ frames := 2, cells := 0, slots := 0, locals := 43 })).room s m args below meth c H locs 0 0 Q (F0 m 30 ls []) := by
      intro n20
      induction n20 with
      | zero => intro x17 x18 h9; exact absurd h9 (Nat.not_lt_zero _)
      | succ n20 ih21 =>
        intro x17 x18 hm22 H locs ls hP hD hS hl
        refine lv_iload_n hx hb dX12_fleet_30 rfl (lv_at hl 0 rfl) ?_
        refine lv_if_le (tgt := 116) hx hb dX12_fleet_31 (by decide) (fun c23 => ?_) (fun c23 => ?_)
        · refine lv_iload_n hx hb dX12_fleet_116 rfl (lv_at hl 1 rfl) ?_
          refine lv_iconst (v := (-1 : Int32)) hx hb dX12_fleet_117 (by decide) ?_
          refine lv_icmp_ne (tgt := 123) hx hb dX12_fleet_118 (by decide) (fun c24 => ?_) (fun c24 => ?_)
          · refine lv_aload_n hx hb dX12_fleet_123 rfl (lv_at hl 2 rfl) ?_
            refine lv_iload_n hx hb dX12_fleet_124 rfl (lv_at hl 1 rfl) ?_
            refine va_put (D := (dC, dI)) (ci := 12) (v := .int x18) (ty := .int) (C := RX12) (T := TX12) (N := 52) hx hb hts hin12 tyX12 tyX12_ok nmX12 hown hK hP hD hS 0 rfl rfl 39 (by decide) (hts (.fieldLink RX12 157 "PorridgeSeaModel" "fleets" "I") (List.mem_of_getElem? (i := 3) rfl)) (fun _ h9 => h9) rfl (by decide +kernel) rfl rfl (Nat.le_of_ble_eq_true rfl) dX12_fleet_125 (fun H locs hP hD hS => ?_)
            have hP : va_P (dC, dI) vwCl [(o, .inr (12, [.int (nI 0), .ref ktape, .int (nI ktaped), .int (nI ksize), .int (nI klimit), .int (nI kto), .int (nI kfrom), .int kkind, .int knumber, .int ksign, .int kfault, .int kplace, .long kword, .int ktold, .ref know, .ref kread, .ref kkept, .ref ksnaps, .ref kaside, .ref kname, .ref kreadName, .ref kkeptName, .ref kisKept, .ref konces, .int (nI ksnapMany), .int khasCells, .ref kpoured, .ref kfar, .ref ksides, .int (nI ksideMany), .int kwayDays, .int khasWay, .ref klines, .ref kmet, .int (nI kmetMany), .ref ksunk, .ref ktrying, .int (nI ksunkMany), .int ksending, .int x18, .ref ktext, .int (nI ktexts), .int kseed, .ref kline, .ref kwritten, .int (nI klineMany), .int khasWritten, .ref knode, .int (nI knodes), .int (nI konesMany), .int (nI kwithin), .int (nI ktop)])), (know, .inl (ky 0, 373, .inl knowF))] H := hP
            have hD : va_D A [(o, .inr (12, [.int (nI 0), .ref ktape, .int (nI ktaped), .int (nI ksize), .int (nI klimit), .int (nI kto), .int (nI kfrom), .int kkind, .int knumber, .int ksign, .int kfault, .int kplace, .long kword, .int ktold, .ref know, .ref kread, .ref kkept, .ref ksnaps, .ref kaside, .ref kname, .ref kreadName, .ref kkeptName, .ref kisKept, .ref konces, .int (nI ksnapMany), .int khasCells, .ref kpoured, .ref kfar, .ref ksides, .int (nI ksideMany), .int kwayDays, .int khasWay, .ref klines, .ref kmet, .int (nI kmetMany), .ref ksunk, .ref ktrying, .int (nI ksunkMany), .int ksending, .int x18, .ref ktext, .int (nI ktexts), .int kseed, .ref kline, .ref kwritten, .int (nI klineMany), .int khasWritten, .ref knode, .int (nI knodes), .int (nI konesMany), .int (nI kwithin), .int (nI ktop)])), (know, .inl (ky 0, 373, .inl knowF))] := hD
            refine lv_iload_n hx hb dX12_fleet_128 rfl (lv_at hl 1 rfl) ?_
            refine vp_callSi (W.runS (As := [.int x18]) (rest := []) ⟨hx, hb, hml, hown, hts⟩ (c_x_bits l dC dI ky x18) (va_cwS 1 hts gX12_fleet_X12_bits rfl rfl rfl (by decide +kernel) ⟨(Nat.le_of_ble_eq_true rfl), (Nat.le_of_ble_eq_true rfl)⟩) (pre_PS hK hP [] rfl) rfl rfl hl.1 rfl (lv_room (Nat.le_of_ble_eq_true rfl)) dX12_fleet_129 ⟨(Nat.le_of_ble_eq_true rfl), (Nat.le_of_ble_eq_true rfl)⟩) (fun r25 p26 => ?_)
            rw [hQ]
            exact W.iret (v := r25) hx hb hr (fun t9 ht9 hW9 => ⟨⟨r25, (nI 0, x18), rfl, trivial, by rw [ht9]; exact hP, va_K.moved hW9.alike hK, hD⟩, hS.F ht9⟩) hS.2.2 dX12_fleet_132
          · refine lv_iconst (v := (-1 : Int32)) hx hb dX12_fleet_121 (by decide) ?_
            rw [hQ]
            exact W.iret (v := (-1 : Int32)) hx hb hr (fun t9 ht9 hW9 => ⟨⟨(-1 : Int32), (nI 0, kfleets), rfl, trivial, by rw [ht9]; exact hP, va_K.moved hW9.alike hK, hD⟩, hS.F ht9⟩) hS.2.2 dX12_fleet_122
        · refine lv_iconst (v := nI 0) hx hb dX12_fleet_34 (by decide) ?_
          refine lv_istore (lv' := [(4, .int (nI 0)), (3, .int x17), (2, .int x18), (0, .ref o), (1, .int x)]) hx hb dX12_fleet_35 hl (by decide) rfl (fun ls hl => ?_)
          refine lv_iconst (v := nI 0) hx hb dX12_fleet_37 (by decide) ?_
          refine lv_istore (lv' := [(5, .int (nI 0)), (4, .int (nI 0)), (3, .int x17), (2, .int x18), (0, .ref o), (1, .int x)]) hx hb dX12_fleet_38 hl (by decide) rfl (fun ls hl => ?_)
          have hL36 : ∀ (n37 : Nat) (k33 : Nat) (x34 : Int32), (k33 ≤ 6) → 6 - k33 < n37 → ∀ (H : Heap) (locs : List Loc) (ls : Array Slot), va_P (dC, dI) vwCl [(o, .inr (12, [.int (nI 0), .ref ktape, .int (nI ktaped), .int (nI ksize), .int (nI klimit), .int (nI kto), .int (nI kfrom), .int kkind, .int knumber, .int ksign, .int kfault, .int kplace, .long kword, .int ktold, .ref know, .ref kread, .ref kkept, .ref ksnaps, .ref kaside, .ref kname, .ref kreadName, .ref kkeptName, .ref kisKept, .ref konces, .int (nI ksnapMany), .int khasCells, .ref kpoured, .ref kfar, .ref ksides, .int (nI ksideMany), .int kwayDays, .int khasWay, .ref klines, .ref kmet, .int (nI kmetMany), .ref ksunk, .ref ktrying, .int (nI ksunkMany), .int ksending, .int kfleets, .ref ktext, .int (nI ktexts), .int kseed, .ref kline, .ref kwritten, .int (nI klineMany), .int khasWritten, .ref knode, .int (nI knodes), .int (nI konesMany), .int (nI kwithin), .int (nI ktop)])), (know, .inl (ky 0, 373, .inl knowF))] H → va_D A [(o, .inr (12, [.int (nI 0), .ref ktape, .int (nI ktaped), .int (nI ksize), .int (nI klimit), .int (nI kto), .int (nI kfrom), .int kkind, .int knumber, .int ksign, .int kfault, .int kplace, .long kword, .int ktold, .ref know, .ref kread, .ref kkept, .ref ksnaps, .ref kaside, .ref kname, .ref kreadName, .ref kkeptName, .ref kisKept, .ref konces, .int (nI ksnapMany), .int khasCells, .ref kpoured, .ref kfar, .ref ksides, .int (nI ksideMany), .int kwayDays, .int khasWay, .ref klines, .ref kmet, .int (nI kmetMany), .ref ksunk, .ref ktrying, .int (nI ksunkMany), .int ksending, .int kfleets, .ref ktext, .int (nI ktexts), .int kseed, .ref kline, .ref kwritten, .int (nI klineMany), .int khasWritten, .ref knode, .int (nI knodes), .int (nI konesMany), .int (nI kwithin), .int (nI ktop)])), (know, .inl (ky 0, 373, .inl knowF))] → va_S A s.heap H locs → lv_has ls 6 [(5, .int (nI k33)), (4, .int x34), (3, .int x17), (2, .int x18), (0, .ref o), (1, .int x)] → W p l e (headSpec wsX12_fleet ({ frames := 2, cells := 0, slots := 0, locals := 43 })).room s m args below meth c H locs 0 0 Q (F0 m 40 ls []) := by
            intro n37
            induction n37 with
            | zero => intro k33 x34 _ h9; exact absurd h9 (Nat.not_lt_zero _)
            | succ n37 ih38 =>
              intro k33 x34 j35 hm39 H locs ls hP hD hS hl
              refine lv_iload hx hb dX12_fleet_40 (lv_at hl 0 rfl) ?_
              refine lv_bipush (v := nI 6) hx hb dX12_fleet_42 (by decide) ?_
              refine n_icmp_ge (x := k33) (y := 6) (tgt := 77) hx hb (by omega) (by omega) dX12_fleet_44 (by decide) (fun c40 => ?_) (fun c40 => ?_)
              · refine lv_iload_n hx hb dX12_fleet_77 rfl (lv_at hl 2 rfl) ?_
                refine lv_aload_n hx hb dX12_fleet_78 rfl (lv_at hl 4 rfl) ?_
                refine vp_callSi (W.runV (As := []) (rest := [.int x17]) ⟨hx, hb, hml, hown, hts⟩ (c_x_eaten l dC dI ky o (nI 0) ktape ktaped ksize klimit kto kfrom kkind knumber ksign kfault kplace kword ktold know kread kkept ksnaps kaside kname kreadName kkeptName kisKept konces ksnapMany khasCells kpoured kfar ksides ksideMany kwayDays khasWay klines kmet kmetMany ksunk ktrying ksunkMany ksending kfleets ktext ktexts kseed kline kwritten klineMany khasWritten knode knodes konesMany kwithin ktop knowF iv_ko_0 iv_ko_1 iv_ko_2 iv_ko_3 iv_ko_4 iv_ko_5 iv_ko_6 iv_ko_7 iv_ko_8 iv_ko_9 iv_ko_10 iv_ko_11 iv_ko_12 iv_ko_13 iv_ko_14 ab_now) (cwV 0 hts gX12_fleet_X12_eaten rfl rfl rfl (by decide +kernel) ⟨(Nat.le_of_ble_eq_true rfl), (Nat.le_of_ble_eq_true rfl)⟩) (pre_PV hK hP [0, 1] rfl (ci := 12) (q0 := 0) rfl rfl) rfl rfl hl.1 rfl (lv_room (Nat.le_of_ble_eq_true rfl)) dX12_fleet_79 ⟨(Nat.le_of_ble_eq_true rfl), (Nat.le_of_ble_eq_true rfl)⟩) (fun r41 p42 => ?_)
                refine lv_iand hx hb dX12_fleet_82 ?_
                refine lv_topi (fun y43 e44 => ?_)
                refine lv_if_ne (tgt := 110) hx hb dX12_fleet_83 (by decide) (fun c45 => ?_) (fun c45 => ?_)
                · obtain ⟨y46, e47⟩ : ∃ z9 : Int32, z9 = x17 + Int32.ofInt (-1) := ⟨_, rfl⟩
                  refine lv_iinc (v := y46) (lv' := [(3, .int y46), (5, .int (nI k33)), (4, .int x34), (2, .int x18), (0, .ref o), (1, .int x)]) hx hb dX12_fleet_110 hl (k := 2) rfl e47.symm (by decide) rfl (fun ls hl => ?_)
                  refine lv_goto (tgt := 30) hx hb dX12_fleet_113 (by decide) ?_
                  exact ih21 y46 x18  (lf_x_fleet_1 x17 n20 r41 y43 y46 hm22 c23 p42 e44 c45 e47) _ _ _ hP hD hS (lv_sub hl [0, 3, 4, 5] rfl)
                · refine lv_iload hx hb dX12_fleet_86 (lv_at hl 1 rfl) ?_
                  refine lv_iload_n hx hb dX12_fleet_88 rfl (lv_at hl 5 rfl) ?_
                  refine lv_icmp_lt (tgt := 110) hx hb dX12_fleet_89 (by decide) (fun c48 => ?_) (fun c48 => ?_)
                  · obtain ⟨y49, e50⟩ : ∃ z9 : Int32, z9 = x17 + Int32.ofInt (-1) := ⟨_, rfl⟩
                    refine lv_iinc (v := y49) (lv' := [(3, .int y49), (5, .int (nI k33)), (4, .int x34), (2, .int x18), (0, .ref o), (1, .int x)]) hx hb dX12_fleet_110 hl (k := 2) rfl e50.symm (by decide) rfl (fun ls hl => ?_)
                    refine lv_goto (tgt := 30) hx hb dX12_fleet_113 (by decide) ?_
                    exact ih21 y49 x18  (lf_x_fleet_2 x17 n20 r41 y43 y49 hm22 c23 p42 e44 c45 e50) _ _ _ hP hD hS (lv_sub hl [0, 3, 4, 5] rfl)
                  · refine lv_iload_n hx hb dX12_fleet_92 rfl (lv_at hl 3 rfl) ?_
                    refine lv_iconst (v := (-1 : Int32)) hx hb dX12_fleet_93 (by decide) ?_
                    refine lv_icmp_eq (tgt := 108) hx hb dX12_fleet_94 (by decide) (fun c51 => ?_) (fun c51 => ?_)
                    · refine lv_iload_n hx hb dX12_fleet_108 rfl (lv_at hl 2 rfl) ?_
                      refine lv_istore_n (lv' := [(2, .int x17), (5, .int (nI k33)), (4, .int x34), (3, .int x17), (0, .ref o), (1, .int x)]) hx hb dX12_fleet_109 rfl hl (by decide) rfl (fun ls hl => ?_)
                      obtain ⟨y52, e53⟩ : ∃ z9 : Int32, z9 = x17 + Int32.ofInt (-1) := ⟨_, rfl⟩
                      refine lv_iinc (v := y52) (lv' := [(3, .int y52), (2, .int x17), (5, .int (nI k33)), (4, .int x34), (0, .ref o), (1, .int x)]) hx hb dX12_fleet_110 hl (k := 3) rfl e53.symm (by decide) rfl (fun ls hl => ?_)
                      refine lv_goto (tgt := 30) hx hb dX12_fleet_113 (by decide) ?_
                      exact ih21 y52 x17  (lf_x_fleet_3 x17 n20 r41 y43 y52 hm22 c23 p42 e44 c45 e53) _ _ _ hP hD hS (lv_sub hl [0, 1, 4, 5] rfl)
                    · refine lv_iload_n hx hb dX12_fleet_97 rfl (lv_at hl 2 rfl) ?_
                      refine vp_callSi (W.runS (As := [.int x17]) (rest := []) ⟨hx, hb, hml, hown, hts⟩ (c_x_bits l dC dI ky x17) (va_cwS 1 hts gX12_fleet_X12_bits rfl rfl rfl (by decide +kernel) ⟨(Nat.le_of_ble_eq_true rfl), (Nat.le_of_ble_eq_true rfl)⟩) (pre_PS hK hP [] rfl) rfl rfl hl.1 rfl (lv_room (Nat.le_of_ble_eq_true rfl)) dX12_fleet_98 ⟨(Nat.le_of_ble_eq_true rfl), (Nat.le_of_ble_eq_true rfl)⟩) (fun r54 p55 => ?_)
                      refine lv_iload_n hx hb dX12_fleet_101 rfl (lv_at hl 3 rfl) ?_
                      refine vp_callSi (W.runS (As := [.int x18]) (rest := [.int r54]) ⟨hx, hb, hml, hown, hts⟩ (c_x_bits l dC dI ky x18) (va_cwS 1 hts gX12_fleet_X12_bits rfl rfl rfl (by decide +kernel) ⟨(Nat.le_of_ble_eq_true rfl), (Nat.le_of_ble_eq_true rfl)⟩) (pre_PS hK hP [] rfl) rfl rfl hl.1 rfl (lv_room (Nat.le_of_ble_eq_true rfl)) dX12_fleet_102 ⟨(Nat.le_of_ble_eq_true rfl), (Nat.le_of_ble_eq_true rfl)⟩) (fun r56 p57 => ?_)
                      refine lv_icmp_gt (tgt := 110) hx hb dX12_fleet_105 (by decide) (fun c58 => ?_) (fun c58 => ?_)
                      · obtain ⟨y59, e60⟩ : ∃ z9 : Int32, z9 = x17 + Int32.ofInt (-1) := ⟨_, rfl⟩
                        refine lv_iinc (v := y59) (lv' := [(3, .int y59), (5, .int (nI k33)), (4, .int x34), (2, .int x18), (0, .ref o), (1, .int x)]) hx hb dX12_fleet_110 hl (k := 2) rfl e60.symm (by decide) rfl (fun ls hl => ?_)
                        refine lv_goto (tgt := 30) hx hb dX12_fleet_113 (by decide) ?_
                        exact ih21 y59 x18  (lf_x_fleet_4 x17 n20 r41 y43 y59 hm22 c23 p42 e44 c45 p55 p57 e60) _ _ _ hP hD hS (lv_sub hl [0, 3, 4, 5] rfl)
                      · refine lv_iload_n hx hb dX12_fleet_108 rfl (lv_at hl 2 rfl) ?_
                        refine lv_istore_n (lv' := [(2, .int x17), (5, .int (nI k33)), (4, .int x34), (3, .int x17), (0, .ref o), (1, .int x)]) hx hb dX12_fleet_109 rfl hl (by decide) rfl (fun ls hl => ?_)
                        obtain ⟨y61, e62⟩ : ∃ z9 : Int32, z9 = x17 + Int32.ofInt (-1) := ⟨_, rfl⟩
                        refine lv_iinc (v := y61) (lv' := [(3, .int y61), (2, .int x17), (5, .int (nI k33)), (4, .int x34), (0, .ref o), (1, .int x)]) hx hb dX12_fleet_110 hl (k := 3) rfl e62.symm (by decide) rfl (fun ls hl => ?_)
                        refine lv_goto (tgt := 30) hx hb dX12_fleet_113 (by decide) ?_
                        exact ih21 y61 x17  (lf_x_fleet_5 x17 n20 r41 y43 y61 hm22 c23 p42 e44 c45 p55 p57 e62) _ _ _ hP hD hS (lv_sub hl [0, 1, 4, 5] rfl)
              · refine lv_iload_n hx hb dX12_fleet_47 rfl (lv_at hl 2 rfl) ?_
                refine lv_iload hx hb dX12_fleet_48 (lv_at hl 0 rfl) ?_
                refine vp_callSi (W.runS (As := [.int x17, .int (nI k33)]) (rest := []) ⟨hx, hb, hml, hown, hts⟩ (c_x_has l dC dI ky x17 (nI k33)) (va_cwS 2 hts gX12_fleet_X12_has rfl rfl rfl (by decide +kernel) ⟨(Nat.le_of_ble_eq_true rfl), (Nat.le_of_ble_eq_true rfl)⟩) (pre_PS hK hP [] rfl) rfl rfl hl.1 rfl (lv_room (Nat.le_of_ble_eq_true rfl)) dX12_fleet_50 ⟨(Nat.le_of_ble_eq_true rfl), (Nat.le_of_ble_eq_true rfl)⟩) (fun r63 p64 => ?_)
                refine lv_if_eq (tgt := 71) hx hb dX12_fleet_53 (by decide) (fun c65 => ?_) (fun c65 => ?_)
                · refine lv_iinc (v := nI (k33 + 1)) (lv' := [(5, .int (nI (k33 + 1))), (4, .int x34), (3, .int x17), (2, .int x18), (0, .ref o), (1, .int x)]) hx hb dX12_fleet_71 hl (k := 0) rfl (show nI k33 + nI 1 = nI (k33 + 1) from nI_add _ _) (by decide) rfl (fun ls hl => ?_)
                  refine lv_goto (tgt := 40) hx hb dX12_fleet_74 (by decide) ?_
                  exact ih38 (k33 + 1) x34 (lf_x_fleet_6 k33 n37 j35 hm39 c40) (lf_x_fleet_7 k33 n37 j35 hm39 c40) _ _ _ hP hD hS (lv_sub hl [0, 1, 2, 3, 4, 5] rfl)
                · refine lv_iload hx hb dX12_fleet_56 (lv_at hl 1 rfl) ?_
                  refine lv_aload_n hx hb dX12_fleet_58 rfl (lv_at hl 4 rfl) ?_
                  refine va_get (D := (dC, dI)) (ci := 12) (v := .ref know) (C := RX12) (T := TX12) (N := 52) hx hb hts hin12 hown hK hP 0 rfl rfl 14 (by decide) (hts (.fieldLink RX12 98 "PorridgeSeaModel" "now" "[I") (List.mem_of_getElem? (i := 2) rfl)) (fun _ h9 => h9) rfl dX12_fleet_59 ?_
                  refine lv_bipush (v := nI 55) hx hb dX12_fleet_62 (by decide) ?_
                  refine lv_iload hx hb dX12_fleet_64 (lv_at hl 0 rfl) ?_
                  refine lv_iadd hx hb dX12_fleet_66 ?_
                  refine r_ti (nI (55 + k33)) (nI_add _ _) ?_
                  obtain ⟨y66, e67⟩ : ∃ z9, z9 = knowF (55 + k33) := ⟨_, rfl⟩
                  refine r_iald hx hb hK hP 1 rfl (55 + k33) (lf_x_fleet_8 knowF y7 y11 y13 k33 n37 y66 ab_now e8 b9 b10 e12 e14 j35 hm39 c40 e67) (by decide) y66 e67.symm dX12_fleet_67 ?_
                  refine lv_iadd hx hb dX12_fleet_68 ?_
                  refine lv_topi (fun y68 e69 => ?_)
                  refine lv_istore (lv' := [(4, .int y68), (5, .int (nI k33)), (3, .int x17), (2, .int x18), (0, .ref o), (1, .int x)]) hx hb dX12_fleet_69 hl (by decide) rfl (fun ls hl => ?_)
                  refine lv_iinc (v := nI (k33 + 1)) (lv' := [(5, .int (nI (k33 + 1))), (4, .int y68), (3, .int x17), (2, .int x18), (0, .ref o), (1, .int x)]) hx hb dX12_fleet_71 hl (k := 1) rfl (show nI k33 + nI 1 = nI (k33 + 1) from nI_add _ _) (by decide) rfl (fun ls hl => ?_)
                  refine lv_goto (tgt := 40) hx hb dX12_fleet_74 (by decide) ?_
                  exact ih38 (k33 + 1) y68 (lf_x_fleet_9 knowF y7 y11 y13 k33 x34 n37 y66 y68 ab_now e8 b9 b10 e12 e14 j35 hm39 c40 e67 e69) (lf_x_fleet_10 knowF y7 y11 y13 k33 x34 n37 y66 y68 ab_now e8 b9 b10 e12 e14 j35 hm39 c40 e67 e69) _ _ _ hP hD hS (lv_sub hl [0, 1, 2, 3, 4, 5] rfl)
          exact hL36 ((6 - 0) + 1) 0 (nI 0) (lf_x_fleet_11) (Nat.lt_succ_self _) _ _ _ hP hD hS (lv_sub hl [0, 1, 2, 3, 4, 5] rfl)
    exact hL19 (y13.toInt.toNat + 1) y13 (-1 : Int32)  (Nat.lt_succ_self _) _ _ _ hP hD hS (lv_sub hl [0, 1, 2, 3] rfl)
  · refine lv_if_ne (tgt := 17) hx hb dX12_fleet_12 (by decide) (fun c70 => absurd c70 (by decide)) (fun c70 => ?_)
    refine lv_iconst (v := (-1 : Int32)) hx hb dX12_fleet_15 (by decide) ?_
    rw [hQ]
    exact W.iret (v := (-1 : Int32)) hx hb hr (fun t9 ht9 hW9 => ⟨⟨(-1 : Int32), (nI 0, kfleets), rfl, trivial, by rw [ht9]; exact hP, va_K.moved hW9.alike hK, hD⟩, hS.F ht9⟩) hS.2.2 dX12_fleet_16
