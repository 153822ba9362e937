theorem dX12_meets_0 : decode cX12_meets 0 = .ok (.iload_n 3, 1) := by decide +kernel
theorem dX12_meets_1 : decode cX12_meets 1 = .ok (.iload 4, 2) := by decide +kernel
theorem dX12_meets_3 : decode cX12_meets 3 = .ok (.if_icmp .ne 9, 3) := by decide +kernel
theorem dX12_meets_6 : decode cX12_meets 6 = .ok (.iload_n 1, 1) := by decide +kernel
theorem dX12_meets_7 : decode cX12_meets 7 = .ok (.iload_n 2, 1) := by decide +kernel
theorem dX12_meets_8 : decode cX12_meets 8 = .ok (.invokestatic 329, 3) := by decide +kernel
theorem dX12_meets_11 : decode cX12_meets 11 = .ok (.ireturn, 1) := by decide +kernel
theorem dX12_meets_12 : decode cX12_meets 12 = .ok (.iconst 0, 1) := by decide +kernel
theorem dX12_meets_13 : decode cX12_meets 13 = .ok (.istore 5, 2) := by decide +kernel
theorem dX12_meets_15 : decode cX12_meets 15 = .ok (.iload 5, 2) := by decide +kernel
theorem dX12_meets_17 : decode cX12_meets 17 = .ok (.bipush 24, 2) := by decide +kernel
theorem dX12_meets_19 : decode cX12_meets 19 = .ok (.if_icmp .ge 57, 3) := by decide +kernel
theorem dX12_meets_22 : decode cX12_meets 22 = .ok (.aload_n 0, 1) := by decide +kernel
theorem dX12_meets_23 : decode cX12_meets 23 = .ok (.iload 5, 2) := by decide +kernel
theorem dX12_meets_25 : decode cX12_meets 25 = .ok (.invokevirtual 332, 3) := by decide +kernel
theorem dX12_meets_28 : decode cX12_meets 28 = .ok (.ifCond .ne 6, 3) := by decide +kernel
theorem dX12_meets_34 : decode cX12_meets 34 = .ok (.aload_n 0, 1) := by decide +kernel
theorem dX12_meets_35 : decode cX12_meets 35 = .ok (.getfield 142, 3) := by decide +kernel
theorem dX12_meets_38 : decode cX12_meets 38 = .ok (.iload_n 3, 1) := by decide +kernel
theorem dX12_meets_39 : decode cX12_meets 39 = .ok (.iload 5, 2) := by decide +kernel
theorem dX12_meets_41 : decode cX12_meets 41 = .ok (.iastore, 1) := by decide +kernel
theorem dX12_meets_42 : decode cX12_meets 42 = .ok (.aload_n 0, 1) := by decide +kernel
theorem dX12_meets_43 : decode cX12_meets 43 = .ok (.aload_n 0, 1) := by decide +kernel
theorem dX12_meets_44 : decode cX12_meets 44 = .ok (.iload_n 1, 1) := by decide +kernel
theorem dX12_meets_45 : decode cX12_meets 45 = .ok (.iload 5, 2) := by decide +kernel
theorem dX12_meets_47 : decode cX12_meets 47 = .ok (.invokevirtual 282, 3) := by decide +kernel
theorem dX12_meets_50 : decode cX12_meets 50 = .ok (.aload_n 0, 1) := by decide +kernel
theorem dX12_meets_51 : decode cX12_meets 51 = .ok (.iload_n 2, 1) := by decide +kernel
theorem dX12_meets_52 : decode cX12_meets 52 = .ok (.iload 5, 2) := by decide +kernel
theorem dX12_meets_54 : decode cX12_meets 54 = .ok (.invokevirtual 282, 3) := by decide +kernel
theorem dX12_meets_57 : decode cX12_meets 57 = .ok (.iload_n 3, 1) := by decide +kernel
theorem dX12_meets_58 : decode cX12_meets 58 = .ok (.iconst 1, 1) := by decide +kernel
theorem dX12_meets_59 : decode cX12_meets 59 = .ok (.iadd, 1) := by decide +kernel
theorem dX12_meets_60 : decode cX12_meets 60 = .ok (.iload 4, 2) := by decide +kernel
theorem dX12_meets_62 : decode cX12_meets 62 = .ok (.invokevirtual 335, 3) := by decide +kernel
theorem dX12_meets_65 : decode cX12_meets 65 = .ok (.ifCond .eq 5, 3) := by decide +kernel
theorem dX12_meets_70 : decode cX12_meets 70 = .ok (.iinc 5 1, 3) := by decide +kernel
theorem dX12_meets_73 : decode cX12_meets 73 = .ok (.goto (-58), 3) := by decide +kernel
theorem dX12_meets_68 : decode cX12_meets 68 = .ok (.iconst 1, 1) := by decide +kernel
theorem dX12_meets_69 : decode cX12_meets 69 = .ok (.ireturn, 1) := by decide +kernel
theorem dX12_meets_31 : decode cX12_meets 31 = .ok (.goto 39, 3) := by decide +kernel
theorem dX12_meets_76 : decode cX12_meets 76 = .ok (.iconst 0, 1) := by decide +kernel
theorem dX12_meets_77 : decode cX12_meets 77 = .ok (.ireturn, 1) := by decide +kernel
theorem dX12_meet_0 : decode cX12_meet 0 = .ok (.aload_n 0, 1) := by decide +kernel
theorem dX12_meet_1 : decode cX12_meet 1 = .ok (.iconst 0, 1) := by decide +kernel
theorem dX12_meet_2 : decode cX12_meet 2 = .ok (.putfield 1, 3) := by decide +kernel
theorem dX12_meet_5 : decode cX12_meet 5 = .ok (.aload_n 0, 1) := by decide +kernel
theorem dX12_meet_6 : decode cX12_meet 6 = .ok (.iload_n 1, 1) := by decide +kernel
theorem dX12_meet_7 : decode cX12_meet 7 = .ok (.invokevirtual 260, 3) := by decide +kernel
theorem dX12_meet_10 : decode cX12_meet 10 = .ok (.ifCond .eq 19, 3) := by decide +kernel
theorem dX12_meet_13 : decode cX12_meet 13 = .ok (.aload_n 0, 1) := by decide +kernel
theorem dX12_meet_14 : decode cX12_meet 14 = .ok (.iload_n 2, 1) := by decide +kernel
theorem dX12_meet_15 : decode cX12_meet 15 = .ok (.invokevirtual 257, 3) := by decide +kernel
theorem dX12_meet_18 : decode cX12_meet 18 = .ok (.ifCond .eq 11, 3) := by decide +kernel
theorem dX12_meet_21 : decode cX12_meet 21 = .ok (.aload_n 0, 1) := by decide +kernel
theorem dX12_meet_22 : decode cX12_meet 22 = .ok (.iload_n 1, 1) := by decide +kernel
theorem dX12_meet_23 : decode cX12_meet 23 = .ok (.invokevirtual 246, 3) := by decide +kernel
theorem dX12_meet_26 : decode cX12_meet 26 = .ok (.ifCond .eq 5, 3) := by decide +kernel
theorem dX12_meet_31 : decode cX12_meet 31 = .ok (.iconst 0, 1) := by decide +kernel
theorem dX12_meet_32 : decode cX12_meet 32 = .ok (.istore_n 3, 1) := by decide +kernel
theorem dX12_meet_33 : decode cX12_meet 33 = .ok (.iload_n 3, 1) := by decide +kernel
theorem dX12_meet_34 : decode cX12_meet 34 = .ok (.iconst 3, 1) := by decide +kernel
theorem dX12_meet_35 : decode cX12_meet 35 = .ok (.if_icmp .gt 75, 3) := by decide +kernel
theorem dX12_meet_38 : decode cX12_meet 38 = .ok (.aload_n 0, 1) := by decide +kernel
theorem dX12_meet_39 : decode cX12_meet 39 = .ok (.aload_n 0, 1) := by decide +kernel
theorem dX12_meet_40 : decode cX12_meet 40 = .ok (.getfield 98, 3) := by decide +kernel
theorem dX12_meet_43 : decode cX12_meet 43 = .ok (.bipush 113, 2) := by decide +kernel
theorem dX12_meet_45 : decode cX12_meet 45 = .ok (.iload_n 1, 1) := by decide +kernel
theorem dX12_meet_46 : decode cX12_meet 46 = .ok (.iadd, 1) := by decide +kernel
theorem dX12_meet_47 : decode cX12_meet 47 = .ok (.iaload, 1) := by decide +kernel
theorem dX12_meet_48 : decode cX12_meet 48 = .ok (.aload_n 0, 1) := by decide +kernel
theorem dX12_meet_49 : decode cX12_meet 49 = .ok (.getfield 98, 3) := by decide +kernel
theorem dX12_meet_52 : decode cX12_meet 52 = .ok (.bipush 107, 2) := by decide +kernel
theorem dX12_meet_54 : decode cX12_meet 54 = .ok (.iload_n 2, 1) := by decide +kernel
theorem dX12_meet_55 : decode cX12_meet 55 = .ok (.iadd, 1) := by decide +kernel
theorem dX12_meet_56 : decode cX12_meet 56 = .ok (.iaload, 1) := by decide +kernel
theorem dX12_meet_57 : decode cX12_meet 57 = .ok (.iconst 0, 1) := by decide +kernel
theorem dX12_meet_58 : decode cX12_meet 58 = .ok (.iload_n 3, 1) := by decide +kernel
theorem dX12_meet_59 : decode cX12_meet 59 = .ok (.invokevirtual 335, 3) := by decide +kernel
theorem dX12_meet_62 : decode cX12_meet 62 = .ok (.ifCond .ne 6, 3) := by decide +kernel
theorem dX12_meet_68 : decode cX12_meet 68 = .ok (.iconst 0, 1) := by decide +kernel
theorem dX12_meet_69 : decode cX12_meet 69 = .ok (.istore 4, 2) := by decide +kernel
theorem dX12_meet_71 : decode cX12_meet 71 = .ok (.iload 4, 2) := by decide +kernel
theorem dX12_meet_73 : decode cX12_meet 73 = .ok (.iload_n 3, 1) := by decide +kernel
theorem dX12_meet_74 : decode cX12_meet 74 = .ok (.if_icmp .ge 23, 3) := by decide +kernel
theorem dX12_meet_97 : decode cX12_meet 97 = .ok (.aload_n 0, 1) := by decide +kernel
theorem dX12_meet_98 : decode cX12_meet 98 = .ok (.iload_n 3, 1) := by decide +kernel
theorem dX12_meet_99 : decode cX12_meet 99 = .ok (.putfield 339, 3) := by decide +kernel
theorem dX12_meet_102 : decode cX12_meet 102 = .ok (.iload_n 3, 1) := by decide +kernel
theorem dX12_meet_103 : decode cX12_meet 103 = .ok (.ireturn, 1) := by decide +kernel
theorem dX12_meet_65 : decode cX12_meet 65 = .ok (.goto 39, 3) := by decide +kernel
theorem dX12_meet_104 : decode cX12_meet 104 = .ok (.iinc 3 1, 3) := by decide +kernel
theorem dX12_meet_107 : decode cX12_meet 107 = .ok (.goto (-74), 3) := by decide +kernel
theorem dX12_meet_110 : decode cX12_meet 110 = .ok (.iconst (-1), 1) := by decide +kernel
theorem dX12_meet_111 : decode cX12_meet 111 = .ok (.ireturn, 1) := by decide +kernel
theorem dX12_meet_77 : decode cX12_meet 77 = .ok (.aload_n 0, 1) := by decide +kernel
theorem dX12_meet_78 : decode cX12_meet 78 = .ok (.getfield 145, 3) := by decide +kernel
theorem dX12_meet_81 : decode cX12_meet 81 = .ok (.iload 4, 2) := by decide +kernel
theorem dX12_meet_83 : decode cX12_meet 83 = .ok (.aload_n 0, 1) := by decide +kernel
theorem dX12_meet_84 : decode cX12_meet 84 = .ok (.getfield 142, 3) := by decide +kernel
theorem dX12_meet_87 : decode cX12_meet 87 = .ok (.iload 4, 2) := by decide +kernel
theorem dX12_meet_89 : decode cX12_meet 89 = .ok (.iaload, 1) := by decide +kernel
theorem dX12_meet_90 : decode cX12_meet 90 = .ok (.iastore, 1) := by decide +kernel
theorem dX12_meet_91 : decode cX12_meet 91 = .ok (.iinc 4 1, 3) := by decide +kernel
theorem dX12_meet_94 : decode cX12_meet 94 = .ok (.goto (-23), 3) := by decide +kernel
theorem dX12_meet_29 : decode cX12_meet 29 = .ok (.iconst (-1), 1) := by decide +kernel
theorem dX12_meet_30 : decode cX12_meet 30 = .ok (.ireturn, 1) := by decide +kernel
set_option maxRecDepth 100000 in
theorem ggX12_meets_X12_areNear : GoodIn wsX12_meets wsX12_areNear := goodIn_r _ [5, 6, 7, 4, 8] rfl (by decide +kernel)
set_option maxRecDepth 100000 in
theorem ggX12_meets_X12_isLine : GoodIn wsX12_meets wsX12_isLine := goodIn_r _ [12, 13, 21, 22, 23, 24, 25, 26, 27, 28, 29, 30, 31, 32, 33, 34, 35, 36, 37, 38, 39, 40, 41, 42, 43, 44, 45, 46, 47, 48, 49, 50, 51, 52, 53, 54, 55, 56, 57, 58, 59, 60, 61, 62, 63, 64, 65, 66, 67, 68, 69, 70, 71, 72] rfl (by decide +kernel)
set_option maxRecDepth 100000 in
theorem ggX12_meets_X12_stirred : GoodIn wsX12_meets wsX12_stirred := goodIn_r _ [17, 13, 21, 22, 23, 24, 25, 26, 27, 28, 29, 30, 31, 32, 33, 34, 35, 36, 37, 38, 39, 40, 41, 42, 43, 44, 45, 46, 47, 48, 49, 50, 51, 52, 53, 54, 55, 56, 57, 58, 59, 60, 61, 62, 63, 64, 65, 66, 67, 68, 69, 70, 71, 72] rfl (by decide +kernel)
set_option maxRecDepth 100000 in
theorem ggX12_meets_X12_meets : GoodIn wsX12_meets wsX12_meets := goodIn_r _ [0, 1, 2, 3, 4, 5, 6, 7, 8, 9, 10, 11, 12, 13, 14, 15, 16, 17, 18, 19, 20, 21, 22, 23, 24, 25, 26, 27, 28, 29, 30, 31, 32, 33, 34, 35, 36, 37, 38, 39, 40, 41, 42, 43, 44, 45, 46, 47, 48, 49, 50, 51, 52, 53, 54, 55, 56, 57, 58, 59, 60, 61, 62, 63, 64, 65, 66, 67, 68, 69, 70, 71, 72] rfl (by decide +kernel)
set_option maxRecDepth 100000 in
theorem ggX12_meet_X12_isBoat : GoodIn wsX12_meet wsX12_isBoat := goodIn_r _ [10, 2, 11, 12, 9, 13, 40, 41, 42, 43, 44, 45, 46, 47, 48, 49, 50, 51, 52, 53, 54, 55, 56, 57, 58, 59, 60, 61, 62, 63, 64, 65, 66, 67, 68, 69, 70, 71, 72, 73, 74, 75, 76, 77, 78, 79, 80, 81, 82, 83, 84, 85, 86, 87, 88, 89, 90, 91] rfl (by decide +kernel)
set_option maxRecDepth 100000 in
theorem ggX12_meet_X12_isLump : GoodIn wsX12_meet wsX12_isLump := goodIn_r _ [17, 2, 11, 12, 9, 13, 40, 41, 42, 43, 44, 45, 46, 47, 48, 49, 50, 51, 52, 53, 54, 55, 56, 57, 58, 59, 60, 61, 62, 63, 64, 65, 66, 67, 68, 69, 70, 71, 72, 73, 74, 75, 76, 77, 78, 79, 80, 81, 82, 83, 84, 85, 86, 87, 88, 89, 90, 91] rfl (by decide +kernel)
set_option maxRecDepth 100000 in
theorem ggX12_meet_X12_isEaten : GoodIn wsX12_meet wsX12_isEaten := goodIn_r _ [21, 2, 40, 41, 42, 43, 44, 45, 46, 47, 48, 49, 50, 51, 52, 53, 54, 55, 56, 57, 58, 59, 60, 61, 62, 63, 64, 65, 66, 67, 68, 69, 70, 71, 72, 73, 74, 75, 76, 77, 78, 79, 80, 81, 82, 83, 84, 85, 86, 87, 88, 89, 90, 91] rfl (by decide +kernel)
set_option maxRecDepth 100000 in
theorem ggX12_meet_X12_meets : GoodIn wsX12_meet wsX12_meets := goodIn_r _ [25, 4, 26, 27, 9, 28, 29, 30, 31, 32, 33, 34, 35, 2, 36, 37, 38, 39, 22, 23, 24, 40, 41, 42, 43, 44, 45, 46, 47, 48, 49, 50, 51, 52, 53, 54, 55, 56, 57, 58, 59, 60, 61, 62, 63, 64, 65, 66, 67, 68, 69, 70, 71, 72, 73, 74, 75, 76, 77, 78, 79, 80, 81, 82, 83, 84, 85, 86, 87, 88, 89, 90, 91] rfl (by decide +kernel)
set_option maxRecDepth 100000 in
theorem gX12_meets_X12_areNear : GoodIn wsX12_meets (va_wsS RX12 329 yX12_areNear wsX12_areNear) := goodIn_app (goodIn_of _ (by decide +kernel)) ggX12_meets_X12_areNear
set_option maxRecDepth 100000 in
theorem gX12_meets_X12_isLine : GoodIn wsX12_meets (wsV RX12 332 RX12 yX12_isLine wsX12_isLine) := goodIn_app (goodIn_of _ (by decide +kernel)) ggX12_meets_X12_isLine
set_option maxRecDepth 100000 in
theorem gX12_meets_X12_stirred : GoodIn wsX12_meets (wsV RX12 282 RX12 yX12_stirred wsX12_stirred) := goodIn_app (goodIn_of _ (by decide +kernel)) ggX12_meets_X12_stirred
set_option maxRecDepth 100000 in
theorem gX12_meets_X12_meets : GoodIn wsX12_meets (wsV RX12 335 RX12 yX12_meets wsX12_meets) := goodIn_app (goodIn_of _ (by decide +kernel)) ggX12_meets_X12_meets
set_option maxRecDepth 100000 in
theorem gX12_meet_X12_isBoat : GoodIn wsX12_meet (wsV RX12 260 RX12 yX12_isBoat wsX12_isBoat) := goodIn_app (goodIn_of _ (by decide +kernel)) ggX12_meet_X12_isBoat
set_option maxRecDepth 100000 in
theorem gX12_meet_X12_isLump : GoodIn wsX12_meet (wsV RX12 257 RX12 yX12_isLump wsX12_isLump) := goodIn_app (goodIn_of _ (by decide +kernel)) ggX12_meet_X12_isLump
set_option maxRecDepth 100000 in
theorem gX12_meet_X12_isEaten : GoodIn wsX12_meet (wsV RX12 246 RX12 yX12_isEaten wsX12_isEaten) := goodIn_app (goodIn_of _ (by decide +kernel)) ggX12_meet_X12_isEaten
set_option maxRecDepth 100000 in
theorem gX12_meet_X12_meets : GoodIn wsX12_meet (wsV RX12 335 RX12 yX12_meets wsX12_meets) := goodIn_app (goodIn_of _ (by decide +kernel)) ggX12_meet_X12_meets
set_option maxRecDepth 20000 in
theorem lf_x_meets3_1 (r2 : Int32) (p3 : r2 = nI 0 ∨ r2 = nI 1) : narrow .boolean (.int r2) = .int r2 := by
  have h : r2 = 0 ∨ r2 = 1 := by
    have b_r2 := ia_b r2
    try have k_0 := ia_n 0 (by first | decide | omega)
    try have k_1 := ia_n 1 (by first | decide | omega)
    try simp only [ia_lt, ia_le, ia_eq, ia_m1, ia_0, ia_1, ne_eq, true_and, and_true, false_and, and_false, or_false, false_or, or_true, true_or, not_true_eq_false, not_false_eq_true] at *
    all_goals omega
  rcases h with h | h <;> rw [h] <;> rfl
set_option maxHeartbeats 4000000 in
set_option maxRecDepth 100000 in
theorem c_x_meets3 (l : Launch) (dC : Nat → ClassId) (dI : Nat → Nat → Nat) (ky : Nat → ClassId) (o : Nat) (kthrown : Int32) (ktape : Nat) (ktaped : Nat) (ksize : Nat) (klimit : Nat) (kto : Nat) (kfrom : Nat) (kkind : Int32) (knumber : Int32) (ksign : Int32) (kfault : Int32) (kplace : Int32) (kword : Int64) (ktold : Int32) (know : Nat) (kread : Nat) (kkept : Nat) (ksnaps : Nat) (kaside : Nat) (kname : Nat) (kreadName : Nat) (kkeptName : Nat) (kisKept : Nat) (konces : Nat) (ksnapMany : Nat) (khasCells : Int32) (kpoured : Nat) (kfar : Nat) (ksides : Nat) (ksideMany : Nat) (kwayDays : Int32) (khasWay : Int32) (klines : Nat) (kmet : Nat) (kmetMany : Nat) (ksunk : Nat) (ktrying : Nat) (ksunkMany : Nat) (ksending : Int32) (kfleets : Int32) (ktext : Nat) (ktexts : Nat) (kseed : Int32) (kline : Nat) (kwritten : Nat) (klineMany : Nat) (khasWritten : Int32) (knode : Nat) (knodes : Nat) (konesMany : Nat) (kwithin : Nat) (ktop : Nat) (knowF : Nat → Int32) (klinesF : Nat → Int32) (x : Int32) (y : Int32) (nq : Nat) (iv_ko_0 : ktaped ≤ 940) (iv_ko_1 : ksize ≤ 940) (iv_ko_2 : klimit ≤ 900) (iv_ko_3 : kto ≤ ksize) (iv_ko_4 : kfrom ≤ 940) (iv_ko_5 : ksnapMany ≤ 8) (iv_ko_6 : ksideMany ≤ 36) (iv_ko_7 : kmetMany ≤ 3) (iv_ko_8 : ksunkMany ≤ 36) (iv_ko_9 : ktexts ≤ 64) (iv_ko_10 : klineMany ≤ 40) (iv_ko_11 : knodes ≤ 60) (iv_ko_12 : konesMany ≤ 20) (iv_ko_13 : kwithin ≤ 8) (iv_ko_14 : ktop ≤ 59) (ab_now : NB knowF) (hc_x : 0 ≤ x.toInt ∧ x.toInt ≤ 35) (hc_y : 0 ≤ y.toInt ∧ y.toInt ≤ 35) (hkn : 3 ≤ nq) (hn3 : nq ≤ 3) : Met l yX12_meets wsX12_meets ({ frames := 2, cells := 0, slots := 0, locals := 41 }) (PcP dC dI ky [.ref o, .int x, .int y, .int (nI 3), .int (nI nq)] [(o, .inr (12, [.int kthrown, .ref ktape, .int (nI ktaped), .int (nI ksize), .int (nI klimit), .int (nI kto), .int (nI kfrom), .int kkind, .int knumber, .int ksign, .int kfault, .int kplace, .long kword, .int ktold, .ref know, .ref kread, .ref kkept, .ref ksnaps, .ref kaside, .ref kname, .ref kreadName, .ref kkeptName, .ref kisKept, .ref konces, .int (nI ksnapMany), .int khasCells, .ref kpoured, .ref kfar, .ref ksides, .int (nI ksideMany), .int kwayDays, .int khasWay, .ref klines, .ref kmet, .int (nI kmetMany), .ref ksunk, .ref ktrying, .int (nI ksunkMany), .int ksending, .int kfleets, .ref ktext, .int (nI ktexts), .int kseed, .ref kline, .ref kwritten, .int (nI klineMany), .int khasWritten, .ref knode, .int (nI knodes), .int (nI konesMany), .int (nI kwithin), .int (nI ktop)])), (know, .inl (ky 0, 373, .inl knowF)), (klines, .inl (ky 0, 3, .inl klinesF))]) (vp_Si (fun r : Int32 => r = nI 0 ∨ r = nI 1)) 0 0 (fun _ => False) := by
  refine Met.ofW (cc := cX12_meets) (maxL := 6) (ret := (some .boolean)) (by decide) rfl ?_
  intro p e s m args below meth c s₁ B hml hv
  obtain ⟨rfl, hP, hK⟩ := hv
  have hx := B.exec
  have hb := B.bytes
  have hr := B.returns
  have hts := atoms_spec (ws := wsX12_meets) B.pre
  have hown : s.vm.findClass RX12 = some m.cls := findClass_of_methodNamed B.named
  have hlocks := B.notSynchronized
  have hl := lv_entry ([.ref o, .int x, .int y, .int (nI 3), .int (nI nq)]) (n := 6) (Nat.le_of_ble_eq_true rfl)
  rw [lg_entry_eq]
  generalize (lg_sl ([.ref o, .int x, .int y, .int (nI 3), .int (nI nq)]) ++ List.replicate (6 - (lg_sl ([.ref o, .int x, .int y, .int (nI 3), .int (nI nq)])).length) Slot.unset).toArray = ls at hl ⊢
  have hl : lv_has ls 6 [(0, .ref o), (1, .int x), (2, .int y), (3, .int (nI 3)), (4, .int (nI nq))] := hl
  refine q_name (fun Q hQ => ?_)
  generalize ([.ref o, .int x, .int y, .int (nI 3), .int (nI nq)] : List Value).toArray = args at hts hQ ⊢
  refine lv_iload_n hx hb dX12_meets_0 rfl (lv_at hl 3 rfl) ?_
  refine lv_iload hx hb dX12_meets_1 (lv_at hl 4 rfl) ?_
  refine n_icmp_ne (x := 3) (y := nq) (tgt := 12) hx hb (by omega) (by omega) dX12_meets_3 (by decide) (fun c1 => by exfalso; omega) (fun c1 => ?_)
  refine lv_iload_n hx hb dX12_meets_6 rfl (lv_at hl 1 rfl) ?_
  refine lv_iload_n hx hb dX12_meets_7 rfl (lv_at hl 2 rfl) ?_
  refine vp_callSi (W.runS (As := [.int x, .int y]) (rest := []) ⟨hx, hb, hml, hown, hts⟩ (c_x_areNear l dC dI ky x y) (va_cwS 2 hts gX12_meets_X12_areNear rfl rfl rfl (by decide +kernel) ⟨(Nat.le_of_ble_eq_true rfl), (Nat.le_of_ble_eq_true rfl)⟩) (pre_PS hK hP [] rfl) rfl rfl hl.1 rfl (lv_room (Nat.le_of_ble_eq_true rfl)) dX12_meets_8 ⟨(Nat.le_of_ble_eq_true rfl), (Nat.le_of_ble_eq_true rfl)⟩) (fun r2 p3 => ?_)
  rw [hQ]
  exact W.zret (v := r2) hx hb hr ((lf_x_meets3_1 r2 p3)) (fun t9 ht9 hW9 => ⟨r2, rfl, p3, ht9⟩) (fun _ h => absurd h List.not_mem_nil) dX12_meets_11
set_option maxRecDepth 20000 in
theorem lf_x_meets2_1   : (nI 0) = nI 0 ∨ (nI 0) = nI 1 := by
  try have k_0 := ia_n 0 (by first | decide | omega)
  try have k_1 := ia_n 1 (by first | decide | omega)
  try simp only [ia_lt, ia_le, ia_eq, ia_m1, ia_0, ia_1, ne_eq, true_and, and_true, false_and, and_false, or_false, false_or, or_true, true_or, not_true_eq_false, not_false_eq_true] at *
  all_goals omega
set_option maxRecDepth 20000 in
theorem lf_x_meets2_2 (k8 : Nat) (n12 : Nat) (j10 : k8 ≤ 24) (hm14 : 24 - k8 < n12 + 1) (c15 : k8 < 24) : 0 ≤ (nI k8).toInt ∧ (nI k8).toInt ≤ 23 := by
  try have k_0 := ia_n k8 (by first | decide | omega)
  try simp only [ia_lt, ia_le, ia_eq, ia_m1, ia_0, ia_1, ne_eq, true_and, and_true, false_and, and_false, or_false, false_or, or_true, true_or, not_true_eq_false, not_false_eq_true] at *
  all_goals omega
set_option maxRecDepth 20000 in
theorem lf_x_meets2_3 (k8 : Nat) (n12 : Nat) (j10 : k8 ≤ 24) (hm14 : 24 - k8 < n12 + 1) (c15 : k8 < 24) : 0 ≤ (nI k8).toInt ∧ (nI k8).toInt ≤ 23 := by
  try have k_0 := ia_n k8 (by first | decide | omega)
  try simp only [ia_lt, ia_le, ia_eq, ia_m1, ia_0, ia_1, ne_eq, true_and, and_true, false_and, and_false, or_false, false_or, or_true, true_or, not_true_eq_false, not_false_eq_true] at *
  all_goals omega
set_option maxRecDepth 20000 in
theorem lf_x_meets2_4 (k8 : Nat) (n12 : Nat) (j10 : k8 ≤ 24) (hm14 : 24 - k8 < n12 + 1) (c15 : k8 < 24) : 0 ≤ (nI k8).toInt ∧ (nI k8).toInt ≤ 23 := by
  try have k_0 := ia_n k8 (by first | decide | omega)
  try simp only [ia_lt, ia_le, ia_eq, ia_m1, ia_0, ia_1, ne_eq, true_and, and_true, false_and, and_false, or_false, false_or, or_true, true_or, not_true_eq_false, not_false_eq_true] at *
  all_goals omega
set_option maxRecDepth 20000 in
theorem lf_x_meets2_5 (k23 : Nat) (h25 : k23 < 36) : 0 ≤ (nI k23).toInt ∧ (nI k23).toInt ≤ 35 := by
  try have k_0 := ia_n k23 (by first | decide | omega)
  try simp only [ia_lt, ia_le, ia_eq, ia_m1, ia_0, ia_1, ne_eq, true_and, and_true, false_and, and_false, or_false, false_or, or_true, true_or, not_true_eq_false, not_false_eq_true] at *
  all_goals omega
set_option maxRecDepth 20000 in
theorem lf_x_meets2_6 (k28 : Nat) (h30 : k28 < 36) : 0 ≤ (nI k28).toInt ∧ (nI k28).toInt ≤ 35 := by
  try have k_0 := ia_n k28 (by first | decide | omega)
  try simp only [ia_lt, ia_le, ia_eq, ia_m1, ia_0, ia_1, ne_eq, true_and, and_true, false_and, and_false, or_false, false_or, or_true, true_or, not_true_eq_false, not_false_eq_true] at *
  all_goals omega
set_option maxRecDepth 20000 in
theorem lf_x_meets2_7 (nq : Nat) (hkn : 2 ≤ nq) (hn3 : nq ≤ 3) (c1 : 2 ≠ nq) : 3 ≤ nq := by
  try simp only [ia_lt, ia_le, ia_eq, ia_m1, ia_0, ia_1, ne_eq, true_and, and_true, false_and, and_false, or_false, false_or, or_true, true_or, not_true_eq_false, not_false_eq_true] at *
  all_goals omega
set_option maxRecDepth 20000 in
theorem lf_x_meets2_8 (k8 : Nat) (n12 : Nat) (j10 : k8 ≤ 24) (hm14 : 24 - k8 < n12 + 1) (c15 : k8 < 24) : (k8 + 1) ≤ 24 := by
  try simp only [ia_lt, ia_le, ia_eq, ia_m1, ia_0, ia_1, ne_eq, true_and, and_true, false_and, and_false, or_false, false_or, or_true, true_or, not_true_eq_false, not_false_eq_true] at *
  all_goals omega
set_option maxRecDepth 20000 in
theorem lf_x_meets2_9 (k8 : Nat) (n12 : Nat) (j10 : k8 ≤ 24) (hm14 : 24 - k8 < n12 + 1) (c15 : k8 < 24) : 24 - (k8 + 1) < n12 := by
  try simp only [ia_lt, ia_le, ia_eq, ia_m1, ia_0, ia_1, ne_eq, true_and, and_true, false_and, and_false, or_false, false_or, or_true, true_or, not_true_eq_false, not_false_eq_true] at *
  all_goals omega
set_option maxRecDepth 20000 in
theorem lf_x_meets2_10   : (nI 1) = nI 0 ∨ (nI 1) = nI 1 := by
  try have k_0 := ia_n 1 (by first | decide | omega)
  try have k_1 := ia_n 0 (by first | decide | omega)
  try simp only [ia_lt, ia_le, ia_eq, ia_m1, ia_0, ia_1, ne_eq, true_and, and_true, false_and, and_false, or_false, false_or, or_true, true_or, not_true_eq_false, not_false_eq_true] at *
  all_goals omega
set_option maxRecDepth 20000 in
theorem lf_x_meets2_11 (k8 : Nat) (n12 : Nat) (j10 : k8 ≤ 24) (hm14 : 24 - k8 < n12 + 1) (c15 : k8 < 24) : (k8 + 1) ≤ 24 := by
  try simp only [ia_lt, ia_le, ia_eq, ia_m1, ia_0, ia_1, ne_eq, true_and, and_true, false_and, and_false, or_false, false_or, or_true, true_or, not_true_eq_false, not_false_eq_true] at *
  all_goals omega
set_option maxRecDepth 20000 in
theorem lf_x_meets2_12 (k8 : Nat) (n12 : Nat) (j10 : k8 ≤ 24) (hm14 : 24 - k8 < n12 + 1) (c15 : k8 < 24) : 24 - (k8 + 1) < n12 := by
  try simp only [ia_lt, ia_le, ia_eq, ia_m1, ia_0, ia_1, ne_eq, true_and, and_true, false_and, and_false, or_false, false_or, or_true, true_or, not_true_eq_false, not_false_eq_true] at *
  all_goals omega
set_option maxRecDepth 20000 in
theorem lf_x_meets2_13   : 0 ≤ 24 := by
  try simp only [ia_lt, ia_le, ia_eq, ia_m1, ia_0, ia_1, ne_eq, true_and, and_true, false_and, and_false, or_false, false_or, or_true, true_or, not_true_eq_false, not_false_eq_true] at *
  all_goals omega
set_option maxRecDepth 20000 in
theorem lf_x_meets2_14 (r34 : Int32) (p35 : r34 = nI 0 ∨ r34 = nI 1) : narrow .boolean (.int r34) = .int r34 := by
  have h : r34 = 0 ∨ r34 = 1 := by
    have b_r34 := ia_b r34
    try have k_0 := ia_n 0 (by first | decide | omega)
    try have k_1 := ia_n 1 (by first | decide | omega)
    try simp only [ia_lt, ia_le, ia_eq, ia_m1, ia_0, ia_1, ne_eq, true_and, and_true, false_and, and_false, or_false, false_or, or_true, true_or, not_true_eq_false, not_false_eq_true] at *
    all_goals omega
  rcases h with h | h <;> rw [h] <;> rfl
set_option maxHeartbeats 4000000 in
set_option maxRecDepth 100000 in
theorem c_x_meets2 (l : Launch) (dC : Nat → ClassId) (dI : Nat → Nat → Nat) (ky : Nat → ClassId) (sz : Nat) (o : Nat) (kthrown : Int32) (ktape : Nat) (ktaped : Nat) (ksize : Nat) (klimit : Nat) (kto : Nat) (kfrom : Nat) (kkind : Int32) (knumber : Int32) (ksign : Int32) (kfault : Int32) (kplace : Int32) (kword : Int64) (ktold : Int32) (know : Nat) (kread : Nat) (kkept : Nat) (ksnaps : Nat) (kaside : Nat) (kname : Nat) (kreadName : Nat) (kkeptName : Nat) (kisKept : Nat) (konces : Nat) (ksnapMany : Nat) (khasCells : Int32) (kpoured : Nat) (kfar : Nat) (ksides : Nat) (ksideMany : Nat) (kwayDays : Int32) (khasWay : Int32) (klines : Nat) (kmet : Nat) (kmetMany : Nat) (ksunk : Nat) (ktrying : Nat) (ksunkMany : Nat) (ksending : Int32) (kfleets : Int32) (ktext : Nat) (ktexts : Nat) (kseed : Int32) (kline : Nat) (kwritten : Nat) (klineMany : Nat) (khasWritten : Int32) (knode : Nat) (knodes : Nat) (konesMany : Nat) (kwithin : Nat) (ktop : Nat) (knowF : Nat → Int32) (klinesF : Nat → Int32) (x : Int32) (y : Int32) (nq : Nat) (iv_ko_0 : ktaped ≤ 940) (iv_ko_1 : ksize ≤ 940) (iv_ko_2 : klimit ≤ 900) (iv_ko_3 : kto ≤ ksize) (iv_ko_4 : kfrom ≤ 940) (iv_ko_5 : ksnapMany ≤ 8) (iv_ko_6 : ksideMany ≤ 36) (iv_ko_7 : kmetMany ≤ 3) (iv_ko_8 : ksunkMany ≤ 36) (iv_ko_9 : ktexts ≤ 64) (iv_ko_10 : klineMany ≤ 40) (iv_ko_11 : knodes ≤ 60) (iv_ko_12 : konesMany ≤ 20) (iv_ko_13 : kwithin ≤ 8) (iv_ko_14 : ktop ≤ 59) (ab_now : NB knowF) (hc_x : 0 ≤ x.toInt ∧ x.toInt ≤ 35) (hc_y : 0 ≤ y.toInt ∧ y.toInt ≤ 35) (hkn : 2 ≤ nq) (hn3 : nq ≤ 3) : Met l yX12_meets wsX12_meets ({ frames := 3, cells := 0, slots := 0, locals := 66 }) (PcU dC dI ky [.ref o, .int x, .int y, .int (nI 2), .int (nI nq)] [(o, .inr (12, [.int kthrown, .ref ktape, .int (nI ktaped), .int (nI ksize), .int (nI klimit), .int (nI kto), .int (nI kfrom), .int kkind, .int knumber, .int ksign, .int kfault, .int kplace, .long kword, .int ktold, .ref know, .ref kread, .ref kkept, .ref ksnaps, .ref kaside, .ref kname, .ref kreadName, .ref kkeptName, .ref kisKept, .ref konces, .int (nI ksnapMany), .int khasCells, .ref kpoured, .ref kfar, .ref ksides, .int (nI ksideMany), .int kwayDays, .int khasWay, .ref klines, .ref kmet, .int (nI kmetMany), .ref ksunk, .ref ktrying, .int (nI ksunkMany), .int ksending, .int kfleets, .ref ktext, .int (nI ktexts), .int kseed, .ref kline, .ref kwritten, .int (nI klineMany), .int khasWritten, .ref knode, .int (nI knodes), .int (nI konesMany), .int (nI kwithin), .int (nI ktop)])), (know, .inl (ky 0, 373, .inl knowF)), (klines, .inl (ky 0, 3, .inl klinesF))] sz) (va_Qi (fun (r : Int32) (klinesG : (Nat → Int32)) => r = nI 0 ∨ r = nI 1) (BU dC dI ky (fun (klinesG : (Nat → Int32)) => [(o, .inr (12, [.int kthrown, .ref ktape, .int (nI ktaped), .int (nI ksize), .int (nI klimit), .int (nI kto), .int (nI kfrom), .int kkind, .int knumber, .int ksign, .int kfault, .int kplace, .long kword, .int ktold, .ref know, .ref kread, .ref kkept, .ref ksnaps, .ref kaside, .ref kname, .ref kreadName, .ref kkeptName, .ref kisKept, .ref konces, .int (nI ksnapMany), .int khasCells, .ref kpoured, .ref kfar, .ref ksides, .int (nI ksideMany), .int kwayDays, .int khasWay, .ref klines, .ref kmet, .int (nI kmetMany), .ref ksunk, .ref ktrying, .int (nI ksunkMany), .int ksending, .int kfleets, .ref ktext, .int (nI ktexts), .int kseed, .ref kline, .ref kwritten, .int (nI klineMany), .int khasWritten, .ref knode, .int (nI knodes), .int (nI konesMany), .int (nI kwithin), .int (nI ktop)])), (know, .inl (ky 0, 373, .inl knowF)), (klines, .inl (ky 0, 3, .inl klinesG))]) (va_A [(o, .inr (12, [.int kthrown, .ref ktape, .int (nI ktaped), .int (nI ksize), .int (nI klimit), .int (nI kto), .int (nI kfrom), .int kkind, .int knumber, .int ksign, .int kfault, .int kplace, .long kword, .int ktold, .ref know, .ref kread, .ref kkept, .ref ksnaps, .ref kaside, .ref kname, .ref kreadName, .ref kkeptName, .ref kisKept, .ref konces, .int (nI ksnapMany), .int khasCells, .ref kpoured, .ref kfar, .ref ksides, .int (nI ksideMany), .int kwayDays, .int khasWay, .ref klines, .ref kmet, .int (nI kmetMany), .ref ksunk, .ref ktrying, .int (nI ksunkMany), .int ksending, .int kfleets, .ref ktext, .int (nI ktexts), .int kseed, .ref kline, .ref kwritten, .int (nI klineMany), .int khasWritten, .ref knode, .int (nI knodes), .int (nI konesMany), .int (nI kwithin), .int (nI ktop)])), (know, .inl (ky 0, 373, .inl knowF)), (klines, .inl (ky 0, 3, .inl klinesF))] sz)) (va_A [(o, .inr (12, [.int kthrown, .ref ktape, .int (nI ktaped), .int (nI ksize), .int (nI klimit), .int (nI kto), .int (nI kfrom), .int kkind, .int knumber, .int ksign, .int kfault, .int kplace, .long kword, .int ktold, .ref know, .ref kread, .ref kkept, .ref ksnaps, .ref kaside, .ref kname, .ref kreadName, .ref kkeptName, .ref kisKept, .ref konces, .int (nI ksnapMany), .int khasCells, .ref kpoured, .ref kfar, .ref ksides, .int (nI ksideMany), .int kwayDays, .int khasWay, .ref klines, .ref kmet, .int (nI kmetMany), .ref ksunk, .ref ktrying, .int (nI ksunkMany), .int ksending, .int kfleets, .ref ktext, .int (nI ktexts), .int kseed, .ref kline, .ref kwritten, .int (nI klineMany), .int khasWritten, .ref knode, .int (nI knodes), .int (nI konesMany), .int (nI kwithin), .int (nI ktop)])), (know, .inl (ky 0, 373, .inl knowF)), (klines, .inl (ky 0, 3, .inl klinesF))] sz)) 0 0 (va_A [(o, .inr (12, [.int kthrown, .ref ktape, .int (nI ktaped), .int (nI ksize), .int (nI klimit), .int (nI kto), .int (nI kfrom), .int kkind, .int knumber, .int ksign, .int kfault, .int kplace, .long kword, .int ktold, .ref know, .ref kread, .ref kkept, .ref ksnaps, .ref kaside, .ref kname, .ref kreadName, .ref kkeptName, .ref kisKept, .ref konces, .int (nI ksnapMany), .int khasCells, .ref kpoured, .ref kfar, .ref ksides, .int (nI ksideMany), .int kwayDays, .int khasWay, .ref klines, .ref kmet, .int (nI kmetMany), .ref ksunk, .ref ktrying, .int (nI ksunkMany), .int ksending, .int kfleets, .ref ktext, .int (nI ktexts), .int kseed, .ref kline, .ref kwritten, .int (nI klineMany), .int khasWritten, .ref knode, .int (nI knodes), .int (nI konesMany), .int (nI kwithin), .int (nI ktop)])), (know, .inl (ky 0, 373, .inl knowF)), (klines, .inl (ky 0, 3, .inl klinesF))] sz) := by
  refine Met.ofW (cc := cX12_meets) (maxL := 6) (ret := (some .boolean)) (by decide) rfl ?_
  intro p e s m args below meth c s₁ B hml hv
  obtain ⟨rfl, hsz, hP, hK, hD0⟩ := hv
  have hx := B.exec
  have hb := B.bytes
  have hr := B.returns
  have hts := atoms_spec (ws := wsX12_meets) B.pre
  have hown : s.vm.findClass RX12 = some m.cls := findClass_of_methodNamed B.named
  have hlocks := B.notSynchronized
  have hin12 : ∀ w ∈ u_ws RX12 TX12 52, w ∈ wsX12_meets := by decide +kernel
  subst hsz
  have hD := hD0.self (sz := s.heap.size)
  generalize hAe : va_A [(o, .inr (12, [.int kthrown, .ref ktape, .int (nI ktaped), .int (nI ksize), .int (nI klimit), .int (nI kto), .int (nI kfrom), .int kkind, .int knumber, .int ksign, .int kfault, .int kplace, .long kword, .int ktold, .ref know, .ref kread, .ref kkept, .ref ksnaps, .ref kaside, .ref kname, .ref kreadName, .ref kkeptName, .ref kisKept, .ref konces, .int (nI ksnapMany), .int khasCells, .ref kpoured, .ref kfar, .ref ksides, .int (nI ksideMany), .int kwayDays, .int khasWay, .ref klines, .ref kmet, .int (nI kmetMany), .ref ksunk, .ref ktrying, .int (nI ksunkMany), .int ksending, .int kfleets, .ref ktext, .int (nI ktexts), .int kseed, .ref kline, .ref kwritten, .int (nI klineMany), .int khasWritten, .ref knode, .int (nI knodes), .int (nI konesMany), .int (nI kwithin), .int (nI ktop)])), (know, .inl (ky 0, 373, .inl knowF)), (klines, .inl (ky 0, 3, .inl klinesF))] s.heap.size = A at hD ⊢
  have hA : ∀ q : Nat, s.heap.size ≤ q → A q := fun q h => by rw [← hAe]; exact Or.inr h
  have hS : va_S A s.heap s.heap [] := va_S.rf
  have hl := lv_entry ([.ref o, .int x, .int y, .int (nI 2), .int (nI nq)]) (n := 6) (Nat.le_of_ble_eq_true rfl)
  rw [lg_entry_eq]
  generalize (lg_sl ([.ref o, .int x, .int y, .int (nI 2), .int (nI nq)]) ++ List.replicate (6 - (lg_sl ([.ref o, .int x, .int y, .int (nI 2), .int (nI nq)])).length) Slot.unset).toArray = ls at hl ⊢
  have hl : lv_has ls 6 [(0, .ref o), (1, .int x), (2, .int y), (3, .int (nI 2)), (4, .int (nI nq))] := hl
  refine q_name (fun Q hQ => ?_)
  generalize ([.ref o, .int x, .int y, .int (nI 2), .int (nI nq)] : List Value).toArray = args at hts hQ ⊢
  refine lv_iload_n hx hb dX12_meets_0 rfl (lv_at hl 3 rfl) ?_
  refine lv_iload hx hb dX12_meets_1 (lv_at hl 4 rfl) ?_
  refine n_icmp_ne (x := 2) (y := nq) (tgt := 12) hx hb (by omega) (by omega) dX12_meets_3 (by decide) (fun c1 => ?_) (fun c1 => ?_)
  · refine lv_iconst (v := nI 0) hx hb dX12_meets_12 (by decide) ?_
    refine lv_istore (lv' := [(5, .int (nI 0)), (0, .ref o), (1, .int x), (2, .int y), (3, .int (nI 2)), (4, .int (nI nq))]) hx hb dX12_meets_13 hl (by decide) rfl (fun ls hl => ?_)
    have hL11 : ∀ (n12 : Nat) (k8 : Nat) (f9 : Nat → Int32), (k8 ≤ 24) → 24 - k8 < n12 → ∀ (H : Heap) (locs : List Loc) (ls : Array Slot), va_P (dC, dI) vwCl [(o, .inr (12, [.int kthrown, .ref ktape, .int (nI ktaped), .int (nI ksize), .int (nI klimit), .int (nI kto), .int (nI kfrom), .int kkind, .int knumber, .int ksign, .int kfault, .int kplace, .long kword, .int ktold, .ref know, .ref kread, .ref kkept, .ref ksnaps, .ref kaside, .ref kname, .ref kreadName, .ref kkeptName, .ref kisKept, .ref konces, .int (nI ksnapMany), .int khasCells, .ref kpoured, .ref kfar, .ref ksides, .int (nI ksideMany), .int kwayDays, .int khasWay, .ref klines, .ref kmet, .int (nI kmetMany), .ref ksunk, .ref ktrying, .int (nI ksunkMany), .int ksending, .int kfleets, .ref ktext, .int (nI ktexts), .int kseed, .ref kline, .ref kwritten, .int (nI klineMany), .int khasWritten, .ref knode, .int (nI knodes), .int (nI konesMany), .int (nI kwithin), .int (nI ktop)])), (know, .inl (ky 0, 373, .inl knowF)), (klines, .inl (ky 0, 3, .inl f9))] H → va_D A [(o, .inr (12, [.int kthrown, .ref ktape, .int (nI ktaped), .int (nI ksize), .int (nI klimit), .int (nI kto), .int (nI kfrom), .int kkind, .int knumber, .int ksign, .int kfault, .int kplace, .long kword, .int ktold, .ref know, .ref kread, .ref kkept, .ref ksnaps, .ref kaside, .ref kname, .ref kreadName, .ref kkeptName, .ref kisKept, .ref konces, .int (nI ksnapMany), .int khasCells, .ref kpoured, .ref kfar, .ref ksides, .int (nI ksideMany), .int kwayDays, .int khasWay, .ref klines, .ref kmet, .int (nI kmetMany), .ref ksunk, .ref ktrying, .int (nI ksunkMany), .int ksending, .int kfleets, .ref ktext, .int (nI ktexts), .int kseed, .ref kline, .ref kwritten, .int (nI klineMany), .int khasWritten, .ref knode, .int (nI knodes), .int (nI konesMany), .int (nI kwithin), .int (nI ktop)])), (know, .inl (ky 0, 373, .inl knowF)), (klines, .inl (ky 0, 3, .inl f9))] → va_S A s.heap H locs → lv_has ls 6 [(5, .int (nI k8)), (0, .ref o), (1, .int x), (2, .int y), (3, .int (nI 2)), (4, .int (nI nq))] → W p l e (headSpec wsX12_meets ({ frames := 3, cells := 0, slots := 0, locals := 66 })).room s m args below meth c H locs 0 0 Q (F0 m 15 ls []) := by
      intro n12
      induction n12 with
      | zero => intro k8 f9 _ h9; exact absurd h9 (Nat.not_lt_zero _)
      | succ n12 ih13 =>
        intro k8 f9 j10 hm14 H locs ls hP hD hS hl
        refine lv_iload hx hb dX12_meets_15 (lv_at hl 0 rfl) ?_
        refine lv_bipush (v := nI 24) hx hb dX12_meets_17 (by decide) ?_
        refine n_icmp_ge (x := k8) (y := 24) (tgt := 76) hx hb (by omega) (by omega) dX12_meets_19 (by decide) (fun c15 => ?_) (fun c15 => ?_)
        · refine lv_iconst (v := nI 0) hx hb dX12_meets_76 (by decide) ?_
          rw [hQ]
          exact W.zret (v := nI 0) hx hb hr (by decide) (fun t9 ht9 hW9 => ⟨⟨nI 0, f9, rfl, (lf_x_meets2_1), by rw [ht9]; exact hP, va_K.moved hW9.alike hK, hD⟩, hS.F ht9⟩) hS.2.2 dX12_meets_77
        · refine lv_aload_n hx hb dX12_meets_22 rfl (lv_at hl 1 rfl) ?_
          refine lv_iload hx hb dX12_meets_23 (lv_at hl 0 rfl) ?_
          refine vp_callSi (W.runV (As := [.int (nI k8)]) (rest := []) ⟨hx, hb, hml, hown, hts⟩ (c_x_isLine l dC dI ky o kthrown ktape ktaped ksize klimit kto kfrom kkind knumber ksign kfault kplace kword ktold know kread kkept ksnaps kaside kname kreadName kkeptName kisKept konces ksnapMany khasCells kpoured kfar ksides ksideMany kwayDays khasWay klines kmet kmetMany ksunk ktrying ksunkMany ksending kfleets ktext ktexts kseed kline kwritten klineMany khasWritten knode knodes konesMany kwithin ktop knowF (nI k8) iv_ko_0 iv_ko_1 iv_ko_2 iv_ko_3 iv_ko_4 iv_ko_5 iv_ko_6 iv_ko_7 iv_ko_8 iv_ko_9 iv_ko_10 iv_ko_11 iv_ko_12 iv_ko_13 iv_ko_14 ab_now (lf_x_meets2_2 k8 n12 j10 hm14 c15)) (cwV 1 hts gX12_meets_X12_isLine rfl rfl rfl (by decide +kernel) ⟨(Nat.le_of_ble_eq_true rfl), (Nat.le_of_ble_eq_true rfl)⟩) (pre_PV hK hP [0, 1] rfl (ci := 12) (q0 := 0) rfl rfl) rfl rfl hl.1 rfl (lv_room (Nat.le_of_ble_eq_true rfl)) dX12_meets_25 ⟨(Nat.le_of_ble_eq_true rfl), (Nat.le_of_ble_eq_true rfl)⟩) (fun r16 p17 => ?_)
          refine lv_if_ne (tgt := 34) hx hb dX12_meets_28 (by decide) (fun c18 => ?_) (fun c18 => ?_)
          · refine lv_aload_n hx hb dX12_meets_34 rfl (lv_at hl 1 rfl) ?_
            refine va_get (D := (dC, dI)) (ci := 12) (v := .ref klines) (C := RX12) (T := TX12) (N := 52) hx hb hts hin12 hown hK hP 0 rfl rfl 32 (by decide) (hts (.fieldLink RX12 142 "PorridgeSeaModel" "lines" "[I") (List.mem_of_getElem? (i := 1) rfl)) (fun _ h9 => h9) rfl dX12_meets_35 ?_
            refine lv_iload_n hx hb dX12_meets_38 rfl (lv_at hl 4 rfl) ?_
            refine lv_iload hx hb dX12_meets_39 (lv_at hl 0 rfl) ?_
            refine r_iast (x := (nI k8)) hx hb hK hP hD hS 2 rfl 2 (by decide) (by decide) dX12_meets_41 (fun H locs hP hD hS => ?_)
            obtain ⟨g19, e20⟩ : ∃ z9, z9 = upd f9 2 (nI k8) := ⟨_, rfl⟩
            rw [← e20] at hP hD
            have hP : va_P (dC, dI) vwCl [(o, .inr (12, [.int kthrown, .ref ktape, .int (nI ktaped), .int (nI ksize), .int (nI klimit), .int (nI kto), .int (nI kfrom), .int kkind, .int knumber, .int ksign, .int kfault, .int kplace, .long kword, .int ktold, .ref know, .ref kread, .ref kkept, .ref ksnaps, .ref kaside, .ref kname, .ref kreadName, .ref kkeptName, .ref kisKept, .ref konces, .int (nI ksnapMany), .int khasCells, .ref kpoured, .ref kfar, .ref ksides, .int (nI ksideMany), .int kwayDays, .int khasWay, .ref klines, .ref kmet, .int (nI kmetMany), .ref ksunk, .ref ktrying, .int (nI ksunkMany), .int ksending, .int kfleets, .ref ktext, .int (nI ktexts), .int kseed, .ref kline, .ref kwritten, .int (nI klineMany), .int khasWritten, .ref knode, .int (nI knodes), .int (nI konesMany), .int (nI kwithin), .int (nI ktop)])), (know, .inl (ky 0, 373, .inl knowF)), (klines, .inl (ky 0, 3, .inl g19))] H := hP
            have hD : va_D A [(o, .inr (12, [.int kthrown, .ref ktape, .int (nI ktaped), .int (nI ksize), .int (nI klimit), .int (nI kto), .int (nI kfrom), .int kkind, .int knumber, .int ksign, .int kfault, .int kplace, .long kword, .int ktold, .ref know, .ref kread, .ref kkept, .ref ksnaps, .ref kaside, .ref kname, .ref kreadName, .ref kkeptName, .ref kisKept, .ref konces, .int (nI ksnapMany), .int khasCells, .ref kpoured, .ref kfar, .ref ksides, .int (nI ksideMany), .int kwayDays, .int khasWay, .ref klines, .ref kmet, .int (nI kmetMany), .ref ksunk, .ref ktrying, .int (nI ksunkMany), .int ksending, .int kfleets, .ref ktext, .int (nI ktexts), .int kseed, .ref kline, .ref kwritten, .int (nI klineMany), .int khasWritten, .ref knode, .int (nI knodes), .int (nI konesMany), .int (nI kwithin), .int (nI ktop)])), (know, .inl (ky 0, 373, .inl knowF)), (klines, .inl (ky 0, 3, .inl g19))] := hD
            refine lv_aload_n hx hb dX12_meets_42 rfl (lv_at hl 1 rfl) ?_
            refine lv_aload_n hx hb dX12_meets_43 rfl (lv_at hl 1 rfl) ?_
            refine lv_iload_n hx hb dX12_meets_44 rfl (lv_at hl 2 rfl) ?_
            refine lv_iload hx hb dX12_meets_45 (lv_at hl 0 rfl) ?_
            refine vp_callSi (W.runV (As := [.int x, .int (nI k8)]) (rest := [.ref o]) ⟨hx, hb, hml, hown, hts⟩ (c_x_stirred l dC dI ky o kthrown ktape ktaped ksize klimit kto kfrom kkind knumber ksign kfault kplace kword ktold know kread kkept ksnaps kaside kname kreadName kkeptName kisKept konces ksnapMany khasCells kpoured kfar ksides ksideMany kwayDays khasWay klines kmet kmetMany ksunk ktrying ksunkMany ksending kfleets ktext ktexts kseed kline kwritten klineMany khasWritten knode knodes konesMany kwithin ktop knowF x (nI k8) iv_ko_0 iv_ko_1 iv_ko_2 iv_ko_3 iv_ko_4 iv_ko_5 iv_ko_6 iv_ko_7 iv_ko_8 iv_ko_9 iv_ko_10 iv_ko_11 iv_ko_12 iv_ko_13 iv_ko_14 ab_now hc_x (lf_x_meets2_3 k8 n12 j10 hm14 c15)) (cwV 2 hts gX12_meets_X12_stirred rfl rfl rfl (by decide +kernel) ⟨(Nat.le_of_ble_eq_true rfl), (Nat.le_of_ble_eq_true rfl)⟩) (pre_PV hK hP [0, 1] rfl (ci := 12) (q0 := 0) rfl rfl) rfl rfl hl.1 rfl (lv_room (Nat.le_of_ble_eq_true rfl)) dX12_meets_47 ⟨(Nat.le_of_ble_eq_true rfl), (Nat.le_of_ble_eq_true rfl)⟩) (fun r21 p22 => ?_)
            obtain ⟨k23, h25, rfl⟩ := p22
            refine lv_aload_n hx hb dX12_meets_50 rfl (lv_at hl 1 rfl) ?_
            refine lv_iload_n hx hb dX12_meets_51 rfl (lv_at hl 3 rfl) ?_
            refine lv_iload hx hb dX12_meets_52 (lv_at hl 0 rfl) ?_
            refine vp_callSi (W.runV (As := [.int y, .int (nI k8)]) (rest := [.int (nI k23), .ref o]) ⟨hx, hb, hml, hown, hts⟩ (c_x_stirred l dC dI ky o kthrown ktape ktaped ksize klimit kto kfrom kkind knumber ksign kfault kplace kword ktold know kread kkept ksnaps kaside kname kreadName kkeptName kisKept konces ksnapMany khasCells kpoured kfar ksides ksideMany kwayDays khasWay klines kmet kmetMany ksunk ktrying ksunkMany ksending kfleets ktext ktexts kseed kline kwritten klineMany khasWritten knode knodes konesMany kwithin ktop knowF y (nI k8) iv_ko_0 iv_ko_1 iv_ko_2 iv_ko_3 iv_ko_4 iv_ko_5 iv_ko_6 iv_ko_7 iv_ko_8 iv_ko_9 iv_ko_10 iv_ko_11 iv_ko_12 iv_ko_13 iv_ko_14 ab_now hc_y (lf_x_meets2_4 k8 n12 j10 hm14 c15)) (cwV 2 hts gX12_meets_X12_stirred rfl rfl rfl (by decide +kernel) ⟨(Nat.le_of_ble_eq_true rfl), (Nat.le_of_ble_eq_true rfl)⟩) (pre_PV hK hP [0, 1] rfl (ci := 12) (q0 := 0) rfl rfl) rfl rfl hl.1 rfl (lv_room (Nat.le_of_ble_eq_true rfl)) dX12_meets_54 ⟨(Nat.le_of_ble_eq_true rfl), (Nat.le_of_ble_eq_true rfl)⟩) (fun r26 p27 => ?_)
            obtain ⟨k28, h30, rfl⟩ := p27
            refine lv_iload_n hx hb dX12_meets_57 rfl (lv_at hl 4 rfl) ?_
            refine lv_iconst (v := nI 1) hx hb dX12_meets_58 (by decide) ?_
            refine lv_iadd hx hb dX12_meets_59 ?_
            refine r_ti (nI 3) (by decide) ?_
            refine lv_iload hx hb dX12_meets_60 (lv_at hl 5 rfl) ?_
            refine vp_callSi (W.runV (As := [.int (nI k23), .int (nI k28), .int (nI 3), .int (nI nq)]) (rest := []) ⟨hx, hb, hml, hown, hts⟩ (c_x_meets3 l dC dI ky o kthrown ktape ktaped ksize klimit kto kfrom kkind knumber ksign kfault kplace kword ktold know kread kkept ksnaps kaside kname kreadName kkeptName kisKept konces ksnapMany khasCells kpoured kfar ksides ksideMany kwayDays khasWay klines kmet kmetMany ksunk ktrying ksunkMany ksending kfleets ktext ktexts kseed kline kwritten klineMany khasWritten knode knodes konesMany kwithin ktop knowF g19 (nI k23) (nI k28) nq iv_ko_0 iv_ko_1 iv_ko_2 iv_ko_3 iv_ko_4 iv_ko_5 iv_ko_6 iv_ko_7 iv_ko_8 iv_ko_9 iv_ko_10 iv_ko_11 iv_ko_12 iv_ko_13 iv_ko_14 ab_now (lf_x_meets2_5 k23 h25) (lf_x_meets2_6 k28 h30) (lf_x_meets2_7 nq hkn hn3 c1) hn3) (cwV 4 hts gX12_meets_X12_meets rfl rfl rfl (by decide +kernel) ⟨(Nat.le_of_ble_eq_true rfl), (Nat.le_of_ble_eq_true rfl)⟩) (pre_PV hK hP [0, 1, 2] rfl (ci := 12) (q0 := 0) rfl rfl) rfl rfl hl.1 rfl (lv_room (Nat.le_of_ble_eq_true rfl)) dX12_meets_62 ⟨(Nat.le_of_ble_eq_true rfl), (Nat.le_of_ble_eq_true rfl)⟩) (fun r31 p32 => ?_)
            refine lv_if_eq (tgt := 70) hx hb dX12_meets_65 (by decide) (fun c33 => ?_) (fun c33 => ?_)
            · refine lv_iinc (v := nI (k8 + 1)) (lv' := [(5, .int (nI (k8 + 1))), (0, .ref o), (1, .int x), (2, .int y), (3, .int (nI 2)), (4, .int (nI nq))]) hx hb dX12_meets_70 hl (k := 0) rfl (show nI k8 + nI 1 = nI (k8 + 1) from nI_add _ _) (by decide) rfl (fun ls hl => ?_)
              refine lv_goto (tgt := 15) hx hb dX12_meets_73 (by decide) ?_
              exact ih13 (k8 + 1) g19 (lf_x_meets2_8 k8 n12 j10 hm14 c15) (lf_x_meets2_9 k8 n12 j10 hm14 c15) _ _ _ hP hD hS (lv_sub hl [0, 1, 2, 3, 4, 5] rfl)
            · refine lv_iconst (v := nI 1) hx hb dX12_meets_68 (by decide) ?_
              rw [hQ]
              exact W.zret (v := nI 1) hx hb hr (by decide) (fun t9 ht9 hW9 => ⟨⟨nI 1, g19, rfl, (lf_x_meets2_10), by rw [ht9]; exact hP, va_K.moved hW9.alike hK, hD⟩, hS.F ht9⟩) hS.2.2 dX12_meets_69
          · refine lv_goto (tgt := 70) hx hb dX12_meets_31 (by decide) ?_
            refine lv_iinc (v := nI (k8 + 1)) (lv' := [(5, .int (nI (k8 + 1))), (0, .ref o), (1, .int x), (2, .int y), (3, .int (nI 2)), (4, .int (nI nq))]) hx hb dX12_meets_70 hl (k := 0) rfl (show nI k8 + nI 1 = nI (k8 + 1) from nI_add _ _) (by decide) rfl (fun ls hl => ?_)
            refine lv_goto (tgt := 15) hx hb dX12_meets_73 (by decide) ?_
            exact ih13 (k8 + 1) f9 (lf_x_meets2_11 k8 n12 j10 hm14 c15) (lf_x_meets2_12 k8 n12 j10 hm14 c15) _ _ _ hP hD hS (lv_sub hl [0, 1, 2, 3, 4, 5] rfl)
    exact hL11 ((24 - 0) + 1) 0 klinesF (lf_x_meets2_13) (Nat.lt_succ_self _) _ _ _ hP hD hS (lv_sub hl [0, 1, 2, 3, 4, 5] rfl)
  · refine lv_iload_n hx hb dX12_meets_6 rfl (lv_at hl 1 rfl) ?_
    refine lv_iload_n hx hb dX12_meets_7 rfl (lv_at hl 2 rfl) ?_
    refine vp_callSi (W.runS (As := [.int x, .int y]) (rest := []) ⟨hx, hb, hml, hown, hts⟩ (c_x_areNear l dC dI ky x y) (va_cwS 2 hts gX12_meets_X12_areNear rfl rfl rfl (by decide +kernel) ⟨(Nat.le_of_ble_eq_true rfl), (Nat.le_of_ble_eq_true rfl)⟩) (pre_PS hK hP [] rfl) rfl rfl hl.1 rfl (lv_room (Nat.le_of_ble_eq_true rfl)) dX12_meets_8 ⟨(Nat.le_of_ble_eq_true rfl), (Nat.le_of_ble_eq_true rfl)⟩) (fun r34 p35 => ?_)
    rw [hQ]
    exact W.zret (v := r34) hx hb hr ((lf_x_meets2_14 r34 p35)) (fun t9 ht9 hW9 => ⟨⟨r34, klinesF, rfl, p35, by rw [ht9]; exact hP, va_K.moved hW9.alike hK, hD⟩, hS.F ht9⟩) hS.2.2 dX12_meets_11
set_option maxRecDepth 20000 in
theorem lf_x_meets1_1   : (nI 0) = nI 0 ∨ (nI 0) = nI 1 := by
  try have k_0 := ia_n 0 (by first | decide | omega)
  try have k_1 := ia_n 1 (by first | decide | omega)
  try simp only [ia_lt, ia_le, ia_eq, ia_m1, ia_0, ia_1, ne_eq, true_and, and_true, false_and, and_false, or_false, false_or, or_true, true_or, not_true_eq_false, not_false_eq_true] at *
  all_goals omega
set_option maxRecDepth 20000 in
theorem lf_x_meets1_2 (k8 : Nat) (n12 : Nat) (j10 : k8 ≤ 24) (hm14 : 24 - k8 < n12 + 1) (c15 : k8 < 24) : 0 ≤ (nI k8).toInt ∧ (nI k8).toInt ≤ 23 := by
  try have k_0 := ia_n k8 (by first | decide | omega)
  try simp only [ia_lt, ia_le, ia_eq, ia_m1, ia_0, ia_1, ne_eq, true_and, and_true, false_and, and_false, or_false, false_or, or_true, true_or, not_true_eq_false, not_false_eq_true] at *
  all_goals omega
set_option maxRecDepth 20000 in
theorem lf_x_meets1_3 (k8 : Nat) (n12 : Nat) (j10 : k8 ≤ 24) (hm14 : 24 - k8 < n12 + 1) (c15 : k8 < 24) : 0 ≤ (nI k8).toInt ∧ (nI k8).toInt ≤ 23 := by
  try have k_0 := ia_n k8 (by first | decide | omega)
  try simp only [ia_lt, ia_le, ia_eq, ia_m1, ia_0, ia_1, ne_eq, true_and, and_true, false_and, and_false, or_false, false_or, or_true, true_or, not_true_eq_false, not_false_eq_true] at *
  all_goals omega
set_option maxRecDepth 20000 in
theorem lf_x_meets1_4 (k8 : Nat) (n12 : Nat) (j10 : k8 ≤ 24) (hm14 : 24 - k8 < n12 + 1) (c15 : k8 < 24) : 0 ≤ (nI k8).toInt ∧ (nI k8).toInt ≤ 23 := by
  try have k_0 := ia_n k8 (by first | decide | omega)
  try simp only [ia_lt, ia_le, ia_eq, ia_m1, ia_0, ia_1, ne_eq, true_and, and_true, false_and, and_false, or_false, false_or, or_true, true_or, not_true_eq_false, not_false_eq_true] at *
  all_goals omega
set_option maxRecDepth 20000 in
theorem lf_x_meets1_5 (k23 : Nat) (h25 : k23 < 36) : 0 ≤ (nI k23).toInt ∧ (nI k23).toInt ≤ 35 := by
  try have k_0 := ia_n k23 (by first | decide | omega)
  try simp only [ia_lt, ia_le, ia_eq, ia_m1, ia_0, ia_1, ne_eq, true_and, and_true, false_and, and_false, or_false, false_or, or_true, true_or, not_true_eq_false, not_false_eq_true] at *
  all_goals omega
set_option maxRecDepth 20000 in
theorem lf_x_meets1_6 (k28 : Nat) (h30 : k28 < 36) : 0 ≤ (nI k28).toInt ∧ (nI k28).toInt ≤ 35 := by
  try have k_0 := ia_n k28 (by first | decide | omega)
  try simp only [ia_lt, ia_le, ia_eq, ia_m1, ia_0, ia_1, ne_eq, true_and, and_true, false_and, and_false, or_false, false_or, or_true, true_or, not_true_eq_false, not_false_eq_true] at *
  all_goals omega
set_option maxRecDepth 20000 in
theorem lf_x_meets1_7 (nq : Nat) (hkn : 1 ≤ nq) (hn3 : nq ≤ 3) (c1 : 1 ≠ nq) : 2 ≤ nq := by
  try simp only [ia_lt, ia_le, ia_eq, ia_m1, ia_0, ia_1, ne_eq, true_and, and_true, false_and, and_false, or_false, false_or, or_true, true_or, not_true_eq_false, not_false_eq_true] at *
  all_goals omega
set_option maxRecDepth 20000 in
theorem lf_x_meets1_8 (k8 : Nat) (n12 : Nat) (j10 : k8 ≤ 24) (hm14 : 24 - k8 < n12 + 1) (c15 : k8 < 24) : (k8 + 1) ≤ 24 := by
  try simp only [ia_lt, ia_le, ia_eq, ia_m1, ia_0, ia_1, ne_eq, true_and, and_true, false_and, and_false, or_false, false_or, or_true, true_or, not_true_eq_false, not_false_eq_true] at *
  all_goals omega
set_option maxRecDepth 20000 in
theorem lf_x_meets1_9 (k8 : Nat) (n12 : Nat) (j10 : k8 ≤ 24) (hm14 : 24 - k8 < n12 + 1) (c15 : k8 < 24) : 24 - (k8 + 1) < n12 := by
  try simp only [ia_lt, ia_le, ia_eq, ia_m1, ia_0, ia_1, ne_eq, true_and, and_true, false_and, and_false, or_false, false_or, or_true, true_or, not_true_eq_false, not_false_eq_true] at *
  all_goals omega
set_option maxRecDepth 20000 in
theorem lf_x_meets1_10   : (nI 1) = nI 0 ∨ (nI 1) = nI 1 := by
  try have k_0 := ia_n 1 (by first | decide | omega)
  try have k_1 := ia_n 0 (by first | decide | omega)
  try simp only [ia_lt, ia_le, ia_eq, ia_m1, ia_0, ia_1, ne_eq, true_and, and_true, false_and, and_false, or_false, false_or, or_true, true_or, not_true_eq_false, not_false_eq_true] at *
  all_goals omega
set_option maxRecDepth 20000 in
theorem lf_x_meets1_11 (k8 : Nat) (n12 : Nat) (j10 : k8 ≤ 24) (hm14 : 24 - k8 < n12 + 1) (c15 : k8 < 24) : (k8 + 1) ≤ 24 := by
  try simp only [ia_lt, ia_le, ia_eq, ia_m1, ia_0, ia_1, ne_eq, true_and, and_true, false_and, and_false, or_false, false_or, or_true, true_or, not_true_eq_false, not_false_eq_true] at *
  all_goals omega
set_option maxRecDepth 20000 in
theorem lf_x_meets1_12 (k8 : Nat) (n12 : Nat) (j10 : k8 ≤ 24) (hm14 : 24 - k8 < n12 + 1) (c15 : k8 < 24) : 24 - (k8 + 1) < n12 := by
  try simp only [ia_lt, ia_le, ia_eq, ia_m1, ia_0, ia_1, ne_eq, true_and, and_true, false_and, and_false, or_false, false_or, or_true, true_or, not_true_eq_false, not_false_eq_true] at *
  all_goals omega
set_option maxRecDepth 20000 in
theorem lf_x_meets1_13   : 0 ≤ 24 := by
  try simp only [ia_lt, ia_le, ia_eq, ia_m1, ia_0, ia_1, ne_eq, true_and, and_true, false_and, and_false, or_false, false_or, or_true, true_or, not_true_eq_false, not_false_eq_true] at *
  all_goals omega
set_option maxRecDepth 20000 in
theorem lf_x_meets1_14 (r37 : Int32) (p38 : r37 = nI 0 ∨ r37 = nI 1) : narrow .boolean (.int r37) = .int r37 := by
  have h : r37 = 0 ∨ r37 = 1 := by
    have b_r37 := ia_b r37
    try have k_0 := ia_n 0 (by first | decide | omega)
    try have k_1 := ia_n 1 (by first | decide | omega)
    try simp only [ia_lt, ia_le, ia_eq, ia_m1, ia_0, ia_1, ne_eq, true_and, and_true, false_and, and_false, or_false, false_or, or_true, true_or, not_true_eq_false, not_false_eq_true] at *
    all_goals omega
  rcases h with h | h <;> rw [h] <;> rfl
set_option maxHeartbeats 4000000 in
set_option maxRecDepth 100000 in
theorem c_x_meets1 (l : Launch) (dC : Nat → ClassId) (dI : Nat → Nat → Nat) (ky : Nat → ClassId) (sz : Nat) (o : Nat) (kthrown : Int32) (ktape : Nat) (ktaped : Nat) (ksize : Nat) (klimit : Nat) (kto : Nat) (kfrom : Nat) (kkind : Int32) (knumber : Int32) (ksign : Int32) (kfault : Int32) (kplace : Int32) (kword : Int64) (ktold : Int32) (know : Nat) (kread : Nat) (kkept : Nat) (ksnaps : Nat) (kaside : Nat) (kname : Nat) (kreadName : Nat) (kkeptName : Nat) (kisKept : Nat) (konces : Nat) (ksnapMany : Nat) (khasCells : Int32) (kpoured : Nat) (kfar : Nat) (ksides : Nat) (ksideMany : Nat) (kwayDays : Int32) (khasWay : Int32) (klines : Nat) (kmet : Nat) (kmetMany : Nat) (ksunk : Nat) (ktrying : Nat) (ksunkMany : Nat) (ksending : Int32) (kfleets : Int32) (ktext : Nat) (ktexts : Nat) (kseed : Int32) (kline : Nat) (kwritten : Nat) (klineMany : Nat) (khasWritten : Int32) (knode : Nat) (knodes : Nat) (konesMany : Nat) (kwithin : Nat) (ktop : Nat) (knowF : Nat → Int32) (klinesF : Nat → Int32) (x : Int32) (y : Int32) (nq : Nat) (iv_ko_0 : ktaped ≤ 940) (iv_ko_1 : ksize ≤ 940) (iv_ko_2 : klimit ≤ 900) (iv_ko_3 : kto ≤ ksize) (iv_ko_4 : kfrom ≤ 940) (iv_ko_5 : ksnapMany ≤ 8) (iv_ko_6 : ksideMany ≤ 36) (iv_ko_7 : kmetMany ≤ 3) (iv_ko_8 : ksunkMany ≤ 36) (iv_ko_9 : ktexts ≤ 64) (iv_ko_10 : klineMany ≤ 40) (iv_ko_11 : knodes ≤ 60) (iv_ko_12 : konesMany ≤ 20) (iv_ko_13 : kwithin ≤ 8) (iv_ko_14 : ktop ≤ 59) (ab_now : NB knowF) (hc_x : 0 ≤ x.toInt ∧ x.toInt ≤ 35) (hc_y : 0 ≤ y.toInt ∧ y.toInt ≤ 35) (hkn : 1 ≤ nq) (hn3 : nq ≤ 3) : Met l yX12_meets wsX12_meets ({ frames := 4, cells := 0, slots := 0, locals := 91 }) (PcU dC dI ky [.ref o, .int x, .int y, .int (nI 1), .int (nI nq)] [(o, .inr (12, [.int kthrown, .ref ktape, .int (nI ktaped), .int (nI ksize), .int (nI klimit), .int (nI kto), .int (nI kfrom), .int kkind, .int knumber, .int ksign, .int kfault, .int kplace, .long kword, .int ktold, .ref know, .ref kread, .ref kkept, .ref ksnaps, .ref kaside, .ref kname, .ref kreadName, .ref kkeptName, .ref kisKept, .ref konces, .int (nI ksnapMany), .int khasCells, .ref kpoured, .ref kfar, .ref ksides, .int (nI ksideMany), .int kwayDays, .int khasWay, .ref klines, .ref kmet, .int (nI kmetMany), .ref ksunk, .ref ktrying, .int (nI ksunkMany), .int ksending, .int kfleets, .ref ktext, .int (nI ktexts), .int kseed, .ref kline, .ref kwritten, .int (nI klineMany), .int khasWritten, .ref knode, .int (nI knodes), .int (nI konesMany), .int (nI kwithin), .int (nI ktop)])), (know, .inl (ky 0, 373, .inl knowF)), (klines, .inl (ky 0, 3, .inl klinesF))] sz) (va_Qi (fun (r : Int32) (klinesG : (Nat → Int32)) => r = nI 0 ∨ r = nI 1) (BU dC dI ky (fun (klinesG : (Nat → Int32)) => [(o, .inr (12, [.int kthrown, .ref ktape, .int (nI ktaped), .int (nI ksize), .int (nI klimit), .int (nI kto), .int (nI kfrom), .int kkind, .int knumber, .int ksign, .int kfault, .int kplace, .long kword, .int ktold, .ref know, .ref kread, .ref kkept, .ref ksnaps, .ref kaside, .ref kname, .ref kreadName, .ref kkeptName, .ref kisKept, .ref konces, .int (nI ksnapMany), .int khasCells, .ref kpoured, .ref kfar, .ref ksides, .int (nI ksideMany), .int kwayDays, .int khasWay, .ref klines, .ref kmet, .int (nI kmetMany), .ref ksunk, .ref ktrying, .int (nI ksunkMany), .int ksending, .int kfleets, .ref ktext, .int (nI ktexts), .int kseed, .ref kline, .ref kwritten, .int (nI klineMany), .int khasWritten, .ref knode, .int (nI knodes), .int (nI konesMany), .int (nI kwithin), .int (nI ktop)])), (know, .inl (ky 0, 373, .inl knowF)), (klines, .inl (ky 0, 3, .inl klinesG))]) (va_A [(o, .inr (12, [.int kthrown, .ref ktape, .int (nI ktaped), .int (nI ksize), .int (nI klimit), .int (nI kto), .int (nI kfrom), .int kkind, .int knumber, .int ksign, .int kfault, .int kplace, .long kword, .int ktold, .ref know, .ref kread, .ref kkept, .ref ksnaps, .ref kaside, .ref kname, .ref kreadName, .ref kkeptName, .ref kisKept, .ref konces, .int (nI ksnapMany), .int khasCells, .ref kpoured, .ref kfar, .ref ksides, .int (nI ksideMany), .int kwayDays, .int khasWay, .ref klines, .ref kmet, .int (nI kmetMany), .ref ksunk, .ref ktrying, .int (nI ksunkMany), .int ksending, .int kfleets, .ref ktext, .int (nI ktexts), .int kseed, .ref kline, .ref kwritten, .int (nI klineMany), .int khasWritten, .ref knode, .int (nI knodes), .int (nI konesMany), .int (nI kwithin), .int (nI ktop)])), (know, .inl (ky 0, 373, .inl knowF)), (klines, .inl (ky 0, 3, .inl klinesF))] sz)) (va_A [(o, .inr (12, [.int kthrown, .ref ktape, .int (nI ktaped), .int (nI ksize), .int (nI klimit), .int (nI kto), .int (nI kfrom), .int kkind, .int knumber, .int ksign, .int kfault, .int kplace, .long kword, .int ktold, .ref know, .ref kread, .ref kkept, .ref ksnaps, .ref kaside, .ref kname, .ref kreadName, .ref kkeptName, .ref kisKept, .ref konces, .int (nI ksnapMany), .int khasCells, .ref kpoured, .ref kfar, .ref ksides, .int (nI ksideMany), .int kwayDays, .int khasWay, .ref klines, .ref kmet, .int (nI kmetMany), .ref ksunk, .ref ktrying, .int (nI ksunkMany), .int ksending, .int kfleets, .ref ktext, .int (nI ktexts), .int kseed, .ref kline, .ref kwritten, .int (nI klineMany), .int khasWritten, .ref knode, .int (nI knodes), .int (nI konesMany), .int (nI kwithin), .int (nI ktop)])), (know, .inl (ky 0, 373, .inl knowF)), (klines, .inl (ky 0, 3, .inl klinesF))] sz)) 0 0 (va_A [(o, .inr (12, [.int kthrown, .ref ktape, .int (nI ktaped), .int (nI ksize), .int (nI klimit), .int (nI kto), .int (nI kfrom), .int kkind, .int knumber, .int ksign, .int kfault, .int kplace, .long kword, .int ktold, .ref know, .ref kread, .ref kkept, .ref ksnaps, .ref kaside, .ref kname, .ref kreadName, .ref kkeptName, .ref kisKept, .ref konces, .int (nI ksnapMany), .int khasCells, .ref kpoured, .ref kfar, .ref ksides, .int (nI ksideMany), .int kwayDays, .int khasWay, .ref klines, .ref kmet, .int (nI kmetMany), .ref ksunk, .ref ktrying, .int (nI ksunkMany), .int ksending, .int kfleets, .ref ktext, .int (nI ktexts), .int kseed, .ref kline, .ref kwritten, .int (nI klineMany), .int khasWritten, .ref knode, .int (nI knodes), .int (nI konesMany), .int (nI kwithin), .int (nI ktop)])), (know, .inl (ky 0, 373, .inl knowF)), (klines, .inl (ky 0, 3, .inl klinesF))] sz) := by
  refine Met.ofW (cc := cX12_meets) (maxL := 6) (ret := (some .boolean)) (by decide) rfl ?_
  intro p e s m args below meth c s₁ B hml hv
  obtain ⟨rfl, hsz, hP, hK, hD0⟩ := hv
  have hx := B.exec
  have hb := B.bytes
  have hr := B.returns
  have hts := atoms_spec (ws := wsX12_meets) B.pre
  have hown : s.vm.findClass RX12 = some m.cls := findClass_of_methodNamed B.named
  have hlocks := B.notSynchronized
  have hin12 : ∀ w ∈ u_ws RX12 TX12 52, w ∈ wsX12_meets := by decide +kernel
  subst hsz
  have hD := hD0.self (sz := s.heap.size)
  generalize hAe : va_A [(o, .inr (12, [.int kthrown, .ref ktape, .int (nI ktaped), .int (nI ksize), .int (nI klimit), .int (nI kto), .int (nI kfrom), .int kkind, .int knumber, .int ksign, .int kfault, .int kplace, .long kword, .int ktold, .ref know, .ref kread, .ref kkept, .ref ksnaps, .ref kaside, .ref kname, .ref kreadName, .ref kkeptName, .ref kisKept, .ref konces, .int (nI ksnapMany), .int khasCells, .ref kpoured, .ref kfar, .ref ksides, .int (nI ksideMany), .int kwayDays, .int khasWay, .ref klines, .ref kmet, .int (nI kmetMany), .ref ksunk, .ref ktrying, .int (nI ksunkMany), .int ksending, .int kfleets, .ref ktext, .int (nI ktexts), .int kseed, .ref kline, .ref kwritten, .int (nI klineMany), .int khasWritten, .ref knode, .int (nI knodes), .int (nI konesMany), .int (nI kwithin), .int (nI ktop)])), (know, .inl (ky 0, 373, .inl knowF)), (klines, .inl (ky 0, 3, .inl klinesF))] s.heap.size = A at hD ⊢
  have hA : ∀ q : Nat, s.heap.size ≤ q → A q := fun q h => by rw [← hAe]; exact Or.inr h
  have hS : va_S A s.heap s.heap [] := va_S.rf
  have hl := lv_entry ([.ref o, .int x, .int y, .int (nI 1), .int (nI nq)]) (n := 6) (Nat.le_of_ble_eq_true rfl)
  rw [lg_entry_eq]
  generalize (lg_sl ([.ref o, .int x, .int y, .int (nI 1), .int (nI nq)]) ++ List.replicate (6 - (lg_sl ([.ref o, .int x, .int y, .int (nI 1), .int (nI nq)])).length) Slot.unset).toArray = ls at hl ⊢
  have hl : lv_has ls 6 [(0, .ref o), (1, .int x), (2, .int y), (3, .int (nI 1)), (4, .int (nI nq))] := hl
  refine q_name (fun Q hQ => ?_)
  generalize ([.ref o, .int x, .int y, .int (nI 1), .int (nI nq)] : List Value).toArray = args at hts hQ ⊢
  refine lv_iload_n hx hb dX12_meets_0 rfl (lv_at hl 3 rfl) ?_
  refine lv_iload hx hb dX12_meets_1 (lv_at hl 4 rfl) ?_
  refine n_icmp_ne (x := 1) (y := nq) (tgt := 12) hx hb (by omega) (by omega) dX12_meets_3 (by decide) (fun c1 => ?_) (fun c1 => ?_)
  · refine lv_iconst (v := nI 0) hx hb dX12_meets_12 (by decide) ?_
    refine lv_istore (lv' := [(5, .int (nI 0)), (0, .ref o), (1, .int x), (2, .int y), (3, .int (nI 1)), (4, .int (nI nq))]) hx hb dX12_meets_13 hl (by decide) rfl (fun ls hl => ?_)
    have hL11 : ∀ (n12 : Nat) (k8 : Nat) (f9 : Nat → Int32), (k8 ≤ 24) → 24 - k8 < n12 → ∀ (H : Heap) (locs : List Loc) (ls : Array Slot), va_P (dC, dI) vwCl [(o, .inr (12, [.int kthrown, .ref ktape, .int (nI ktaped), .int (nI ksize), .int (nI klimit), .int (nI kto), .int (nI kfrom), .int kkind, .int knumber, .int ksign, .int kfault, .int kplace, .long kword, .int ktold, .ref know, .ref kread, .ref kkept, .ref ksnaps, .ref kaside, .ref kname, .ref kreadName, .ref kkeptName, .ref kisKept, .ref konces, .int (nI ksnapMany), .int khasCells, .ref kpoured, .ref kfar, .ref ksides, .int (nI ksideMany), .int kwayDays, .int khasWay, .ref klines, .ref kmet, .int (nI kmetMany), .ref ksunk, .ref ktrying, .int (nI ksunkMany), .int ksending, .int kfleets, .ref ktext, .int (nI ktexts), .int kseed, .ref kline, .ref kwritten, .int (nI klineMany), .int khasWritten, .ref knode, .int (nI knodes), .int (nI konesMany), .int (nI kwithin), .int (nI ktop)])), (know, .inl (ky 0, 373, .inl knowF)), (klines, .inl (ky 0, 3, .inl f9))] H → va_D A [(o, .inr (12, [.int kthrown, .ref ktape, .int (nI ktaped), .int (nI ksize), .int (nI klimit), .int (nI kto), .int (nI kfrom), .int kkind, .int knumber, .int ksign, .int kfault, .int kplace, .long kword, .int ktold, .ref know, .ref kread, .ref kkept, .ref ksnaps, .ref kaside, .ref kname, .ref kreadName, .ref kkeptName, .ref kisKept, .ref konces, .int (nI ksnapMany), .int khasCells, .ref kpoured, .ref kfar, .ref ksides, .int (nI ksideMany), .int kwayDays, .int khasWay, .ref klines, .ref kmet, .int (nI kmetMany), .ref ksunk, .ref ktrying, .int (nI ksunkMany), .int ksending, .int kfleets, .ref ktext, .int (nI ktexts), .int kseed, .ref kline, .ref kwritten, .int (nI klineMany), .int khasWritten, .ref knode, .int (nI knodes), .int (nI konesMany), .int (nI kwithin), .int (nI ktop)])), (know, .inl (ky 0, 373, .inl knowF)), (klines, .inl (ky 0, 3, .inl f9))] → va_S A s.heap H locs → lv_has ls 6 [(5, .int (nI k8)), (0, .ref o), (1, .int x), (2, .int y), (3, .int (nI 1)), (4, .int (nI nq))] → W p l e (headSpec wsX12_meets ({ frames := 4, cells := 0, slots := 0, locals := 91 })).room s m args below meth c H locs 0 0 Q (F0 m 15 ls []) := by
      intro n12
      induction n12 with
      | zero => intro k8 f9 _ h9; exact absurd h9 (Nat.not_lt_zero _)
      | succ n12 ih13 =>
        intro k8 f9 j10 hm14 H locs ls hP hD hS hl
        refine lv_iload hx hb dX12_meets_15 (lv_at hl 0 rfl) ?_
        refine lv_bipush (v := nI 24) hx hb dX12_meets_17 (by decide) ?_
        refine n_icmp_ge (x := k8) (y := 24) (tgt := 76) hx hb (by omega) (by omega) dX12_meets_19 (by decide) (fun c15 => ?_) (fun c15 => ?_)
        · refine lv_iconst (v := nI 0) hx hb dX12_meets_76 (by decide) ?_
          rw [hQ]
          exact W.zret (v := nI 0) hx hb hr (by decide) (fun t9 ht9 hW9 => ⟨⟨nI 0, f9, rfl, (lf_x_meets1_1), by rw [ht9]; exact hP, va_K.moved hW9.alike hK, hD⟩, hS.F ht9⟩) hS.2.2 dX12_meets_77
        · refine lv_aload_n hx hb dX12_meets_22 rfl (lv_at hl 1 rfl) ?_
          refine lv_iload hx hb dX12_meets_23 (lv_at hl 0 rfl) ?_
          refine vp_callSi (W.runV (As := [.int (nI k8)]) (rest := []) ⟨hx, hb, hml, hown, hts⟩ (c_x_isLine l dC dI ky o kthrown ktape ktaped ksize klimit kto kfrom kkind knumber ksign kfault kplace kword ktold know kread kkept ksnaps kaside kname kreadName kkeptName kisKept konces ksnapMany khasCells kpoured kfar ksides ksideMany kwayDays khasWay klines kmet kmetMany ksunk ktrying ksunkMany ksending kfleets ktext ktexts kseed kline kwritten klineMany khasWritten knode knodes konesMany kwithin ktop knowF (nI k8) iv_ko_0 iv_ko_1 iv_ko_2 iv_ko_3 iv_ko_4 iv_ko_5 iv_ko_6 iv_ko_7 iv_ko_8 iv_ko_9 iv_ko_10 iv_ko_11 iv_ko_12 iv_ko_13 iv_ko_14 ab_now (lf_x_meets1_2 k8 n12 j10 hm14 c15)) (cwV 1 hts gX12_meets_X12_isLine rfl rfl rfl (by decide +kernel) ⟨(Nat.le_of_ble_eq_true rfl), (Nat.le_of_ble_eq_true rfl)⟩) (pre_PV hK hP [0, 1] rfl (ci := 12) (q0 := 0) rfl rfl) rfl rfl hl.1 rfl (lv_room (Nat.le_of_ble_eq_true rfl)) dX12_meets_25 ⟨(Nat.le_of_ble_eq_true rfl), (Nat.le_of_ble_eq_true rfl)⟩) (fun r16 p17 => ?_)
          refine lv_if_ne (tgt := 34) hx hb dX12_meets_28 (by decide) (fun c18 => ?_) (fun c18 => ?_)
          · refine lv_aload_n hx hb dX12_meets_34 rfl (lv_at hl 1 rfl) ?_
            refine va_get (D := (dC, dI)) (ci := 12) (v := .ref klines) (C := RX12) (T := TX12) (N := 52) hx hb hts hin12 hown hK hP 0 rfl rfl 32 (by decide) (hts (.fieldLink RX12 142 "PorridgeSeaModel" "lines" "[I") (List.mem_of_getElem? (i := 1) rfl)) (fun _ h9 => h9) rfl dX12_meets_35 ?_
            refine lv_iload_n hx hb dX12_meets_38 rfl (lv_at hl 4 rfl) ?_
            refine lv_iload hx hb dX12_meets_39 (lv_at hl 0 rfl) ?_
            refine r_iast (x := (nI k8)) hx hb hK hP hD hS 2 rfl 1 (by decide) (by decide) dX12_meets_41 (fun H locs hP hD hS => ?_)
            obtain ⟨g19, e20⟩ : ∃ z9, z9 = upd f9 1 (nI k8) := ⟨_, rfl⟩
            rw [← e20] at hP hD
            have hP : va_P (dC, dI) vwCl [(o, .inr (12, [.int kthrown, .ref ktape, .int (nI ktaped), .int (nI ksize), .int (nI klimit), .int (nI kto), .int (nI kfrom), .int kkind, .int knumber, .int ksign, .int kfault, .int kplace, .long kword, .int ktold, .ref know, .ref kread, .ref kkept, .ref ksnaps, .ref kaside, .ref kname, .ref kreadName, .ref kkeptName, .ref kisKept, .ref konces, .int (nI ksnapMany), .int khasCells, .ref kpoured, .ref kfar, .ref ksides, .int (nI ksideMany), .int kwayDays, .int khasWay, .ref klines, .ref kmet, .int (nI kmetMany), .ref ksunk, .ref ktrying, .int (nI ksunkMany), .int ksending, .int kfleets, .ref ktext, .int (nI ktexts), .int kseed, .ref kline, .ref kwritten, .int (nI klineMany), .int khasWritten, .ref knode, .int (nI knodes), .int (nI konesMany), .int (nI kwithin), .int (nI ktop)])), (know, .inl (ky 0, 373, .inl knowF)), (klines, .inl (ky 0, 3, .inl g19))] H := hP
            have hD : va_D A [(o, .inr (12, [.int kthrown, .ref ktape, .int (nI ktaped), .int (nI ksize), .int (nI klimit), .int (nI kto), .int (nI kfrom), .int kkind, .int knumber, .int ksign, .int kfault, .int kplace, .long kword, .int ktold, .ref know, .ref kread, .ref kkept, .ref ksnaps, .ref kaside, .ref kname, .ref kreadName, .ref kkeptName, .ref kisKept, .ref konces, .int (nI ksnapMany), .int khasCells, .ref kpoured, .ref kfar, .ref ksides, .int (nI ksideMany), .int kwayDays, .int khasWay, .ref klines, .ref kmet, .int (nI kmetMany), .ref ksunk, .ref ktrying, .int (nI ksunkMany), .int ksending, .int kfleets, .ref ktext, .int (nI ktexts), .int kseed, .ref kline, .ref kwritten, .int (nI klineMany), .int khasWritten, .ref knode, .int (nI knodes), .int (nI konesMany), .int (nI kwithin), .int (nI ktop)])), (know, .inl (ky 0, 373, .inl knowF)), (klines, .inl (ky 0, 3, .inl g19))] := hD
            refine lv_aload_n hx hb dX12_meets_42 rfl (lv_at hl 1 rfl) ?_
            refine lv_aload_n hx hb dX12_meets_43 rfl (lv_at hl 1 rfl) ?_
            refine lv_iload_n hx hb dX12_meets_44 rfl (lv_at hl 2 rfl) ?_
            refine lv_iload hx hb dX12_meets_45 (lv_at hl 0 rfl) ?_
            refine vp_callSi (W.runV (As := [.int x, .int (nI k8)]) (rest := [.ref o]) ⟨hx, hb, hml, hown, hts⟩ (c_x_stirred l dC dI ky o kthrown ktape ktaped ksize klimit kto kfrom kkind knumber ksign kfault kplace kword ktold know kread kkept ksnaps kaside kname kreadName kkeptName kisKept konces ksnapMany khasCells kpoured kfar ksides ksideMany kwayDays khasWay klines kmet kmetMany ksunk ktrying ksunkMany ksending kfleets ktext ktexts kseed kline kwritten klineMany khasWritten knode knodes konesMany kwithin ktop knowF x (nI k8) iv_ko_0 iv_ko_1 iv_ko_2 iv_ko_3 iv_ko_4 iv_ko_5 iv_ko_6 iv_ko_7 iv_ko_8 iv_ko_9 iv_ko_10 iv_ko_11 iv_ko_12 iv_ko_13 iv_ko_14 ab_now hc_x (lf_x_meets1_3 k8 n12 j10 hm14 c15)) (cwV 2 hts gX12_meets_X12_stirred rfl rfl rfl (by decide +kernel) ⟨(Nat.le_of_ble_eq_true rfl), (Nat.le_of_ble_eq_true rfl)⟩) (pre_PV hK hP [0, 1] rfl (ci := 12) (q0 := 0) rfl rfl) rfl rfl hl.1 rfl (lv_room (Nat.le_of_ble_eq_true rfl)) dX12_meets_47 ⟨(Nat.le_of_ble_eq_true rfl), (Nat.le_of_ble_eq_true rfl)⟩) (fun r21 p22 => ?_)
            obtain ⟨k23, h25, rfl⟩ := p22
            refine lv_aload_n hx hb dX12_meets_50 rfl (lv_at hl 1 rfl) ?_
            refine lv_iload_n hx hb dX12_meets_51 rfl (lv_at hl 3 rfl) ?_
            refine lv_iload hx hb dX12_meets_52 (lv_at hl 0 rfl) ?_
            refine vp_callSi (W.runV (As := [.int y, .int (nI k8)]) (rest := [.int (nI k23), .ref o]) ⟨hx, hb, hml, hown, hts⟩ (c_x_stirred l dC dI ky o kthrown ktape ktaped ksize klimit kto kfrom kkind knumber ksign kfault kplace kword ktold know kread kkept ksnaps kaside kname kreadName kkeptName kisKept konces ksnapMany khasCells kpoured kfar ksides ksideMany kwayDays khasWay klines kmet kmetMany ksunk ktrying ksunkMany ksending kfleets ktext ktexts kseed kline kwritten klineMany khasWritten knode knodes konesMany kwithin ktop knowF y (nI k8) iv_ko_0 iv_ko_1 iv_ko_2 iv_ko_3 iv_ko_4 iv_ko_5 iv_ko_6 iv_ko_7 iv_ko_8 iv_ko_9 iv_ko_10 iv_ko_11 iv_ko_12 iv_ko_13 iv_ko_14 ab_now hc_y (lf_x_meets1_4 k8 n12 j10 hm14 c15)) (cwV 2 hts gX12_meets_X12_stirred rfl rfl rfl (by decide +kernel) ⟨(Nat.le_of_ble_eq_true rfl), (Nat.le_of_ble_eq_true rfl)⟩) (pre_PV hK hP [0, 1] rfl (ci := 12) (q0 := 0) rfl rfl) rfl rfl hl.1 rfl (lv_room (Nat.le_of_ble_eq_true rfl)) dX12_meets_54 ⟨(Nat.le_of_ble_eq_true rfl), (Nat.le_of_ble_eq_true rfl)⟩) (fun r26 p27 => ?_)
            obtain ⟨k28, h30, rfl⟩ := p27
            refine lv_iload_n hx hb dX12_meets_57 rfl (lv_at hl 4 rfl) ?_
            refine lv_iconst (v := nI 1) hx hb dX12_meets_58 (by decide) ?_
            refine lv_iadd hx hb dX12_meets_59 ?_
            refine r_ti (nI 2) (by decide) ?_
            refine lv_iload hx hb dX12_meets_60 (lv_at hl 5 rfl) ?_
            refine r_call_i (wr := []) (va_runV (As := [.int (nI k23), .int (nI k28), .int (nI 2), .int (nI nq)]) (rest := []) ⟨hx, hb, hml, hown, hts⟩ (c_x_meets2 l dC dI ky H.size o kthrown ktape ktaped ksize klimit kto kfrom kkind knumber ksign kfault kplace kword ktold know kread kkept ksnaps kaside kname kreadName kkeptName kisKept konces ksnapMany khasCells kpoured kfar ksides ksideMany kwayDays khasWay klines kmet kmetMany ksunk ktrying ksunkMany ksending kfleets ktext ktexts kseed kline kwritten klineMany khasWritten knode knodes konesMany kwithin ktop knowF g19 (nI k23) (nI k28) nq iv_ko_0 iv_ko_1 iv_ko_2 iv_ko_3 iv_ko_4 iv_ko_5 iv_ko_6 iv_ko_7 iv_ko_8 iv_ko_9 iv_ko_10 iv_ko_11 iv_ko_12 iv_ko_13 iv_ko_14 ab_now (lf_x_meets1_5 k23 h25) (lf_x_meets1_6 k28 h30) (lf_x_meets1_7 nq hkn hn3 c1) hn3) (cwV 4 hts gX12_meets_X12_meets rfl rfl rfl (by decide +kernel) ⟨(Nat.le_of_ble_eq_true rfl), (Nat.le_of_ble_eq_true rfl)⟩) (pre_UV hK hP hD [0, 1, 2] (by decide) rfl (ci := 12) (q0 := 0) rfl rfl) rfl rfl hl.1 rfl (lv_room (Nat.le_of_ble_eq_true rfl)) dX12_meets_62 ⟨(Nat.le_of_ble_eq_true rfl), (Nat.le_of_ble_eq_true rfl)⟩) hP hD hS hA [0, 1, 2] [] rfl rfl (by decide) (by decide) (fun r33 u31 H locs p32 hP hD hS => ?_)
            obtain ⟨klinesG_34, rfl⟩ : ∃ z, z = u31 := ⟨_, rfl⟩
            try dsimp only at p32
            have p35 := p32
            refine W.widen (k := 0) (n := 0) (Nat.le_of_ble_eq_true rfl) (Nat.le_of_ble_eq_true rfl) ?_
            have hP : va_P (dC, dI) vwCl [(o, .inr (12, [.int kthrown, .ref ktape, .int (nI ktaped), .int (nI ksize), .int (nI klimit), .int (nI kto), .int (nI kfrom), .int kkind, .int knumber, .int ksign, .int kfault, .int kplace, .long kword, .int ktold, .ref know, .ref kread, .ref kkept, .ref ksnaps, .ref kaside, .ref kname, .ref kreadName, .ref kkeptName, .ref kisKept, .ref konces, .int (nI ksnapMany), .int khasCells, .ref kpoured, .ref kfar, .ref ksides, .int (nI ksideMany), .int kwayDays, .int khasWay, .ref klines, .ref kmet, .int (nI kmetMany), .ref ksunk, .ref ktrying, .int (nI ksunkMany), .int ksending, .int kfleets, .ref ktext, .int (nI ktexts), .int kseed, .ref kline, .ref kwritten, .int (nI klineMany), .int khasWritten, .ref knode, .int (nI knodes), .int (nI konesMany), .int (nI kwithin), .int (nI ktop)])), (know, .inl (ky 0, 373, .inl knowF)), (klines, .inl (ky 0, 3, .inl klinesG_34))] H := hP
            have hD : va_D A [(o, .inr (12, [.int kthrown, .ref ktape, .int (nI ktaped), .int (nI ksize), .int (nI klimit), .int (nI kto), .int (nI kfrom), .int kkind, .int knumber, .int ksign, .int kfault, .int kplace, .long kword, .int ktold, .ref know, .ref kread, .ref kkept, .ref ksnaps, .ref kaside, .ref kname, .ref kreadName, .ref kkeptName, .ref kisKept, .ref konces, .int (nI ksnapMany), .int khasCells, .ref kpoured, .ref kfar, .ref ksides, .int (nI ksideMany), .int kwayDays, .int khasWay, .ref klines, .ref kmet, .int (nI kmetMany), .ref ksunk, .ref ktrying, .int (nI ksunkMany), .int ksending, .int kfleets, .ref ktext, .int (nI ktexts), .int kseed, .ref kline, .ref kwritten, .int (nI klineMany), .int khasWritten, .ref knode, .int (nI knodes), .int (nI konesMany), .int (nI kwithin), .int (nI ktop)])), (know, .inl (ky 0, 373, .inl knowF)), (klines, .inl (ky 0, 3, .inl klinesG_34))] := hD
            refine lv_if_eq (tgt := 70) hx hb dX12_meets_65 (by decide) (fun c36 => ?_) (fun c36 => ?_)
            · refine lv_iinc (v := nI (k8 + 1)) (lv' := [(5, .int (nI (k8 + 1))), (0, .ref o), (1, .int x), (2, .int y), (3, .int (nI 1)), (4, .int (nI nq))]) hx hb dX12_meets_70 hl (k := 0) rfl (show nI k8 + nI 1 = nI (k8 + 1) from nI_add _ _) (by decide) rfl (fun ls hl => ?_)
              refine lv_goto (tgt := 15) hx hb dX12_meets_73 (by decide) ?_
              exact ih13 (k8 + 1) klinesG_34 (lf_x_meets1_8 k8 n12 j10 hm14 c15) (lf_x_meets1_9 k8 n12 j10 hm14 c15) _ _ _ hP hD hS (lv_sub hl [0, 1, 2, 3, 4, 5] rfl)
            · refine lv_iconst (v := nI 1) hx hb dX12_meets_68 (by decide) ?_
              rw [hQ]
              exact W.zret (v := nI 1) hx hb hr (by decide) (fun t9 ht9 hW9 => ⟨⟨nI 1, klinesG_34, rfl, (lf_x_meets1_10), by rw [ht9]; exact hP, va_K.moved hW9.alike hK, hD⟩, hS.F ht9⟩) hS.2.2 dX12_meets_69
          · refine lv_goto (tgt := 70) hx hb dX12_meets_31 (by decide) ?_
            refine lv_iinc (v := nI (k8 + 1)) (lv' := [(5, .int (nI (k8 + 1))), (0, .ref o), (1, .int x), (2, .int y), (3, .int (nI 1)), (4, .int (nI nq))]) hx hb dX12_meets_70 hl (k := 0) rfl (show nI k8 + nI 1 = nI (k8 + 1) from nI_add _ _) (by decide) rfl (fun ls hl => ?_)
            refine lv_goto (tgt := 15) hx hb dX12_meets_73 (by decide) ?_
            exact ih13 (k8 + 1) f9 (lf_x_meets1_11 k8 n12 j10 hm14 c15) (lf_x_meets1_12 k8 n12 j10 hm14 c15) _ _ _ hP hD hS (lv_sub hl [0, 1, 2, 3, 4, 5] rfl)
    exact hL11 ((24 - 0) + 1) 0 klinesF (lf_x_meets1_13) (Nat.lt_succ_self _) _ _ _ hP hD hS (lv_sub hl [0, 1, 2, 3, 4, 5] rfl)
  · refine lv_iload_n hx hb dX12_meets_6 rfl (lv_at hl 1 rfl) ?_
    refine lv_iload_n hx hb dX12_meets_7 rfl (lv_at hl 2 rfl) ?_
    refine vp_callSi (W.runS (As := [.int x, .int y]) (rest := []) ⟨hx, hb, hml, hown, hts⟩ (c_x_areNear l dC dI ky x y) (va_cwS 2 hts gX12_meets_X12_areNear rfl rfl rfl (by decide +kernel) ⟨(Nat.le_of_ble_eq_true rfl), (Nat.le_of_ble_eq_true rfl)⟩) (pre_PS hK hP [] rfl) rfl rfl hl.1 rfl (lv_room (Nat.le_of_ble_eq_true rfl)) dX12_meets_8 ⟨(Nat.le_of_ble_eq_true rfl), (Nat.le_of_ble_eq_true rfl)⟩) (fun r37 p38 => ?_)
    rw [hQ]
    exact W.zret (v := r37) hx hb hr ((lf_x_meets1_14 r37 p38)) (fun t9 ht9 hW9 => ⟨⟨r37, klinesF, rfl, p38, by rw [ht9]; exact hP, va_K.moved hW9.alike hK, hD⟩, hS.F ht9⟩) hS.2.2 dX12_meets_11
set_option maxRecDepth 20000 in
theorem lf_x_meets0_1   : (nI 0) = nI 0 ∨ (nI 0) = nI 1 := by
  try have k_0 := ia_n 0 (by first | decide | omega)
  try have k_1 := ia_n 1 (by first | decide | omega)
  try simp only [ia_lt, ia_le, ia_eq, ia_m1, ia_0, ia_1, ne_eq, true_and, and_true, false_and, and_false, or_false, false_or, or_true, true_or, not_true_eq_false, not_false_eq_true] at *
  all_goals omega
set_option maxRecDepth 20000 in
theorem lf_x_meets0_2 (k8 : Nat) (n12 : Nat) (j10 : k8 ≤ 24) (hm14 : 24 - k8 < n12 + 1) (c15 : k8 < 24) : 0 ≤ (nI k8).toInt ∧ (nI k8).toInt ≤ 23 := by
  try have k_0 := ia_n k8 (by first | decide | omega)
  try simp only [ia_lt, ia_le, ia_eq, ia_m1, ia_0, ia_1, ne_eq, true_and, and_true, false_and, and_false, or_false, false_or, or_true, true_or, not_true_eq_false, not_false_eq_true] at *
  all_goals omega
set_option maxRecDepth 20000 in
theorem lf_x_meets0_3 (k8 : Nat) (n12 : Nat) (j10 : k8 ≤ 24) (hm14 : 24 - k8 < n12 + 1) (c15 : k8 < 24) : 0 ≤ (nI k8).toInt ∧ (nI k8).toInt ≤ 23 := by
  try have k_0 := ia_n k8 (by first | decide | omega)
  try simp only [ia_lt, ia_le, ia_eq, ia_m1, ia_0, ia_1, ne_eq, true_and, and_true, false_and, and_false, or_false, false_or, or_true, true_or, not_true_eq_false, not_false_eq_true] at *
  all_goals omega
set_option maxRecDepth 20000 in
theorem lf_x_meets0_4 (k8 : Nat) (n12 : Nat) (j10 : k8 ≤ 24) (hm14 : 24 - k8 < n12 + 1) (c15 : k8 < 24) : 0 ≤ (nI k8).toInt ∧ (nI k8).toInt ≤ 23 := by
  try have k_0 := ia_n k8 (by first | decide | omega)
  try simp only [ia_lt, ia_le, ia_eq, ia_m1, ia_0, ia_1, ne_eq, true_and, and_true, false_and, and_false, or_false, false_or, or_true, true_or, not_true_eq_false, not_false_eq_true] at *
  all_goals omega
set_option maxRecDepth 20000 in
theorem lf_x_meets0_5 (k23 : Nat) (h25 : k23 < 36) : 0 ≤ (nI k23).toInt ∧ (nI k23).toInt ≤ 35 := by
  try have k_0 := ia_n k23 (by first | decide | omega)
  try simp only [ia_lt, ia_le, ia_eq, ia_m1, ia_0, ia_1, ne_eq, true_and, and_true, false_and, and_false, or_false, false_or, or_true, true_or, not_true_eq_false, not_false_eq_true] at *
  all_goals omega
set_option maxRecDepth 20000 in
theorem lf_x_meets0_6 (k28 : Nat) (h30 : k28 < 36) : 0 ≤ (nI k28).toInt ∧ (nI k28).toInt ≤ 35 := by
  try have k_0 := ia_n k28 (by first | decide | omega)
  try simp only [ia_lt, ia_le, ia_eq, ia_m1, ia_0, ia_1, ne_eq, true_and, and_true, false_and, and_false, or_false, false_or, or_true, true_or, not_true_eq_false, not_false_eq_true] at *
  all_goals omega
set_option maxRecDepth 20000 in
theorem lf_x_meets0_7 (nq : Nat) (hkn : 0 ≤ nq) (hn3 : nq ≤ 3) (c1 : 0 ≠ nq) : 1 ≤ nq := by
  try simp only [ia_lt, ia_le, ia_eq, ia_m1, ia_0, ia_1, ne_eq, true_and, and_true, false_and, and_false, or_false, false_or, or_true, true_or, not_true_eq_false, not_false_eq_true] at *
  all_goals omega
set_option maxRecDepth 20000 in
theorem lf_x_meets0_8 (k8 : Nat) (n12 : Nat) (j10 : k8 ≤ 24) (hm14 : 24 - k8 < n12 + 1) (c15 : k8 < 24) : (k8 + 1) ≤ 24 := by
  try simp only [ia_lt, ia_le, ia_eq, ia_m1, ia_0, ia_1, ne_eq, true_and, and_true, false_and, and_false, or_false, false_or, or_true, true_or, not_true_eq_false, not_false_eq_true] at *
  all_goals omega
set_option maxRecDepth 20000 in
theorem lf_x_meets0_9 (k8 : Nat) (n12 : Nat) (j10 : k8 ≤ 24) (hm14 : 24 - k8 < n12 + 1) (c15 : k8 < 24) : 24 - (k8 + 1) < n12 := by
  try simp only [ia_lt, ia_le, ia_eq, ia_m1, ia_0, ia_1, ne_eq, true_and, and_true, false_and, and_false, or_false, false_or, or_true, true_or, not_true_eq_false, not_false_eq_true] at *
  all_goals omega
set_option maxRecDepth 20000 in
theorem lf_x_meets0_10   : (nI 1) = nI 0 ∨ (nI 1) = nI 1 := by
  try have k_0 := ia_n 1 (by first | decide | omega)
  try have k_1 := ia_n 0 (by first | decide | omega)
  try simp only [ia_lt, ia_le, ia_eq, ia_m1, ia_0, ia_1, ne_eq, true_and, and_true, false_and, and_false, or_false, false_or, or_true, true_or, not_true_eq_false, not_false_eq_true] at *
  all_goals omega
set_option maxRecDepth 20000 in
theorem lf_x_meets0_11 (k8 : Nat) (n12 : Nat) (j10 : k8 ≤ 24) (hm14 : 24 - k8 < n12 + 1) (c15 : k8 < 24) : (k8 + 1) ≤ 24 := by
  try simp only [ia_lt, ia_le, ia_eq, ia_m1, ia_0, ia_1, ne_eq, true_and, and_true, false_and, and_false, or_false, false_or, or_true, true_or, not_true_eq_false, not_false_eq_true] at *
  all_goals omega
set_option maxRecDepth 20000 in
theorem lf_x_meets0_12 (k8 : Nat) (n12 : Nat) (j10 : k8 ≤ 24) (hm14 : 24 - k8 < n12 + 1) (c15 : k8 < 24) : 24 - (k8 + 1) < n12 := by
  try simp only [ia_lt, ia_le, ia_eq, ia_m1, ia_0, ia_1, ne_eq, true_and, and_true, false_and, and_false, or_false, false_or, or_true, true_or, not_true_eq_false, not_false_eq_true] at *
  all_goals omega
set_option maxRecDepth 20000 in
theorem lf_x_meets0_13   : 0 ≤ 24 := by
  try simp only [ia_lt, ia_le, ia_eq, ia_m1, ia_0, ia_1, ne_eq, true_and, and_true, false_and, and_false, or_false, false_or, or_true, true_or, not_true_eq_false, not_false_eq_true] at *
  all_goals omega
set_option maxRecDepth 20000 in
theorem lf_x_meets0_14 (r37 : Int32) (p38 : r37 = nI 0 ∨ r37 = nI 1) : narrow .boolean (.int r37) = .int r37 := by
  have h : r37 = 0 ∨ r37 = 1 := by
    have b_r37 := ia_b r37
    try have k_0 := ia_n 0 (by first | decide | omega)
    try have k_1 := ia_n 1 (by first | decide | omega)
    try simp only [ia_lt, ia_le, ia_eq, ia_m1, ia_0, ia_1, ne_eq, true_and, and_true, false_and, and_false, or_false, false_or, or_true, true_or, not_true_eq_false, not_false_eq_true] at *
    all_goals omega
  rcases h with h | h <;> rw [h] <;> rfl
set_option maxHeartbeats 4000000 in
set_option maxRecDepth 100000 in
theorem c_x_meets0 (l : Launch) (dC : Nat → ClassId) (dI : Nat → Nat → Nat) (ky : Nat → ClassId) (sz : Nat) (o : Nat) (kthrown : Int32) (ktape : Nat) (ktaped : Nat) (ksize : Nat) (klimit : Nat) (kto : Nat) (kfrom : Nat) (kkind : Int32) (knumber : Int32) (ksign : Int32) (kfault : Int32) (kplace : Int32) (kword : Int64) (ktold : Int32) (know : Nat) (kread : Nat) (kkept : Nat) (ksnaps : Nat) (kaside : Nat) (kname : Nat) (kreadName : Nat) (kkeptName : Nat) (kisKept : Nat) (konces : Nat) (ksnapMany : Nat) (khasCells : Int32) (kpoured : Nat) (kfar : Nat) (ksides : Nat) (ksideMany : Nat) (kwayDays : Int32) (khasWay : Int32) (klines : Nat) (kmet : Nat) (kmetMany : Nat) (ksunk : Nat) (ktrying : Nat) (ksunkMany : Nat) (ksending : Int32) (kfleets : Int32) (ktext : Nat) (ktexts : Nat) (kseed : Int32) (kline : Nat) (kwritten : Nat) (klineMany : Nat) (khasWritten : Int32) (knode : Nat) (knodes : Nat) (konesMany : Nat) (kwithin : Nat) (ktop : Nat) (knowF : Nat → Int32) (klinesF : Nat → Int32) (x : Int32) (y : Int32) (nq : Nat) (iv_ko_0 : ktaped ≤ 940) (iv_ko_1 : ksize ≤ 940) (iv_ko_2 : klimit ≤ 900) (iv_ko_3 : kto ≤ ksize) (iv_ko_4 : kfrom ≤ 940) (iv_ko_5 : ksnapMany ≤ 8) (iv_ko_6 : ksideMany ≤ 36) (iv_ko_7 : kmetMany ≤ 3) (iv_ko_8 : ksunkMany ≤ 36) (iv_ko_9 : ktexts ≤ 64) (iv_ko_10 : klineMany ≤ 40) (iv_ko_11 : knodes ≤ 60) (iv_ko_12 : konesMany ≤ 20) (iv_ko_13 : kwithin ≤ 8) (iv_ko_14 : ktop ≤ 59) (ab_now : NB knowF) (hc_x : 0 ≤ x.toInt ∧ x.toInt ≤ 35) (hc_y : 0 ≤ y.toInt ∧ y.toInt ≤ 35) (hkn : 0 ≤ nq) (hn3 : nq ≤ 3) : Met l yX12_meets wsX12_meets ({ frames := 5, cells := 0, slots := 0, locals := 116 }) (PcU dC dI ky [.ref o, .int x, .int y, .int (nI 0), .int (nI nq)] [(o, .inr (12, [.int kthrown, .ref ktape, .int (nI ktaped), .int (nI ksize), .int (nI klimit), .int (nI kto), .int (nI kfrom), .int kkind, .int knumber, .int ksign, .int kfault, .int kplace, .long kword, .int ktold, .ref know, .ref kread, .ref kkept, .ref ksnaps, .ref kaside, .ref kname, .ref kreadName, .ref kkeptName, .ref kisKept, .ref konces, .int (nI ksnapMany), .int khasCells, .ref kpoured, .ref kfar, .ref ksides, .int (nI ksideMany), .int kwayDays, .int khasWay, .ref klines, .ref kmet, .int (nI kmetMany), .ref ksunk, .ref ktrying, .int (nI ksunkMany), .int ksending, .int kfleets, .ref ktext, .int (nI ktexts), .int kseed, .ref kline, .ref kwritten, .int (nI klineMany), .int khasWritten, .ref knode, .int (nI knodes), .int (nI konesMany), .int (nI kwithin), .int (nI ktop)])), (know, .inl (ky 0, 373, .inl knowF)), (klines, .inl (ky 0, 3, .inl klinesF))] sz) (va_Qi (fun (r : Int32) (klinesG : (Nat → Int32)) => r = nI 0 ∨ r = nI 1) (BU dC dI ky (fun (klinesG : (Nat → Int32)) => [(o, .inr (12, [.int kthrown, .ref ktape, .int (nI ktaped), .int (nI ksize), .int (nI klimit), .int (nI kto), .int (nI kfrom), .int kkind, .int knumber, .int ksign, .int kfault, .int kplace, .long kword, .int ktold, .ref know, .ref kread, .ref kkept, .ref ksnaps, .ref kaside, .ref kname, .ref kreadName, .ref kkeptName, .ref kisKept, .ref konces, .int (nI ksnapMany), .int khasCells, .ref kpoured, .ref kfar, .ref ksides, .int (nI ksideMany), .int kwayDays, .int khasWay, .ref klines, .ref kmet, .int (nI kmetMany), .ref ksunk, .ref ktrying, .int (nI ksunkMany), .int ksending, .int kfleets, .ref ktext, .int (nI ktexts), .int kseed, .ref kline, .ref kwritten, .int (nI klineMany), .int khasWritten, .ref knode, .int (nI knodes), .int (nI konesMany), .int (nI kwithin), .int (nI ktop)])), (know, .inl (ky 0, 373, .inl knowF)), (klines, .inl (ky 0, 3, .inl klinesG))]) (va_A [(o, .inr (12, [.int kthrown, .ref ktape, .int (nI ktaped), .int (nI ksize), .int (nI klimit), .int (nI kto), .int (nI kfrom), .int kkind, .int knumber, .int ksign, .int kfault, .int kplace, .long kword, .int ktold, .ref know, .ref kread, .ref kkept, .ref ksnaps, .ref kaside, .ref kname, .ref kreadName, .ref kkeptName, .ref kisKept, .ref konces, .int (nI ksnapMany), .int khasCells, .ref kpoured, .ref kfar, .ref ksides, .int (nI ksideMany), .int kwayDays, .int khasWay, .ref klines, .ref kmet, .int (nI kmetMany), .ref ksunk, .ref ktrying, .int (nI ksunkMany), .int ksending, .int kfleets, .ref ktext, .int (nI ktexts), .int kseed, .ref kline, .ref kwritten, .int (nI klineMany), .int khasWritten, .ref knode, .int (nI knodes), .int (nI konesMany), .int (nI kwithin), .int (nI ktop)])), (know, .inl (ky 0, 373, .inl knowF)), (klines, .inl (ky 0, 3, .inl klinesF))] sz)) (va_A [(o, .inr (12, [.int kthrown, .ref ktape, .int (nI ktaped), .int (nI ksize), .int (nI klimit), .int (nI kto), .int (nI kfrom), .int kkind, .int knumber, .int ksign, .int kfault, .int kplace, .long kword, .int ktold, .ref know, .ref kread, .ref kkept, .ref ksnaps, .ref kaside, .ref kname, .ref kreadName, .ref kkeptName, .ref kisKept, .ref konces, .int (nI ksnapMany), .int khasCells, .ref kpoured, .ref kfar, .ref ksides, .int (nI ksideMany), .int kwayDays, .int khasWay, .ref klines, .ref kmet, .int (nI kmetMany), .ref ksunk, .ref ktrying, .int (nI ksunkMany), .int ksending, .int kfleets, .ref ktext, .int (nI ktexts), .int kseed, .ref kline, .ref kwritten, .int (nI klineMany), .int khasWritten, .ref knode, .int (nI knodes), .int (nI konesMany), .int (nI kwithin), .int (nI ktop)])), (know, .inl (ky 0, 373, .inl knowF)), (klines, .inl (ky 0, 3, .inl klinesF))] sz)) 0 0 (va_A [(o, .inr (12, [.int kthrown, .ref ktape, .int (nI ktaped), .int (nI ksize), .int (nI klimit), .int (nI kto), .int (nI kfrom), .int kkind, .int knumber, .int ksign, .int kfault, .int kplace, .long kword, .int ktold, .ref know, .ref kread, .ref kkept, .ref ksnaps, .ref kaside, .ref kname, .ref kreadName, .ref kkeptName, .ref kisKept, .ref konces, .int (nI ksnapMany), .int khasCells, .ref kpoured, .ref kfar, .ref ksides, .int (nI ksideMany), .int kwayDays, .int khasWay, .ref klines, .ref kmet, .int (nI kmetMany), .ref ksunk, .ref ktrying, .int (nI ksunkMany), .int ksending, .int kfleets, .ref ktext, .int (nI ktexts), .int kseed, .ref kline, .ref kwritten, .int (nI klineMany), .int khasWritten, .ref knode, .int (nI knodes), .int (nI konesMany), .int (nI kwithin), .int (nI ktop)])), (know, .inl (ky 0, 373, .inl knowF)), (klines, .inl (ky 0, 3, .inl klinesF))] sz) := by
  refine Met.ofW (cc := cX12_meets) (maxL := 6) (ret := (some .boolean)) (by decide) rfl ?_
  intro p e s m args below meth c s₁ B hml hv
  obtain ⟨rfl, hsz, hP, hK, hD0⟩ := hv
  have hx := B.exec
  have hb := B.bytes
  have hr := B.returns
  have hts := atoms_spec (ws := wsX12_meets) B.pre
  have hown : s.vm.findClass RX12 = some m.cls := findClass_of_methodNamed B.named
  have hlocks := B.notSynchronized
  have hin12 : ∀ w ∈ u_ws RX12 TX12 52, w ∈ wsX12_meets := by decide +kernel
  subst hsz
  have hD := hD0.self (sz := s.heap.size)
  generalize hAe : va_A [(o, .inr (12, [.int kthrown, .ref ktape, .int (nI ktaped), .int (nI ksize), .int (nI klimit), .int (nI kto), .int (nI kfrom), .int kkind, .int knumber, .int ksign, .int kfault, .int kplace, .long kword, .int ktold, .ref know, .ref kread, .ref kkept, .ref ksnaps, .ref kaside, .ref kname, .ref kreadName, .ref kkeptName, .ref kisKept, .ref konces, .int (nI ksnapMany), .int khasCells, .ref kpoured, .ref kfar, .ref ksides, .int (nI ksideMany), .int kwayDays, .int khasWay, .ref klines, .ref kmet, .int (nI kmetMany), .ref ksunk, .ref ktrying, .int (nI ksunkMany), .int ksending, .int kfleets, .ref ktext, .int (nI ktexts), .int kseed, .ref kline, .ref kwritten, .int (nI klineMany), .int khasWritten, .ref knode, .int (nI knodes), .int (nI konesMany), .int (nI kwithin), .int (nI ktop)])), (know, .inl (ky 0, 373, .inl knowF)), (klines, .inl (ky 0, 3, .inl klinesF))] s.heap.size = A at hD ⊢
  have hA : ∀ q : Nat, s.heap.size ≤ q → A q := fun q h => by rw [← hAe]; exact Or.inr h
  have hS : va_S A s.heap s.heap [] := va_S.rf
  have hl := lv_entry ([.ref o, .int x, .int y, .int (nI 0), .int (nI nq)]) (n := 6) (Nat.le_of_ble_eq_true rfl)
  rw [lg_entry_eq]
  generalize (lg_sl ([.ref o, .int x, .int y, .int (nI 0), .int (nI nq)]) ++ List.replicate (6 - (lg_sl ([.ref o, .int x, .int y, .int (nI 0), .int (nI nq)])).length) Slot.unset).toArray = ls at hl ⊢
  have hl : lv_has ls 6 [(0, .ref o), (1, .int x), (2, .int y), (3, .int (nI 0)), (4, .int (nI nq))] := hl
  refine q_name (fun Q hQ => ?_)
  generalize ([.ref o, .int x, .int y, .int (nI 0), .int (nI nq)] : List Value).toArray = args at hts hQ ⊢
  refine lv_iload_n hx hb dX12_meets_0 rfl (lv_at hl 3 rfl) ?_
  refine lv_iload hx hb dX12_meets_1 (lv_at hl 4 rfl) ?_
  refine n_icmp_ne (x := 0) (y := nq) (tgt := 12) hx hb (by omega) (by omega) dX12_meets_3 (by decide) (fun c1 => ?_) (fun c1 => ?_)
  · refine lv_iconst (v := nI 0) hx hb dX12_meets_12 (by decide) ?_
    refine lv_istore (lv' := [(5, .int (nI 0)), (0, .ref o), (1, .int x), (2, .int y), (3, .int (nI 0)), (4, .int (nI nq))]) hx hb dX12_meets_13 hl (by decide) rfl (fun ls hl => ?_)
    have hL11 : ∀ (n12 : Nat) (k8 : Nat) (f9 : Nat → Int32), (k8 ≤ 24) → 24 - k8 < n12 → ∀ (H : Heap) (locs : List Loc) (ls : Array Slot), va_P (dC, dI) vwCl [(o, .inr (12, [.int kthrown, .ref ktape, .int (nI ktaped), .int (nI ksize), .int (nI klimit), .int (nI kto), .int (nI kfrom), .int kkind, .int knumber, .int ksign, .int kfault, .int kplace, .long kword, .int ktold, .ref know, .ref kread, .ref kkept, .ref ksnaps, .ref kaside, .ref kname, .ref kreadName, .ref kkeptName, .ref kisKept, .ref konces, .int (nI ksnapMany), .int khasCells, .ref kpoured, .ref kfar, .ref ksides, .int (nI ksideMany), .int kwayDays, .int khasWay, .ref klines, .ref kmet, .int (nI kmetMany), .ref ksunk, .ref ktrying, .int (nI ksunkMany), .int ksending, .int kfleets, .ref ktext, .int (nI ktexts), .int kseed, .ref kline, .ref kwritten, .int (nI klineMany), .int khasWritten, .ref knode, .int (nI knodes), .int (nI konesMany), .int (nI kwithin), .int (nI ktop)])), (know, .inl (ky 0, 373, .inl knowF)), (klines, .inl (ky 0, 3, .inl f9))] H → va_D A [(o, .inr (12, [.int kthrown, .ref ktape, .int (nI ktaped), .int (nI ksize), .int (nI klimit), .int (nI kto), .int (nI kfrom), .int kkind, .int knumber, .int ksign, .int kfault, .int kplace, .long kword, .int ktold, .ref know, .ref kread, .ref kkept, .ref ksnaps, .ref kaside, .ref kname, .ref kreadName, .ref kkeptName, .ref kisKept, .ref konces, .int (nI ksnapMany), .int khasCells, .ref kpoured, .ref kfar, .ref ksides, .int (nI ksideMany), .int kwayDays, .int khasWay, .ref klines, .ref kmet, .int (nI kmetMany), .ref ksunk, .ref ktrying, .int (nI ksunkMany), .int ksending, .int kfleets, .ref ktext, .int (nI ktexts), .int kseed, .ref kline, .ref kwritten, .int (nI klineMany), .int khasWritten, .ref knode, .int (nI knodes), .int (nI konesMany), .int (nI kwithin), .int (nI ktop)])), (know, .inl (ky 0, 373, .inl knowF)), (klines, .inl (ky 0, 3, .inl f9))] → va_S A s.heap H locs → lv_has ls 6 [(5, .int (nI k8)), (0, .ref o), (1, .int x), (2, .int y), (3, .int (nI 0)), (4, .int (nI nq))] → W p l e (headSpec wsX12_meets ({ frames := 5, cells := 0, slots := 0, locals := 116 })).room s m args below meth c H locs 0 0 Q (F0 m 15 ls []) := by
      intro n12
      induction n12 with
      | zero => intro k8 f9 _ h9; exact absurd h9 (Nat.not_lt_zero _)
      | succ n12 ih13 =>
        intro k8 f9 j10 hm14 H locs ls hP hD hS hl
        refine lv_iload hx hb dX12_meets_15 (lv_at hl 0 rfl) ?_
        refine lv_bipush (v := nI 24) hx hb dX12_meets_17 (by decide) ?_
        refine n_icmp_ge (x := k8) (y := 24) (tgt := 76) hx hb (by omega) (by omega) dX12_meets_19 (by decide) (fun c15 => ?_) (fun c15 => ?_)
        · refine lv_iconst (v := nI 0) hx hb dX12_meets_76 (by decide) ?_
          rw [hQ]
          exact W.zret (v := nI 0) hx hb hr (by decide) (fun t9 ht9 hW9 => ⟨⟨nI 0, f9, rfl, (lf_x_meets0_1), by rw [ht9]; exact hP, va_K.moved hW9.alike hK, hD⟩, hS.F ht9⟩) hS.2.2 dX12_meets_77
        · refine lv_aload_n hx hb dX12_meets_22 rfl (lv_at hl 1 rfl) ?_
          refine lv_iload hx hb dX12_meets_23 (lv_at hl 0 rfl) ?_
          refine vp_callSi (W.runV (As := [.int (nI k8)]) (rest := []) ⟨hx, hb, hml, hown, hts⟩ (c_x_isLine l dC dI ky o kthrown ktape ktaped ksize klimit kto kfrom kkind knumber ksign kfault kplace kword ktold know kread kkept ksnaps kaside kname kreadName kkeptName kisKept konces ksnapMany khasCells kpoured kfar ksides ksideMany kwayDays khasWay klines kmet kmetMany ksunk ktrying ksunkMany ksending kfleets ktext ktexts kseed kline kwritten klineMany khasWritten knode knodes konesMany kwithin ktop knowF (nI k8) iv_ko_0 iv_ko_1 iv_ko_2 iv_ko_3 iv_ko_4 iv_ko_5 iv_ko_6 iv_ko_7 iv_ko_8 iv_ko_9 iv_ko_10 iv_ko_11 iv_ko_12 iv_ko_13 iv_ko_14 ab_now (lf_x_meets0_2 k8 n12 j10 hm14 c15)) (cwV 1 hts gX12_meets_X12_isLine rfl rfl rfl (by decide +kernel) ⟨(Nat.le_of_ble_eq_true rfl), (Nat.le_of_ble_eq_true rfl)⟩) (pre_PV hK hP [0, 1] rfl (ci := 12) (q0 := 0) rfl rfl) rfl rfl hl.1 rfl (lv_room (Nat.le_of_ble_eq_true rfl)) dX12_meets_25 ⟨(Nat.le_of_ble_eq_true rfl), (Nat.le_of_ble_eq_true rfl)⟩) (fun r16 p17 => ?_)
          refine lv_if_ne (tgt := 34) hx hb dX12_meets_28 (by decide) (fun c18 => ?_) (fun c18 => ?_)
          · refine lv_aload_n hx hb dX12_meets_34 rfl (lv_at hl 1 rfl) ?_
            refine va_get (D := (dC, dI)) (ci := 12) (v := .ref klines) (C := RX12) (T := TX12) (N := 52) hx hb hts hin12 hown hK hP 0 rfl rfl 32 (by decide) (hts (.fieldLink RX12 142 "PorridgeSeaModel" "lines" "[I") (List.mem_of_getElem? (i := 1) rfl)) (fun _ h9 => h9) rfl dX12_meets_35 ?_
            refine lv_iload_n hx hb dX12_meets_38 rfl (lv_at hl 4 rfl) ?_
            refine lv_iload hx hb dX12_meets_39 (lv_at hl 0 rfl) ?_
            refine r_iast (x := (nI k8)) hx hb hK hP hD hS 2 rfl 0 (by decide) (by decide) dX12_meets_41 (fun H locs hP hD hS => ?_)
            obtain ⟨g19, e20⟩ : ∃ z9, z9 = upd f9 0 (nI k8) := ⟨_, rfl⟩
            rw [← e20] at hP hD
            have hP : va_P (dC, dI) vwCl [(o, .inr (12, [.int kthrown, .ref ktape, .int (nI ktaped), .int (nI ksize), .int (nI klimit), .int (nI kto), .int (nI kfrom), .int kkind, .int knumber, .int ksign, .int kfault, .int kplace, .long kword, .int ktold, .ref know, .ref kread, .ref kkept, .ref ksnaps, .ref kaside, .ref kname, .ref kreadName, .ref kkeptName, .ref kisKept, .ref konces, .int (nI ksnapMany), .int khasCells, .ref kpoured, .ref kfar, .ref ksides, .int (nI ksideMany), .int kwayDays, .int khasWay, .ref klines, .ref kmet, .int (nI kmetMany), .ref ksunk, .ref ktrying, .int (nI ksunkMany), .int ksending, .int kfleets, .ref ktext, .int (nI ktexts), .int kseed, .ref kline, .ref kwritten, .int (nI klineMany), .int khasWritten, .ref knode, .int (nI knodes), .int (nI konesMany), .int (nI kwithin), .int (nI ktop)])), (know, .inl (ky 0, 373, .inl knowF)), (klines, .inl (ky 0, 3, .inl g19))] H := hP
            have hD : va_D A [(o, .inr (12, [.int kthrown, .ref ktape, .int (nI ktaped), .int (nI ksize), .int (nI klimit), .int (nI kto), .int (nI kfrom), .int kkind, .int knumber, .int ksign, .int kfault, .int kplace, .long kword, .int ktold, .ref know, .ref kread, .ref kkept, .ref ksnaps, .ref kaside, .ref kname, .ref kreadName, .ref kkeptName, .ref kisKept, .ref konces, .int (nI ksnapMany), .int khasCells, .ref kpoured, .ref kfar, .ref ksides, .int (nI ksideMany), .int kwayDays, .int khasWay, .ref klines, .ref kmet, .int (nI kmetMany), .ref ksunk, .ref ktrying, .int (nI ksunkMany), .int ksending, .int kfleets, .ref ktext, .int (nI ktexts), .int kseed, .ref kline, .ref kwritten, .int (nI klineMany), .int khasWritten, .ref knode, .int (nI knodes), .int (nI konesMany), .int (nI kwithin), .int (nI ktop)])), (know, .inl (ky 0, 373, .inl knowF)), (klines, .inl (ky 0, 3, .inl g19))] := hD
            refine lv_aload_n hx hb dX12_meets_42 rfl (lv_at hl 1 rfl) ?_
            refine lv_aload_n hx hb dX12_meets_43 rfl (lv_at hl 1 rfl) ?_
            refine lv_iload_n hx hb dX12_meets_44 rfl (lv_at hl 2 rfl) ?_
            refine lv_iload hx hb dX12_meets_45 (lv_at hl 0 rfl) ?_
            refine vp_callSi (W.runV (As := [.int x, .int (nI k8)]) (rest := [.ref o]) ⟨hx, hb, hml, hown, hts⟩ (c_x_stirred l dC dI ky o kthrown ktape ktaped ksize klimit kto kfrom kkind knumber ksign kfault kplace kword ktold know kread kkept ksnaps kaside kname kreadName kkeptName kisKept konces ksnapMany khasCells kpoured kfar ksides ksideMany kwayDays khasWay klines kmet kmetMany ksunk ktrying ksunkMany ksending kfleets ktext ktexts kseed kline kwritten klineMany khasWritten knode knodes konesMany kwithin ktop knowF x (nI k8) iv_ko_0 iv_ko_1 iv_ko_2 iv_ko_3 iv_ko_4 iv_ko_5 iv_ko_6 iv_ko_7 iv_ko_8 iv_ko_9 iv_ko_10 iv_ko_11 iv_ko_12 iv_ko_13 iv_ko_14 ab_now hc_x (lf_x_meets0_3 k8 n12 j10 hm14 c15)) (cwV 2 hts gX12_meets_X12_stirred rfl rfl rfl (by decide +kernel) ⟨(Nat.le_of_ble_eq_true rfl), (Nat.le_of_ble_eq_true rfl)⟩) (pre_PV hK hP [0, 1] rfl (ci := 12) (q0 := 0) rfl rfl) rfl rfl hl.1 rfl (lv_room (Nat.le_of_ble_eq_true rfl)) dX12_meets_47 ⟨(Nat.le_of_ble_eq_true rfl), (Nat.le_of_ble_eq_true rfl)⟩) (fun r21 p22 => ?_)
            obtain ⟨k23, h25, rfl⟩ := p22
            refine lv_aload_n hx hb dX12_meets_50 rfl (lv_at hl 1 rfl) ?_
            refine lv_iload_n hx hb dX12_meets_51 rfl (lv_at hl 3 rfl) ?_
            refine lv_iload hx hb dX12_meets_52 (lv_at hl 0 rfl) ?_
            refine vp_callSi (W.runV (As := [.int y, .int (nI k8)]) (rest := [.int (nI k23), .ref o]) ⟨hx, hb, hml, hown, hts⟩ (c_x_stirred l dC dI ky o kthrown ktape ktaped ksize klimit kto kfrom kkind knumber ksign kfault kplace kword ktold know kread kkept ksnaps kaside kname kreadName kkeptName kisKept konces ksnapMany khasCells kpoured kfar ksides ksideMany kwayDays khasWay klines kmet kmetMany ksunk ktrying ksunkMany ksending kfleets ktext ktexts kseed kline kwritten klineMany khasWritten knode knodes konesMany kwithin ktop knowF y (nI k8) iv_ko_0 iv_ko_1 iv_ko_2 iv_ko_3 iv_ko_4 iv_ko_5 iv_ko_6 iv_ko_7 iv_ko_8 iv_ko_9 iv_ko_10 iv_ko_11 iv_ko_12 iv_ko_13 iv_ko_14 ab_now hc_y (lf_x_meets0_4 k8 n12 j10 hm14 c15)) (cwV 2 hts gX12_meets_X12_stirred rfl rfl rfl (by decide +kernel) ⟨(Nat.le_of_ble_eq_true rfl), (Nat.le_of_ble_eq_true rfl)⟩) (pre_PV hK hP [0, 1] rfl (ci := 12) (q0 := 0) rfl rfl) rfl rfl hl.1 rfl (lv_room (Nat.le_of_ble_eq_true rfl)) dX12_meets_54 ⟨(Nat.le_of_ble_eq_true rfl), (Nat.le_of_ble_eq_true rfl)⟩) (fun r26 p27 => ?_)
            obtain ⟨k28, h30, rfl⟩ := p27
            refine lv_iload_n hx hb dX12_meets_57 rfl (lv_at hl 4 rfl) ?_
            refine lv_iconst (v := nI 1) hx hb dX12_meets_58 (by decide) ?_
            refine lv_iadd hx hb dX12_meets_59 ?_
            refine r_ti (nI 1) (by decide) ?_
            refine lv_iload hx hb dX12_meets_60 (lv_at hl 5 rfl) ?_
            refine r_call_i (wr := []) (va_runV (As := [.int (nI k23), .int (nI k28), .int (nI 1), .int (nI nq)]) (rest := []) ⟨hx, hb, hml, hown, hts⟩ (c_x_meets1 l dC dI ky H.size o kthrown ktape ktaped ksize klimit kto kfrom kkind knumber ksign kfault kplace kword ktold know kread kkept ksnaps kaside kname kreadName kkeptName kisKept konces ksnapMany khasCells kpoured kfar ksides ksideMany kwayDays khasWay klines kmet kmetMany ksunk ktrying ksunkMany ksending kfleets ktext ktexts kseed kline kwritten klineMany khasWritten knode knodes konesMany kwithin ktop knowF g19 (nI k23) (nI k28) nq iv_ko_0 iv_ko_1 iv_ko_2 iv_ko_3 iv_ko_4 iv_ko_5 iv_ko_6 iv_ko_7 iv_ko_8 iv_ko_9 iv_ko_10 iv_ko_11 iv_ko_12 iv_ko_13 iv_ko_14 ab_now (lf_x_meets0_5 k23 h25) (lf_x_meets0_6 k28 h30) (lf_x_meets0_7 nq hkn hn3 c1) hn3) (cwV 4 hts gX12_meets_X12_meets rfl rfl rfl (by decide +kernel) ⟨(Nat.le_of_ble_eq_true rfl), (Nat.le_of_ble_eq_true rfl)⟩) (pre_UV hK hP hD [0, 1, 2] (by decide) rfl (ci := 12) (q0 := 0) rfl rfl) rfl rfl hl.1 rfl (lv_room (Nat.le_of_ble_eq_true rfl)) dX12_meets_62 ⟨(Nat.le_of_ble_eq_true rfl), (Nat.le_of_ble_eq_true rfl)⟩) hP hD hS hA [0, 1, 2] [] rfl rfl (by decide) (by decide) (fun r33 u31 H locs p32 hP hD hS => ?_)
            obtain ⟨klinesG_34, rfl⟩ : ∃ z, z = u31 := ⟨_, rfl⟩
            try dsimp only at p32
            have p35 := p32
            refine W.widen (k := 0) (n := 0) (Nat.le_of_ble_eq_true rfl) (Nat.le_of_ble_eq_true rfl) ?_
            have hP : va_P (dC, dI) vwCl [(o, .inr (12, [.int kthrown, .ref ktape, .int (nI ktaped), .int (nI ksize), .int (nI klimit), .int (nI kto), .int (nI kfrom), .int kkind, .int knumber, .int ksign, .int kfault, .int kplace, .long kword, .int ktold, .ref know, .ref kread, .ref kkept, .ref ksnaps, .ref kaside, .ref kname, .ref kreadName, .ref kkeptName, .ref kisKept, .ref konces, .int (nI ksnapMany), .int khasCells, .ref kpoured, .ref kfar, .ref ksides, .int (nI ksideMany), .int kwayDays, .int khasWay, .ref klines, .ref kmet, .int (nI kmetMany), .ref ksunk, .ref ktrying, .int (nI ksunkMany), .int ksending, .int kfleets, .ref ktext, .int (nI ktexts), .int kseed, .ref kline, .ref kwritten, .int (nI klineMany), .int khasWritten, .ref knode, .int (nI knodes), .int (nI konesMany), .int (nI kwithin), .int (nI ktop)])), (know, .inl (ky 0, 373, .inl knowF)), (klines, .inl (ky 0, 3, .inl klinesG_34))] H := hP
            have hD : va_D A [(o, .inr (12, [.int kthrown, .ref ktape, .int (nI ktaped), .int (nI ksize), .int (nI klimit), .int (nI kto), .int (nI kfrom), .int kkind, .int knumber, .int ksign, .int kfault, .int kplace, .long kword, .int ktold, .ref know, .ref kread, .ref kkept, .ref ksnaps, .ref kaside, .ref kname, .ref kreadName, .ref kkeptName, .ref kisKept, .ref konces, .int (nI ksnapMany), .int khasCells, .ref kpoured, .ref kfar, .ref ksides, .int (nI ksideMany), .int kwayDays, .int khasWay, .ref klines, .ref kmet, .int (nI kmetMany), .ref ksunk, .ref ktrying, .int (nI ksunkMany), .int ksending, .int kfleets, .ref ktext, .int (nI ktexts), .int kseed, .ref kline, .ref kwritten, .int (nI klineMany), .int khasWritten, .ref knode, .int (nI knodes), .int (nI konesMany), .int (nI kwithin), .int (nI ktop)])), (know, .inl (ky 0, 373, .inl knowF)), (klines, .inl (ky 0, 3, .inl klinesG_34))] := hD
            refine lv_if_eq (tgt := 70) hx hb dX12_meets_65 (by decide) (fun c36 => ?_) (fun c36 => ?_)
            · refine lv_iinc (v := nI (k8 + 1)) (lv' := [(5, .int (nI (k8 + 1))), (0, .ref o), (1, .int x), (2, .int y), (3, .int (nI 0)), (4, .int (nI nq))]) hx hb dX12_meets_70 hl (k := 0) rfl (show nI k8 + nI 1 = nI (k8 + 1) from nI_add _ _) (by decide) rfl (fun ls hl => ?_)
              refine lv_goto (tgt := 15) hx hb dX12_meets_73 (by decide) ?_
              exact ih13 (k8 + 1) klinesG_34 (lf_x_meets0_8 k8 n12 j10 hm14 c15) (lf_x_meets0_9 k8 n12 j10 hm14 c15) _ _ _ hP hD hS (lv_sub hl [0, 1, 2, 3, 4, 5] rfl)
            · refine lv_iconst (v := nI 1) hx hb dX12_meets_68 (by decide) ?_
              rw [hQ]
              exact W.zret (v := nI 1) hx hb hr (by decide) (fun t9 ht9 hW9 => ⟨⟨nI 1, klinesG_34, rfl, (lf_x_meets0_10), by rw [ht9]; exact hP, va_K.moved hW9.alike hK, hD⟩, hS.F ht9⟩) hS.2.2 dX12_meets_69
          · refine lv_goto (tgt := 70) hx hb dX12_meets_31 (by decide) ?_
            refine lv_iinc (v := nI (k8 + 1)) (lv' := [(5, .int (nI (k8 + 1))), (0, .ref o), (1, .int x), (2, .int y), (3, .int (nI 0)), (4, .int (nI nq))]) hx hb dX12_meets_70 hl (k := 0) rfl (show nI k8 + nI 1 = nI (k8 + 1) from nI_add _ _) (by decide) rfl (fun ls hl => ?_)
            refine lv_goto (tgt := 15) hx hb dX12_meets_73 (by decide) ?_
            exact ih13 (k8 + 1) f9 (lf_x_meets0_11 k8 n12 j10 hm14 c15) (lf_x_meets0_12 k8 n12 j10 hm14 c15) _ _ _ hP hD hS (lv_sub hl [0, 1, 2, 3, 4, 5] rfl)
    exact hL11 ((24 - 0) + 1) 0 klinesF (lf_x_meets0_13) (Nat.lt_succ_self _) _ _ _ hP hD hS (lv_sub hl [0, 1, 2, 3, 4, 5] rfl)
  · refine lv_iload_n hx hb dX12_meets_6 rfl (lv_at hl 1 rfl) ?_
    refine lv_iload_n hx hb dX12_meets_7 rfl (lv_at hl 2 rfl) ?_
    refine vp_callSi (W.runS (As := [.int x, .int y]) (rest := []) ⟨hx, hb, hml, hown, hts⟩ (c_x_areNear l dC dI ky x y) (va_cwS 2 hts gX12_meets_X12_areNear rfl rfl rfl (by decide +kernel) ⟨(Nat.le_of_ble_eq_true rfl), (Nat.le_of_ble_eq_true rfl)⟩) (pre_PS hK hP [] rfl) rfl rfl hl.1 rfl (lv_room (Nat.le_of_ble_eq_true rfl)) dX12_meets_8 ⟨(Nat.le_of_ble_eq_true rfl), (Nat.le_of_ble_eq_true rfl)⟩) (fun r37 p38 => ?_)
    rw [hQ]
    exact W.zret (v := r37) hx hb hr ((lf_x_meets0_14 r37 p38)) (fun t9 ht9 hW9 => ⟨⟨r37, klinesF, rfl, p38, by rw [ht9]; exact hP, va_K.moved hW9.alike hK, hD⟩, hS.F ht9⟩) hS.2.2 dX12_meets_11
set_option maxRecDepth 20000 in
theorem lf_x_meet_1 (knowF : Nat → Int32) (x : Int32) (y : Int32) (ab_now : NB knowF) (t3 : 0 ≤ x.toInt) (t4 : x.toInt < (knowF 3).toInt) (t5 : x.toInt ≤ 5) (t10 : 0 ≤ y.toInt) (t11 : y.toInt < (knowF 2).toInt) (t12 : y.toInt ≤ 5) : 0 ≤ x.toInt ∧ x.toInt ≤ 5 := by
  have b_x := ia_b x
  have b_y := ia_b y
  try simp only [ia_lt, ia_le, ia_eq, ia_m1, ia_0, ia_1, ne_eq, true_and, and_true, false_and, and_false, or_false, false_or, or_true, true_or, not_true_eq_false, not_false_eq_true] at *
  all_goals omega
set_option maxRecDepth 20000 in
theorem lf_x_meet_2 (knowF : Nat → Int32) (x : Int32) (y : Int32) (ab_now : NB knowF) (t3 : 0 ≤ x.toInt) (t4 : x.toInt < (knowF 3).toInt) (t5 : x.toInt ≤ 5) (t10 : 0 ≤ y.toInt) (t11 : y.toInt < (knowF 2).toInt) (t12 : y.toInt ≤ 5) : 0 ≤ x.toInt ∧ x.toInt < ((6 : Nat) : Int) := by
  have b_x := ia_b x
  have b_y := ia_b y
  try simp only [ia_lt, ia_le, ia_eq, ia_m1, ia_0, ia_1, ne_eq, true_and, and_true, false_and, and_false, or_false, false_or, or_true, true_or, not_true_eq_false, not_false_eq_true] at *
  all_goals omega
set_option maxRecDepth 20000 in
theorem lf_x_meet_3 (knowF : Nat → Int32) (x : Int32) (y : Int32) (n32 : Nat) (y35 : Int32) (ab_now : NB knowF) (t3 : 0 ≤ x.toInt) (t4 : x.toInt < (knowF 3).toInt) (t5 : x.toInt ≤ 5) (t10 : 0 ≤ y.toInt) (t11 : y.toInt < (knowF 2).toInt) (t12 : y.toInt ≤ 5) (h33 : n32 < 6) (e34 : x = nI n32) (e36 : y35 = knowF (113 + n32)) : (113 + n32) < 373 := by
  have b_x := ia_b x
  have b_y := ia_b y
  have b_y35 := ia_b y35
  try have k_0 := ia_n n32 (by first | decide | omega)
  try simp only [ia_lt, ia_le, ia_eq, ia_m1, ia_0, ia_1, ne_eq, true_and, and_true, false_and, and_false, or_false, false_or, or_true, true_or, not_true_eq_false, not_false_eq_true] at *
  all_goals omega
set_option maxRecDepth 20000 in
theorem lf_x_meet_4 (knowF : Nat → Int32) (x : Int32) (y : Int32) (n32 : Nat) (y35 : Int32) (ab_now : NB knowF) (t3 : 0 ≤ x.toInt) (t4 : x.toInt < (knowF 3).toInt) (t5 : x.toInt ≤ 5) (t10 : 0 ≤ y.toInt) (t11 : y.toInt < (knowF 2).toInt) (t12 : y.toInt ≤ 5) (h33 : n32 < 6) (e34 : x = nI n32) (e36 : y35 = knowF (113 + n32)) : 107 ≤ (113 + n32) := by
  have b_x := ia_b x
  have b_y := ia_b y
  have b_y35 := ia_b y35
  try have k_0 := ia_n n32 (by first | decide | omega)
  try simp only [ia_lt, ia_le, ia_eq, ia_m1, ia_0, ia_1, ne_eq, true_and, and_true, false_and, and_false, or_false, false_or, or_true, true_or, not_true_eq_false, not_false_eq_true] at *
  all_goals omega
set_option maxRecDepth 20000 in
theorem lf_x_meet_5 (knowF : Nat → Int32) (x : Int32) (y : Int32) (n32 : Nat) (y35 : Int32) (ab_now : NB knowF) (t3 : 0 ≤ x.toInt) (t4 : x.toInt < (knowF 3).toInt) (t5 : x.toInt ≤ 5) (t10 : 0 ≤ y.toInt) (t11 : y.toInt < (knowF 2).toInt) (t12 : y.toInt ≤ 5) (h33 : n32 < 6) (e34 : x = nI n32) (e36 : y35 = knowF (113 + n32)) : (113 + n32) < 119 := by
  have b_x := ia_b x
  have b_y := ia_b y
  have b_y35 := ia_b y35
  try have k_0 := ia_n n32 (by first | decide | omega)
  try simp only [ia_lt, ia_le, ia_eq, ia_m1, ia_0, ia_1, ne_eq, true_and, and_true, false_and, and_false, or_false, false_or, or_true, true_or, not_true_eq_false, not_false_eq_true] at *
  all_goals omega
set_option maxRecDepth 20000 in
theorem lf_x_meet_6 (knowF : Nat → Int32) (x : Int32) (y : Int32) (n32 : Nat) (y35 : Int32) (ab_now : NB knowF) (t3 : 0 ≤ x.toInt) (t4 : x.toInt < (knowF 3).toInt) (t5 : x.toInt ≤ 5) (t10 : 0 ≤ y.toInt) (t11 : y.toInt < (knowF 2).toInt) (t12 : y.toInt ≤ 5) (h33 : n32 < 6) (e34 : x = nI n32) (e36 : y35 = knowF (113 + n32)) (b37 : 0 ≤ y35.toInt) (b38 : y35.toInt ≤ 35) : 0 ≤ y.toInt ∧ y.toInt < ((6 : Nat) : Int) := by
  have b_x := ia_b x
  have b_y := ia_b y
  have b_y35 := ia_b y35
  try have k_0 := ia_n n32 (by first | decide | omega)
  try simp only [ia_lt, ia_le, ia_eq, ia_m1, ia_0, ia_1, ne_eq, true_and, and_true, false_and, and_false, or_false, false_or, or_true, true_or, not_true_eq_false, not_false_eq_true] at *
  all_goals omega
set_option maxRecDepth 20000 in
theorem lf_x_meet_7 (knowF : Nat → Int32) (x : Int32) (y : Int32) (n32 : Nat) (y35 : Int32) (n39 : Nat) (y42 : Int32) (ab_now : NB knowF) (t3 : 0 ≤ x.toInt) (t4 : x.toInt < (knowF 3).toInt) (t5 : x.toInt ≤ 5) (t10 : 0 ≤ y.toInt) (t11 : y.toInt < (knowF 2).toInt) (t12 : y.toInt ≤ 5) (h33 : n32 < 6) (e34 : x = nI n32) (e36 : y35 = knowF (113 + n32)) (b37 : 0 ≤ y35.toInt) (b38 : y35.toInt ≤ 35) (h40 : n39 < 6) (e41 : y = nI n39) (e43 : y42 = knowF (107 + n39)) : (107 + n39) < 373 := by
  have b_x := ia_b x
  have b_y := ia_b y
  have b_y35 := ia_b y35
  have b_y42 := ia_b y42
  try have k_0 := ia_n n32 (by first | decide | omega)
  try have k_1 := ia_n n39 (by first | decide | omega)
  try simp only [ia_lt, ia_le, ia_eq, ia_m1, ia_0, ia_1, ne_eq, true_and, and_true, false_and, and_false, or_false, false_or, or_true, true_or, not_true_eq_false, not_false_eq_true] at *
  all_goals omega
set_option maxRecDepth 20000 in
theorem lf_x_meet_8 (knowF : Nat → Int32) (x : Int32) (y : Int32) (n32 : Nat) (y35 : Int32) (n39 : Nat) (y42 : Int32) (ab_now : NB knowF) (t3 : 0 ≤ x.toInt) (t4 : x.toInt < (knowF 3).toInt) (t5 : x.toInt ≤ 5) (t10 : 0 ≤ y.toInt) (t11 : y.toInt < (knowF 2).toInt) (t12 : y.toInt ≤ 5) (h33 : n32 < 6) (e34 : x = nI n32) (e36 : y35 = knowF (113 + n32)) (b37 : 0 ≤ y35.toInt) (b38 : y35.toInt ≤ 35) (h40 : n39 < 6) (e41 : y = nI n39) (e43 : y42 = knowF (107 + n39)) : 107 ≤ (107 + n39) := by
  have b_x := ia_b x
  have b_y := ia_b y
  have b_y35 := ia_b y35
  have b_y42 := ia_b y42
  try have k_0 := ia_n n32 (by first | decide | omega)
  try have k_1 := ia_n n39 (by first | decide | omega)
  try simp only [ia_lt, ia_le, ia_eq, ia_m1, ia_0, ia_1, ne_eq, true_and, and_true, false_and, and_false, or_false, false_or, or_true, true_or, not_true_eq_false, not_false_eq_true] at *
  all_goals omega
set_option maxRecDepth 20000 in
theorem lf_x_meet_9 (knowF : Nat → Int32) (x : Int32) (y : Int32) (n32 : Nat) (y35 : Int32) (n39 : Nat) (y42 : Int32) (ab_now : NB knowF) (t3 : 0 ≤ x.toInt) (t4 : x.toInt < (knowF 3).toInt) (t5 : x.toInt ≤ 5) (t10 : 0 ≤ y.toInt) (t11 : y.toInt < (knowF 2).toInt) (t12 : y.toInt ≤ 5) (h33 : n32 < 6) (e34 : x = nI n32) (e36 : y35 = knowF (113 + n32)) (b37 : 0 ≤ y35.toInt) (b38 : y35.toInt ≤ 35) (h40 : n39 < 6) (e41 : y = nI n39) (e43 : y42 = knowF (107 + n39)) : (107 + n39) < 119 := by
  have b_x := ia_b x
  have b_y := ia_b y
  have b_y35 := ia_b y35
  have b_y42 := ia_b y42
  try have k_0 := ia_n n32 (by first | decide | omega)
  try have k_1 := ia_n n39 (by first | decide | omega)
  try simp only [ia_lt, ia_le, ia_eq, ia_m1, ia_0, ia_1, ne_eq, true_and, and_true, false_and, and_false, or_false, false_or, or_true, true_or, not_true_eq_false, not_false_eq_true] at *
  all_goals omega
set_option maxRecDepth 20000 in
theorem lf_x_meet_10 (knowF : Nat → Int32) (x : Int32) (y : Int32) (n32 : Nat) (y35 : Int32) (n39 : Nat) (y42 : Int32) (ab_now : NB knowF) (t3 : 0 ≤ x.toInt) (t4 : x.toInt < (knowF 3).toInt) (t5 : x.toInt ≤ 5) (t10 : 0 ≤ y.toInt) (t11 : y.toInt < (knowF 2).toInt) (t12 : y.toInt ≤ 5) (h33 : n32 < 6) (e34 : x = nI n32) (e36 : y35 = knowF (113 + n32)) (b37 : 0 ≤ y35.toInt) (b38 : y35.toInt ≤ 35) (h40 : n39 < 6) (e41 : y = nI n39) (e43 : y42 = knowF (107 + n39)) (b44 : 0 ≤ y42.toInt) (b45 : y42.toInt ≤ 35) : 0 ≤ y35.toInt ∧ y35.toInt ≤ 35 := by
  have b_x := ia_b x
  have b_y := ia_b y
  have b_y35 := ia_b y35
  have b_y42 := ia_b y42
  try have k_0 := ia_n n32 (by first | decide | omega)
  try have k_1 := ia_n n39 (by first | decide | omega)
  try simp only [ia_lt, ia_le, ia_eq, ia_m1, ia_0, ia_1, ne_eq, true_and, and_true, false_and, and_false, or_false, false_or, or_true, true_or, not_true_eq_false, not_false_eq_true] at *
  all_goals omega
set_option maxRecDepth 20000 in
theorem lf_x_meet_11 (knowF : Nat → Int32) (x : Int32) (y : Int32) (n32 : Nat) (y35 : Int32) (n39 : Nat) (y42 : Int32) (ab_now : NB knowF) (t3 : 0 ≤ x.toInt) (t4 : x.toInt < (knowF 3).toInt) (t5 : x.toInt ≤ 5) (t10 : 0 ≤ y.toInt) (t11 : y.toInt < (knowF 2).toInt) (t12 : y.toInt ≤ 5) (h33 : n32 < 6) (e34 : x = nI n32) (e36 : y35 = knowF (113 + n32)) (b37 : 0 ≤ y35.toInt) (b38 : y35.toInt ≤ 35) (h40 : n39 < 6) (e41 : y = nI n39) (e43 : y42 = knowF (107 + n39)) (b44 : 0 ≤ y42.toInt) (b45 : y42.toInt ≤ 35) : 0 ≤ y42.toInt ∧ y42.toInt ≤ 35 := by
  have b_x := ia_b x
  have b_y := ia_b y
  have b_y35 := ia_b y35
  have b_y42 := ia_b y42
  try have k_0 := ia_n n32 (by first | decide | omega)
  try have k_1 := ia_n n39 (by first | decide | omega)
  try simp only [ia_lt, ia_le, ia_eq, ia_m1, ia_0, ia_1, ne_eq, true_and, and_true, false_and, and_false, or_false, false_or, or_true, true_or, not_true_eq_false, not_false_eq_true] at *
  all_goals omega
set_option maxRecDepth 20000 in
theorem lf_x_meet_12 (k24 : Nat) (n28 : Nat) (j26 : k24 ≤ 4) (hm30 : 4 - k24 < n28 + 1) (c31 : k24 ≤ 3) : 0 ≤ k24 := by
  try simp only [ia_lt, ia_le, ia_eq, ia_m1, ia_0, ia_1, ne_eq, true_and, and_true, false_and, and_false, or_false, false_or, or_true, true_or, not_true_eq_false, not_false_eq_true] at *
  all_goals omega
set_option maxRecDepth 20000 in
theorem lf_x_meet_13 (k24 : Nat) (n28 : Nat) (klinesG_49 : Nat → Int32) (k58 : Nat) (n62 : Nat) (y66 : Int32) (j26 : k24 ≤ 4) (hm30 : 4 - k24 < n28 + 1) (c31 : k24 ≤ 3) (j60 : k58 ≤ 3) (hm64 : 3 - k58 < n62 + 1) (c65 : k58 < k24) (e67 : y66 = klinesG_49 k58) : k58 < 3 := by
  have b_y66 := ia_b y66
  try simp only [ia_lt, ia_le, ia_eq, ia_m1, ia_0, ia_1, ne_eq, true_and, and_true, false_and, and_false, or_false, false_or, or_true, true_or, not_true_eq_false, not_false_eq_true] at *
  all_goals omega
set_option maxRecDepth 20000 in
theorem lf_x_meet_14 (k24 : Nat) (n28 : Nat) (klinesG_49 : Nat → Int32) (k58 : Nat) (n62 : Nat) (y66 : Int32) (j26 : k24 ≤ 4) (hm30 : 4 - k24 < n28 + 1) (c31 : k24 ≤ 3) (j60 : k58 ≤ 3) (hm64 : 3 - k58 < n62 + 1) (c65 : k58 < k24) (e67 : y66 = klinesG_49 k58) : k58 < 3 := by
  have b_y66 := ia_b y66
  try simp only [ia_lt, ia_le, ia_eq, ia_m1, ia_0, ia_1, ne_eq, true_and, and_true, false_and, and_false, or_false, false_or, or_true, true_or, not_true_eq_false, not_false_eq_true] at *
  all_goals omega
set_option maxRecDepth 20000 in
theorem lf_x_meet_15 (k24 : Nat) (n28 : Nat) (klinesG_49 : Nat → Int32) (k58 : Nat) (n62 : Nat) (y66 : Int32) (j26 : k24 ≤ 4) (hm30 : 4 - k24 < n28 + 1) (c31 : k24 ≤ 3) (j60 : k58 ≤ 3) (hm64 : 3 - k58 < n62 + 1) (c65 : k58 < k24) (e67 : y66 = klinesG_49 k58) : (k58 + 1) ≤ 3 := by
  have b_y66 := ia_b y66
  try simp only [ia_lt, ia_le, ia_eq, ia_m1, ia_0, ia_1, ne_eq, true_and, and_true, false_and, and_false, or_false, false_or, or_true, true_or, not_true_eq_false, not_false_eq_true] at *
  all_goals omega
set_option maxRecDepth 20000 in
theorem lf_x_meet_16 (k24 : Nat) (n28 : Nat) (klinesG_49 : Nat → Int32) (k58 : Nat) (n62 : Nat) (y66 : Int32) (j26 : k24 ≤ 4) (hm30 : 4 - k24 < n28 + 1) (c31 : k24 ≤ 3) (j60 : k58 ≤ 3) (hm64 : 3 - k58 < n62 + 1) (c65 : k58 < k24) (e67 : y66 = klinesG_49 k58) : 3 - (k58 + 1) < n62 := by
  have b_y66 := ia_b y66
  try simp only [ia_lt, ia_le, ia_eq, ia_m1, ia_0, ia_1, ne_eq, true_and, and_true, false_and, and_false, or_false, false_or, or_true, true_or, not_true_eq_false, not_false_eq_true] at *
  all_goals omega
set_option maxRecDepth 20000 in
theorem lf_x_meet_17   : 0 ≤ 3 := by
  try simp only [ia_lt, ia_le, ia_eq, ia_m1, ia_0, ia_1, ne_eq, true_and, and_true, false_and, and_false, or_false, false_or, or_true, true_or, not_true_eq_false, not_false_eq_true] at *
  all_goals omega
set_option maxRecDepth 20000 in
theorem lf_x_meet_18 (k24 : Nat) (n28 : Nat) (j26 : k24 ≤ 4) (hm30 : 4 - k24 < n28 + 1) (c31 : k24 ≤ 3) : (k24 + 1) ≤ 4 := by
  try simp only [ia_lt, ia_le, ia_eq, ia_m1, ia_0, ia_1, ne_eq, true_and, and_true, false_and, and_false, or_false, false_or, or_true, true_or, not_true_eq_false, not_false_eq_true] at *
  all_goals omega
set_option maxRecDepth 20000 in
theorem lf_x_meet_19 (k24 : Nat) (n28 : Nat) (j26 : k24 ≤ 4) (hm30 : 4 - k24 < n28 + 1) (c31 : k24 ≤ 3) : 4 - (k24 + 1) < n28 := by
  try simp only [ia_lt, ia_le, ia_eq, ia_m1, ia_0, ia_1, ne_eq, true_and, and_true, false_and, and_false, or_false, false_or, or_true, true_or, not_true_eq_false, not_false_eq_true] at *
  all_goals omega
set_option maxRecDepth 20000 in
theorem lf_x_meet_20   : 0 ≤ 4 := by
  try simp only [ia_lt, ia_le, ia_eq, ia_m1, ia_0, ia_1, ne_eq, true_and, and_true, false_and, and_false, or_false, false_or, or_true, true_or, not_true_eq_false, not_false_eq_true] at *
  all_goals omega
set_option maxHeartbeats 4000000 in
set_option maxRecDepth 100000 in
theorem c_x_meet (l : Launch) (dC : Nat → ClassId) (dI : Nat → Nat → Nat) (ky : Nat → ClassId) (sz : Nat) (o : Nat) (kthrown : Int32) (ktape : Nat) (ktaped : Nat) (ksize : Nat) (klimit : Nat) (kto : Nat) (kfrom : Nat) (kkind : Int32) (knumber : Int32) (ksign : Int32) (kfault : Int32) (kplace : Int32) (kword : Int64) (ktold : Int32) (know : Nat) (kread : Nat) (kkept : Nat) (ksnaps : Nat) (kaside : Nat) (kname : Nat) (kreadName : Nat) (kkeptName : Nat) (kisKept : Nat) (konces : Nat) (ksnapMany : Nat) (khasCells : Int32) (kpoured : Nat) (kfar : Nat) (ksides : Nat) (ksideMany : Nat) (kwayDays : Int32) (khasWay : Int32) (klines : Nat) (kmet : Nat) (kmetMany : Nat) (ksunk : Nat) (ktrying : Nat) (ksunkMany : Nat) (ksending : Int32) (kfleets : Int32) (ktext : Nat) (ktexts : Nat) (kseed : Int32) (kline : Nat) (kwritten : Nat) (klineMany : Nat) (khasWritten : Int32) (knode : Nat) (knodes : Nat) (konesMany : Nat) (kwithin : Nat) (ktop : Nat) (knowF : Nat → Int32) (klinesF : Nat → Int32) (kmetF : Nat → Int32) (x : Int32) (y : Int32) (iv_ko_0 : ktaped ≤ 940) (iv_ko_1 : ksize ≤ 940) (iv_ko_2 : klimit ≤ 900) (iv_ko_3 : kto ≤ ksize) (iv_ko_4 : kfrom ≤ 940) (iv_ko_5 : ksnapMany ≤ 8) (iv_ko_6 : ksideMany ≤ 36) (iv_ko_7 : kmetMany ≤ 3) (iv_ko_8 : ksunkMany ≤ 36) (iv_ko_9 : ktexts ≤ 64) (iv_ko_10 : klineMany ≤ 40) (iv_ko_11 : knodes ≤ 60) (iv_ko_12 : konesMany ≤ 20) (iv_ko_13 : kwithin ≤ 8) (iv_ko_14 : ktop ≤ 59) (ab_now : NB knowF) : Met l yX12_meet wsX12_meet ({ frames := 6, cells := 0, slots := 0, locals := 141 }) (PcU dC dI ky [.ref o, .int x, .int y] [(o, .inr (12, [.int kthrown, .ref ktape, .int (nI ktaped), .int (nI ksize), .int (nI klimit), .int (nI kto), .int (nI kfrom), .int kkind, .int knumber, .int ksign, .int kfault, .int kplace, .long kword, .int ktold, .ref know, .ref kread, .ref kkept, .ref ksnaps, .ref kaside, .ref kname, .ref kreadName, .ref kkeptName, .ref kisKept, .ref konces, .int (nI ksnapMany), .int khasCells, .ref kpoured, .ref kfar, .ref ksides, .int (nI ksideMany), .int kwayDays, .int khasWay, .ref klines, .ref kmet, .int (nI kmetMany), .ref ksunk, .ref ktrying, .int (nI ksunkMany), .int ksending, .int kfleets, .ref ktext, .int (nI ktexts), .int kseed, .ref kline, .ref kwritten, .int (nI klineMany), .int khasWritten, .ref knode, .int (nI knodes), .int (nI konesMany), .int (nI kwithin), .int (nI ktop)])), (know, .inl (ky 0, 373, .inl knowF)), (klines, .inl (ky 0, 3, .inl klinesF)), (kmet, .inl (ky 0, 3, .inl kmetF))] sz) (va_Qi (fun (r : Int32) (u : Int32 × Nat × (Nat → Int32) × (Nat → Int32)) => match u with | (kthrownG, kmetManyG, klinesG, kmetG) => kmetManyG ≤ 3) (BU dC dI ky (fun (u : Int32 × Nat × (Nat → Int32) × (Nat → Int32)) => match u with | (kthrownG, kmetManyG, klinesG, kmetG) => [(o, .inr (12, [.int kthrownG, .ref ktape, .int (nI ktaped), .int (nI ksize), .int (nI klimit), .int (nI kto), .int (nI kfrom), .int kkind, .int knumber, .int ksign, .int kfault, .int kplace, .long kword, .int ktold, .ref know, .ref kread, .ref kkept, .ref ksnaps, .ref kaside, .ref kname, .ref kreadName, .ref kkeptName, .ref kisKept, .ref konces, .int (nI ksnapMany), .int khasCells, .ref kpoured, .ref kfar, .ref ksides, .int (nI ksideMany), .int kwayDays, .int khasWay, .ref klines, .ref kmet, .int (nI kmetManyG), .ref ksunk, .ref ktrying, .int (nI ksunkMany), .int ksending, .int kfleets, .ref ktext, .int (nI ktexts), .int kseed, .ref kline, .ref kwritten, .int (nI klineMany), .int khasWritten, .ref knode, .int (nI knodes), .int (nI konesMany), .int (nI kwithin), .int (nI ktop)])), (know, .inl (ky 0, 373, .inl knowF)), (klines, .inl (ky 0, 3, .inl klinesG)), (kmet, .inl (ky 0, 3, .inl kmetG))]) (va_A [(o, .inr (12, [.int kthrown, .ref ktape, .int (nI ktaped), .int (nI ksize), .int (nI klimit), .int (nI kto), .int (nI kfrom), .int kkind, .int knumber, .int ksign, .int kfault, .int kplace, .long kword, .int ktold, .ref know, .ref kread, .ref kkept, .ref ksnaps, .ref kaside, .ref kname, .ref kreadName, .ref kkeptName, .ref kisKept, .ref konces, .int (nI ksnapMany), .int khasCells, .ref kpoured, .ref kfar, .ref ksides, .int (nI ksideMany), .int kwayDays, .int khasWay, .ref klines, .ref kmet, .int (nI kmetMany), .ref ksunk, .ref ktrying, .int (nI ksunkMany), .int ksending, .int kfleets, .ref ktext, .int (nI ktexts), .int kseed, .ref kline, .ref kwritten, .int (nI klineMany), .int khasWritten, .ref knode, .int (nI knodes), .int (nI konesMany), .int (nI kwithin), .int (nI ktop)])), (know, .inl (ky 0, 373, .inl knowF)), (klines, .inl (ky 0, 3, .inl klinesF)), (kmet, .inl (ky 0, 3, .inl kmetF))] sz)) (va_A [(o, .inr (12, [.int kthrown, .ref ktape, .int (nI ktaped), .int (nI ksize), .int (nI klimit), .int (nI kto), .int (nI kfrom), .int kkind, .int knumber, .int ksign, .int kfault, .int kplace, .long kword, .int ktold, .ref know, .ref kread, .ref kkept, .ref ksnaps, .ref kaside, .ref kname, .ref kreadName, .ref kkeptName, .ref kisKept, .ref konces, .int (nI ksnapMany), .int khasCells, .ref kpoured, .ref kfar, .ref ksides, .int (nI ksideMany), .int kwayDays, .int khasWay, .ref klines, .ref kmet, .int (nI kmetMany), .ref ksunk, .ref ktrying, .int (nI ksunkMany), .int ksending, .int kfleets, .ref ktext, .int (nI ktexts), .int kseed, .ref kline, .ref kwritten, .int (nI klineMany), .int khasWritten, .ref knode, .int (nI knodes), .int (nI konesMany), .int (nI kwithin), .int (nI ktop)])), (know, .inl (ky 0, 373, .inl knowF)), (klines, .inl (ky 0, 3, .inl klinesF)), (kmet, .inl (ky 0, 3, .inl kmetF))] sz)) 0 0 (va_A [(o, .inr (12, [.int kthrown, .ref ktape, .int (nI ktaped), .int (nI ksize), .int (nI klimit), .int (nI kto), .int (nI kfrom), .int kkind, .int knumber, .int ksign, .int kfault, .int kplace, .long kword, .int ktold, .ref know, .ref kread, .ref kkept, .ref ksnaps, .ref kaside, .ref kname, .ref kreadName, .ref kkeptName, .ref kisKept, .ref konces, .int (nI ksnapMany), .int khasCells, .ref kpoured, .ref kfar, .ref ksides, .int (nI ksideMany), .int kwayDays, .int khasWay, .ref klines, .ref kmet, .int (nI kmetMany), .ref ksunk, .ref ktrying, .int (nI ksunkMany), .int ksending, .int kfleets, .ref ktext, .int (nI ktexts), .int kseed, .ref kline, .ref kwritten, .int (nI klineMany), .int khasWritten, .ref knode, .int (nI knodes), .int (nI konesMany), .int (nI kwithin), .int (nI ktop)])), (know, .inl (ky 0, 373, .inl knowF)), (klines, .inl (ky 0, 3, .inl klinesF)), (kmet, .inl (ky 0, 3, .inl kmetF))] sz) := by
  refine Met.ofW (cc := cX12_meet) (maxL := 5) (ret := (some .int)) (by decide) rfl ?_
  intro p e s m args below meth c s₁ B hml hv
  obtain ⟨rfl, hsz, hP, hK, hD0⟩ := hv
  have hx := B.exec
  have hb := B.bytes
  have hr := B.returns
  have hts := atoms_spec (ws := wsX12_meet) B.pre
  have hown : s.vm.findClass RX12 = some m.cls := findClass_of_methodNamed B.named
  have hlocks := B.notSynchronized
  have hin12 : ∀ w ∈ u_ws RX12 TX12 52, w ∈ wsX12_meet := by decide +kernel
  subst hsz
  have hD := hD0.self (sz := s.heap.size)
  generalize hAe : va_A [(o, .inr (12, [.int kthrown, .ref ktape, .int (nI ktaped), .int (nI ksize), .int (nI klimit), .int (nI kto), .int (nI kfrom), .int kkind, .int knumber, .int ksign, .int kfault, .int kplace, .long kword, .int ktold, .ref know, .ref kread, .ref kkept, .ref ksnaps, .ref kaside, .ref kname, .ref kreadName, .ref kkeptName, .ref kisKept, .ref konces, .int (nI ksnapMany), .int khasCells, .ref kpoured, .ref kfar, .ref ksides, .int (nI ksideMany), .int kwayDays, .int khasWay, .ref klines, .ref kmet, .int (nI kmetMany), .ref ksunk, .ref ktrying, .int (nI ksunkMany), .int ksending, .int kfleets, .ref ktext, .int (nI ktexts), .int kseed, .ref kline, .ref kwritten, .int (nI klineMany), .int khasWritten, .ref knode, .int (nI knodes), .int (nI konesMany), .int (nI kwithin), .int (nI ktop)])), (know, .inl (ky 0, 373, .inl knowF)), (klines, .inl (ky 0, 3, .inl klinesF)), (kmet, .inl (ky 0, 3, .inl kmetF))] s.heap.size = A at hD ⊢
  have hA : ∀ q : Nat, s.heap.size ≤ q → A q := fun q h => by rw [← hAe]; exact Or.inr h
  have hS : va_S A s.heap s.heap [] := va_S.rf
  have hl := lv_entry ([.ref o, .int x, .int y]) (n := 5) (Nat.le_of_ble_eq_true rfl)
  rw [lg_entry_eq]
  generalize (lg_sl ([.ref o, .int x, .int y]) ++ List.replicate (5 - (lg_sl ([.ref o, .int x, .int y])).length) Slot.unset).toArray = ls at hl ⊢
  have hl : lv_has ls 5 [(0, .ref o), (1, .int x), (2, .int y)] := hl
  refine q_name (fun Q hQ => ?_)
  generalize ([.ref o, .int x, .int y] : List Value).toArray = args at hts hQ ⊢
  refine lv_aload_n hx hb dX12_meet_0 rfl (lv_at hl 0 rfl) ?_
  refine lv_iconst (v := nI 0) hx hb dX12_meet_1 (by decide) ?_
  refine va_put (D := (dC, dI)) (ci := 12) (v := .int (nI 0)) (ty := .int) (C := RX12) (T := TX12) (N := 52) hx hb hts hin12 tyX12 tyX12_ok nmX12 hown hK hP hD hS 0 rfl rfl 0 (by decide) (hts (.fieldLink RX12 1 "PorridgeSeaModel" "thrown" "I") (List.mem_of_getElem? (i := 1) rfl)) (fun _ h9 => h9) rfl (by decide +kernel) rfl rfl (Nat.le_of_ble_eq_true rfl) dX12_meet_2 (fun H locs hP hD hS => ?_)
  have hP : va_P (dC, dI) vwCl [(o, .inr (12, [.int (nI 0), .ref ktape, .int (nI ktaped), .int (nI ksize), .int (nI klimit), .int (nI kto), .int (nI kfrom), .int kkind, .int knumber, .int ksign, .int kfault, .int kplace, .long kword, .int ktold, .ref know, .ref kread, .ref kkept, .ref ksnaps, .ref kaside, .ref kname, .ref kreadName, .ref kkeptName, .ref kisKept, .ref konces, .int (nI ksnapMany), .int khasCells, .ref kpoured, .ref kfar, .ref ksides, .int (nI ksideMany), .int kwayDays, .int khasWay, .ref klines, .ref kmet, .int (nI kmetMany), .ref ksunk, .ref ktrying, .int (nI ksunkMany), .int ksending, .int kfleets, .ref ktext, .int (nI ktexts), .int kseed, .ref kline, .ref kwritten, .int (nI klineMany), .int khasWritten, .ref knode, .int (nI knodes), .int (nI konesMany), .int (nI kwithin), .int (nI ktop)])), (know, .inl (ky 0, 373, .inl knowF)), (klines, .inl (ky 0, 3, .inl klinesF)), (kmet, .inl (ky 0, 3, .inl kmetF))] H := hP
  have hD : va_D A [(o, .inr (12, [.int (nI 0), .ref ktape, .int (nI ktaped), .int (nI ksize), .int (nI klimit), .int (nI kto), .int (nI kfrom), .int kkind, .int knumber, .int ksign, .int kfault, .int kplace, .long kword, .int ktold, .ref know, .ref kread, .ref kkept, .ref ksnaps, .ref kaside, .ref kname, .ref kreadName, .ref kkeptName, .ref kisKept, .ref konces, .int (nI ksnapMany), .int khasCells, .ref kpoured, .ref kfar, .ref ksides, .int (nI ksideMany), .int kwayDays, .int khasWay, .ref klines, .ref kmet, .int (nI kmetMany), .ref ksunk, .ref ktrying, .int (nI ksunkMany), .int ksending, .int kfleets, .ref ktext, .int (nI ktexts), .int kseed, .ref kline, .ref kwritten, .int (nI klineMany), .int khasWritten, .ref knode, .int (nI knodes), .int (nI konesMany), .int (nI kwithin), .int (nI ktop)])), (know, .inl (ky 0, 373, .inl knowF)), (klines, .inl (ky 0, 3, .inl klinesF)), (kmet, .inl (ky 0, 3, .inl kmetF))] := hD
  refine lv_aload_n hx hb dX12_meet_5 rfl (lv_at hl 0 rfl) ?_
  refine lv_iload_n hx hb dX12_meet_6 rfl (lv_at hl 1 rfl) ?_
  refine vp_callSi (W.runV (As := [.int x]) (rest := []) ⟨hx, hb, hml, hown, hts⟩ (c_x_isBoat l dC dI ky o (nI 0) ktape ktaped ksize klimit kto kfrom kkind knumber ksign kfault kplace kword ktold know kread kkept ksnaps kaside kname kreadName kkeptName kisKept konces ksnapMany khasCells kpoured kfar ksides ksideMany kwayDays khasWay klines kmet kmetMany ksunk ktrying ksunkMany ksending kfleets ktext ktexts kseed kline kwritten klineMany khasWritten knode knodes konesMany kwithin ktop knowF x iv_ko_0 iv_ko_1 iv_ko_2 iv_ko_3 iv_ko_4 iv_ko_5 iv_ko_6 iv_ko_7 iv_ko_8 iv_ko_9 iv_ko_10 iv_ko_11 iv_ko_12 iv_ko_13 iv_ko_14 ab_now) (cwV 1 hts gX12_meet_X12_isBoat rfl rfl rfl (by decide +kernel) ⟨(Nat.le_of_ble_eq_true rfl), (Nat.le_of_ble_eq_true rfl)⟩) (pre_PV hK hP [0, 1] rfl (ci := 12) (q0 := 0) rfl rfl) rfl rfl hl.1 rfl (lv_room (Nat.le_of_ble_eq_true rfl)) dX12_meet_7 ⟨(Nat.le_of_ble_eq_true rfl), (Nat.le_of_ble_eq_true rfl)⟩) (fun r1 p2 => ?_)
  rcases p2 with ⟨rfl, t3, t4, t5⟩ | ⟨rfl, t6⟩
  · refine lv_if_eq (tgt := 29) hx hb dX12_meet_10 (by decide) (fun c7 => absurd c7 (by decide)) (fun c7 => ?_)
    refine lv_aload_n hx hb dX12_meet_13 rfl (lv_at hl 0 rfl) ?_
    refine lv_iload_n hx hb dX12_meet_14 rfl (lv_at hl 2 rfl) ?_
    refine vp_callSi (W.runV (As := [.int y]) (rest := []) ⟨hx, hb, hml, hown, hts⟩ (c_x_isLump l dC dI ky o (nI 0) ktape ktaped ksize klimit kto kfrom kkind knumber ksign kfault kplace kword ktold know kread kkept ksnaps kaside kname kreadName kkeptName kisKept konces ksnapMany khasCells kpoured kfar ksides ksideMany kwayDays khasWay klines kmet kmetMany ksunk ktrying ksunkMany ksending kfleets ktext ktexts kseed kline kwritten klineMany khasWritten knode knodes konesMany kwithin ktop knowF y iv_ko_0 iv_ko_1 iv_ko_2 iv_ko_3 iv_ko_4 iv_ko_5 iv_ko_6 iv_ko_7 iv_ko_8 iv_ko_9 iv_ko_10 iv_ko_11 iv_ko_12 iv_ko_13 iv_ko_14 ab_now) (cwV 1 hts gX12_meet_X12_isLump rfl rfl rfl (by decide +kernel) ⟨(Nat.le_of_ble_eq_true rfl), (Nat.le_of_ble_eq_true rfl)⟩) (pre_PV hK hP [0, 1] rfl (ci := 12) (q0 := 0) rfl rfl) rfl rfl hl.1 rfl (lv_room (Nat.le_of_ble_eq_true rfl)) dX12_meet_15 ⟨(Nat.le_of_ble_eq_true rfl), (Nat.le_of_ble_eq_true rfl)⟩) (fun r8 p9 => ?_)
    rcases p9 with ⟨rfl, t10, t11, t12⟩ | ⟨rfl, t13⟩
    · refine lv_if_eq (tgt := 29) hx hb dX12_meet_18 (by decide) (fun c14 => absurd c14 (by decide)) (fun c14 => ?_)
      refine lv_aload_n hx hb dX12_meet_21 rfl (lv_at hl 0 rfl) ?_
      refine lv_iload_n hx hb dX12_meet_22 rfl (lv_at hl 1 rfl) ?_
      refine vp_callSi (W.runV (As := [.int x]) (rest := []) ⟨hx, hb, hml, hown, hts⟩ (c_x_isEaten l dC dI ky o (nI 0) ktape ktaped ksize klimit kto kfrom kkind knumber ksign kfault kplace kword ktold know kread kkept ksnaps kaside kname kreadName kkeptName kisKept konces ksnapMany khasCells kpoured kfar ksides ksideMany kwayDays khasWay klines kmet kmetMany ksunk ktrying ksunkMany ksending kfleets ktext ktexts kseed kline kwritten klineMany khasWritten knode knodes konesMany kwithin ktop knowF x iv_ko_0 iv_ko_1 iv_ko_2 iv_ko_3 iv_ko_4 iv_ko_5 iv_ko_6 iv_ko_7 iv_ko_8 iv_ko_9 iv_ko_10 iv_ko_11 iv_ko_12 iv_ko_13 iv_ko_14 ab_now (lf_x_meet_1 knowF x y ab_now t3 t4 t5 t10 t11 t12)) (cwV 1 hts gX12_meet_X12_isEaten rfl rfl rfl (by decide +kernel) ⟨(Nat.le_of_ble_eq_true rfl), (Nat.le_of_ble_eq_true rfl)⟩) (pre_PV hK hP [0, 1] rfl (ci := 12) (q0 := 0) rfl rfl) rfl rfl hl.1 rfl (lv_room (Nat.le_of_ble_eq_true rfl)) dX12_meet_23 ⟨(Nat.le_of_ble_eq_true rfl), (Nat.le_of_ble_eq_true rfl)⟩) (fun r15 p16 => ?_)
      refine lv_if_eq (tgt := 31) hx hb dX12_meet_26 (by decide) (fun c17 => ?_) (fun c17 => ?_)
      · refine lv_iconst (v := nI 0) hx hb dX12_meet_31 (by decide) ?_
        refine lv_istore_n (lv' := [(3, .int (nI 0)), (0, .ref o), (1, .int x), (2, .int y)]) hx hb dX12_meet_32 rfl hl (by decide) rfl (fun ls hl => ?_)
        have hL27 : ∀ (n28 : Nat) (k24 : Nat) (f25 : Nat → Int32), (k24 ≤ 4) → 4 - k24 < n28 → ∀ (H : Heap) (locs : List Loc) (ls : Array Slot), va_P (dC, dI) vwCl [(o, .inr (12, [.int (nI 0), .ref ktape, .int (nI ktaped), .int (nI ksize), .int (nI klimit), .int (nI kto), .int (nI kfrom), .int kkind, .int knumber, .int ksign, .int kfault, .int kplace, .long kword, .int ktold, .ref know, .ref kread, .ref kkept, .ref ksnaps, .ref kaside, .ref kname, .ref kreadName, .ref kkeptName, .ref kisKept, .ref konces, .int (nI ksnapMany), .int khasCells, .ref kpoured, .ref kfar, .ref ksides, .int (nI ksideMany), .int kwayDays, .int khasWay, .ref klines, .ref kmet, .int (nI kmetMany), .ref ksunk, .ref ktrying, .int (nI ksunkMany), .int ksending, .int kfleets, .ref ktext, .int (nI ktexts), .int kseed, .ref kline, .ref kwritten, .int (nI klineMany), .int khasWritten, .ref knode, .int (nI knodes), .int (nI konesMany), .int (nI kwithin), .int (nI ktop)])), (know, .inl (ky 0, 373, .inl knowF)), (klines, .inl (ky 0, 3, .inl f25)), (kmet, .inl (ky 0, 3, .inl kmetF))] H → va_D A [(o, .inr (12, [.int (nI 0), .ref ktape, .int (nI ktaped), .int (nI ksize), .int (nI klimit), .int (nI kto), .int (nI kfrom), .int kkind, .int knumber, .int ksign, .int kfault, .int kplace, .long kword, .int ktold, .ref know, .ref kread, .ref kkept, .ref ksnaps, .ref kaside, .ref kname, .ref kreadName, .ref kkeptName, .ref kisKept, .ref konces, .int (nI ksnapMany), .int khasCells, .ref kpoured, .ref kfar, .ref ksides, .int (nI ksideMany), .int kwayDays, .int khasWay, .ref klines, .ref kmet, .int (nI kmetMany), .ref ksunk, .ref ktrying, .int (nI ksunkMany), .int ksending, .int kfleets, .ref ktext, .int (nI ktexts), .int kseed, .ref kline, .ref kwritten, .int (nI klineMany), .int khasWritten, .ref knode, .int (nI knodes), .int (nI konesMany), .int (nI kwithin), .int (nI ktop)])), (know, .inl (ky 0, 373, .inl knowF)), (klines, .inl (ky 0, 3, .inl f25)), (kmet, .inl (ky 0, 3, .inl kmetF))] → va_S A s.heap H locs → lv_has ls 5 [(3, .int (nI k24)), (0, .ref o), (1, .int x), (2, .int y)] → W p l e (headSpec wsX12_meet ({ frames := 6, cells := 0, slots := 0, locals := 141 })).room s m args below meth c H locs 0 0 Q (F0 m 33 ls []) := by
          intro n28
          induction n28 with
          | zero => intro k24 f25 _ h9; exact absurd h9 (Nat.not_lt_zero _)
          | succ n28 ih29 =>
            intro k24 f25 j26 hm30 H locs ls hP hD hS hl
            refine lv_iload_n hx hb dX12_meet_33 rfl (lv_at hl 0 rfl) ?_
            refine lv_iconst (v := nI 3) hx hb dX12_meet_34 (by decide) ?_
            refine n_icmp_gt (x := k24) (y := 3) (tgt := 110) hx hb (by omega) (by omega) dX12_meet_35 (by decide) (fun c31 => ?_) (fun c31 => ?_)
            · refine lv_iconst (v := (-1 : Int32)) hx hb dX12_meet_110 (by decide) ?_
              rw [hQ]
              exact W.iret (v := (-1 : Int32)) hx hb hr (fun t9 ht9 hW9 => ⟨⟨(-1 : Int32), (nI 0, kmetMany, f25, kmetF), rfl, iv_ko_7, by rw [ht9]; exact hP, va_K.moved hW9.alike hK, hD⟩, hS.F ht9⟩) hS.2.2 dX12_meet_111
            · refine lv_aload_n hx hb dX12_meet_38 rfl (lv_at hl 1 rfl) ?_
              refine lv_aload_n hx hb dX12_meet_39 rfl (lv_at hl 1 rfl) ?_
              refine va_get (D := (dC, dI)) (ci := 12) (v := .ref know) (C := RX12) (T := TX12) (N := 52) hx hb hts hin12 hown hK hP 0 rfl rfl 14 (by decide) (hts (.fieldLink RX12 98 "PorridgeSeaModel" "now" "[I") (List.mem_of_getElem? (i := 2) rfl)) (fun _ h9 => h9) rfl dX12_meet_40 ?_
              refine lv_bipush (v := nI 113) hx hb dX12_meet_43 (by decide) ?_
              refine lv_iload_n hx hb dX12_meet_45 rfl (lv_at hl 2 rfl) ?_
              obtain ⟨n32, h33, e34⟩ := nat_of x 6 (by decide) (lf_x_meet_2 knowF x y ab_now t3 t4 t5 t10 t11 t12)
              rw [e34]
              refine lv_iadd hx hb dX12_meet_46 ?_
              refine r_ti (nI (113 + n32)) (nI_add _ _) ?_
              obtain ⟨y35, e36⟩ : ∃ z9, z9 = knowF (113 + n32) := ⟨_, rfl⟩
              refine r_iald hx hb hK hP 1 rfl (113 + n32) (lf_x_meet_3 knowF x y n32 y35 ab_now t3 t4 t5 t10 t11 t12 h33 e34 e36) (by decide) y35 e36.symm dX12_meet_47 ?_
              obtain ⟨b37, b38⟩ : (0 : Int) ≤ y35.toInt ∧ y35.toInt ≤ 35 := by rw [e36]; exact ld_NB_107 ab_now (113 + n32) (lf_x_meet_4 knowF x y n32 y35 ab_now t3 t4 t5 t10 t11 t12 h33 e34 e36) (lf_x_meet_5 knowF x y n32 y35 ab_now t3 t4 t5 t10 t11 t12 h33 e34 e36)
              refine lv_aload_n hx hb dX12_meet_48 rfl (lv_at hl 1 rfl) ?_
              refine va_get (D := (dC, dI)) (ci := 12) (v := .ref know) (C := RX12) (T := TX12) (N := 52) hx hb hts hin12 hown hK hP 0 rfl rfl 14 (by decide) (hts (.fieldLink RX12 98 "PorridgeSeaModel" "now" "[I") (List.mem_of_getElem? (i := 2) rfl)) (fun _ h9 => h9) rfl dX12_meet_49 ?_
              refine lv_bipush (v := nI 107) hx hb dX12_meet_52 (by decide) ?_
              refine lv_iload_n hx hb dX12_meet_54 rfl (lv_at hl 3 rfl) ?_
              obtain ⟨n39, h40, e41⟩ := nat_of y 6 (by decide) (lf_x_meet_6 knowF x y n32 y35 ab_now t3 t4 t5 t10 t11 t12 h33 e34 e36 b37 b38)
              rw [e41]
              refine lv_iadd hx hb dX12_meet_55 ?_
              refine r_ti (nI (107 + n39)) (nI_add _ _) ?_
              obtain ⟨y42, e43⟩ : ∃ z9, z9 = knowF (107 + n39) := ⟨_, rfl⟩
              refine r_iald hx hb hK hP 1 rfl (107 + n39) (lf_x_meet_7 knowF x y n32 y35 n39 y42 ab_now t3 t4 t5 t10 t11 t12 h33 e34 e36 b37 b38 h40 e41 e43) (by decide) y42 e43.symm dX12_meet_56 ?_
              obtain ⟨b44, b45⟩ : (0 : Int) ≤ y42.toInt ∧ y42.toInt ≤ 35 := by rw [e43]; exact ld_NB_107 ab_now (107 + n39) (lf_x_meet_8 knowF x y n32 y35 n39 y42 ab_now t3 t4 t5 t10 t11 t12 h33 e34 e36 b37 b38 h40 e41 e43) (lf_x_meet_9 knowF x y n32 y35 n39 y42 ab_now t3 t4 t5 t10 t11 t12 h33 e34 e36 b37 b38 h40 e41 e43)
              refine lv_iconst (v := nI 0) hx hb dX12_meet_57 (by decide) ?_
              refine lv_iload_n hx hb dX12_meet_58 rfl (lv_at hl 0 rfl) ?_
              refine r_call_i (wr := [(kmet, .inl (ky 0, 3, .inl kmetF))]) (va_runV (As := [.int y35, .int y42, .int (nI 0), .int (nI k24)]) (rest := []) ⟨hx, hb, hml, hown, hts⟩ (c_x_meets0 l dC dI ky H.size o (nI 0) ktape ktaped ksize klimit kto kfrom kkind knumber ksign kfault kplace kword ktold know kread kkept ksnaps kaside kname kreadName kkeptName kisKept konces ksnapMany khasCells kpoured kfar ksides ksideMany kwayDays khasWay klines kmet kmetMany ksunk ktrying ksunkMany ksending kfleets ktext ktexts kseed kline kwritten klineMany khasWritten knode knodes konesMany kwithin ktop knowF f25 y35 y42 k24 iv_ko_0 iv_ko_1 iv_ko_2 iv_ko_3 iv_ko_4 iv_ko_5 iv_ko_6 iv_ko_7 iv_ko_8 iv_ko_9 iv_ko_10 iv_ko_11 iv_ko_12 iv_ko_13 iv_ko_14 ab_now (lf_x_meet_10 knowF x y n32 y35 n39 y42 ab_now t3 t4 t5 t10 t11 t12 h33 e34 e36 b37 b38 h40 e41 e43 b44 b45) (lf_x_meet_11 knowF x y n32 y35 n39 y42 ab_now t3 t4 t5 t10 t11 t12 h33 e34 e36 b37 b38 h40 e41 e43 b44 b45) (lf_x_meet_12 k24 n28 j26 hm30 c31) c31) (cwV 4 hts gX12_meet_X12_meets rfl rfl rfl (by decide +kernel) ⟨(Nat.le_of_ble_eq_true rfl), (Nat.le_of_ble_eq_true rfl)⟩) (pre_UV hK hP hD [0, 1, 2] (by decide) rfl (ci := 12) (q0 := 0) rfl rfl) rfl rfl hl.1 rfl (lv_room (Nat.le_of_ble_eq_true rfl)) dX12_meet_59 ⟨(Nat.le_of_ble_eq_true rfl), (Nat.le_of_ble_eq_true rfl)⟩) hP hD hS hA [0, 1, 2] [3] rfl rfl (by decide) (by decide) (fun r48 u46 H locs p47 hP hD hS => ?_)
              obtain ⟨klinesG_49, rfl⟩ : ∃ z, z = u46 := ⟨_, rfl⟩
              try dsimp only at p47
              have p50 := p47
              refine W.widen (k := 0) (n := 0) (Nat.le_of_ble_eq_true rfl) (Nat.le_of_ble_eq_true rfl) ?_
              have hP : va_P (dC, dI) vwCl [(kmet, .inl (ky 0, 3, .inl kmetF)), (o, .inr (12, [.int (nI 0), .ref ktape, .int (nI ktaped), .int (nI ksize), .int (nI klimit), .int (nI kto), .int (nI kfrom), .int kkind, .int knumber, .int ksign, .int kfault, .int kplace, .long kword, .int ktold, .ref know, .ref kread, .ref kkept, .ref ksnaps, .ref kaside, .ref kname, .ref kreadName, .ref kkeptName, .ref kisKept, .ref konces, .int (nI ksnapMany), .int khasCells, .ref kpoured, .ref kfar, .ref ksides, .int (nI ksideMany), .int kwayDays, .int khasWay, .ref klines, .ref kmet, .int (nI kmetMany), .ref ksunk, .ref ktrying, .int (nI ksunkMany), .int ksending, .int kfleets, .ref ktext, .int (nI ktexts), .int kseed, .ref kline, .ref kwritten, .int (nI klineMany), .int khasWritten, .ref knode, .int (nI knodes), .int (nI konesMany), .int (nI kwithin), .int (nI ktop)])), (know, .inl (ky 0, 373, .inl knowF)), (klines, .inl (ky 0, 3, .inl klinesG_49))] H := hP
              have hD : va_D A [(kmet, .inl (ky 0, 3, .inl kmetF)), (o, .inr (12, [.int (nI 0), .ref ktape, .int (nI ktaped), .int (nI ksize), .int (nI klimit), .int (nI kto), .int (nI kfrom), .int kkind, .int knumber, .int ksign, .int kfault, .int kplace, .long kword, .int ktold, .ref know, .ref kread, .ref kkept, .ref ksnaps, .ref kaside, .ref kname, .ref kreadName, .ref kkeptName, .ref kisKept, .ref konces, .int (nI ksnapMany), .int khasCells, .ref kpoured, .ref kfar, .ref ksides, .int (nI ksideMany), .int kwayDays, .int khasWay, .ref klines, .ref kmet, .int (nI kmetMany), .ref ksunk, .ref ktrying, .int (nI ksunkMany), .int ksending, .int kfleets, .ref ktext, .int (nI ktexts), .int kseed, .ref kline, .ref kwritten, .int (nI klineMany), .int khasWritten, .ref knode, .int (nI knodes), .int (nI konesMany), .int (nI kwithin), .int (nI ktop)])), (know, .inl (ky 0, 373, .inl knowF)), (klines, .inl (ky 0, 3, .inl klinesG_49))] := hD
              refine lv_if_ne (tgt := 68) hx hb dX12_meet_62 (by decide) (fun c51 => ?_) (fun c51 => ?_)
              · refine lv_iconst (v := nI 0) hx hb dX12_meet_68 (by decide) ?_
                refine lv_istore (lv' := [(4, .int (nI 0)), (3, .int (nI k24)), (0, .ref o), (1, .int x), (2, .int y)]) hx hb dX12_meet_69 hl (by decide) rfl (fun ls hl => ?_)
                have hL61 : ∀ (n62 : Nat) (k58 : Nat) (f59 : Nat → Int32), (k58 ≤ 3) → 3 - k58 < n62 → ∀ (H : Heap) (locs : List Loc) (ls : Array Slot), va_P (dC, dI) vwCl [(kmet, .inl (ky 0, 3, .inl f59)), (o, .inr (12, [.int (nI 0), .ref ktape, .int (nI ktaped), .int (nI ksize), .int (nI klimit), .int (nI kto), .int (nI kfrom), .int kkind, .int knumber, .int ksign, .int kfault, .int kplace, .long kword, .int ktold, .ref know, .ref kread, .ref kkept, .ref ksnaps, .ref kaside, .ref kname, .ref kreadName, .ref kkeptName, .ref kisKept, .ref konces, .int (nI ksnapMany), .int khasCells, .ref kpoured, .ref kfar, .ref ksides, .int (nI ksideMany), .int kwayDays, .int khasWay, .ref klines, .ref kmet, .int (nI kmetMany), .ref ksunk, .ref ktrying, .int (nI ksunkMany), .int ksending, .int kfleets, .ref ktext, .int (nI ktexts), .int kseed, .ref kline, .ref kwritten, .int (nI klineMany), .int khasWritten, .ref knode, .int (nI knodes), .int (nI konesMany), .int (nI kwithin), .int (nI ktop)])), (know, .inl (ky 0, 373, .inl knowF)), (klines, .inl (ky 0, 3, .inl klinesG_49))] H → va_D A [(kmet, .inl (ky 0, 3, .inl f59)), (o, .inr (12, [.int (nI 0), .ref ktape, .int (nI ktaped), .int (nI ksize), .int (nI klimit), .int (nI kto), .int (nI kfrom), .int kkind, .int knumber, .int ksign, .int kfault, .int kplace, .long kword, .int ktold, .ref know, .ref kread, .ref kkept, .ref ksnaps, .ref kaside, .ref kname, .ref kreadName, .ref kkeptName, .ref kisKept, .ref konces, .int (nI ksnapMany), .int khasCells, .ref kpoured, .ref kfar, .ref ksides, .int (nI ksideMany), .int kwayDays, .int khasWay, .ref klines, .ref kmet, .int (nI kmetMany), .ref ksunk, .ref ktrying, .int (nI ksunkMany), .int ksending, .int kfleets, .ref ktext, .int (nI ktexts), .int kseed, .ref kline, .ref kwritten, .int (nI klineMany), .int khasWritten, .ref knode, .int (nI knodes), .int (nI konesMany), .int (nI kwithin), .int (nI ktop)])), (know, .inl (ky 0, 373, .inl knowF)), (klines, .inl (ky 0, 3, .inl klinesG_49))] → va_S A s.heap H locs → lv_has ls 5 [(4, .int (nI k58)), (3, .int (nI k24)), (0, .ref o)] → W p l e (headSpec wsX12_meet ({ frames := 6, cells := 0, slots := 0, locals := 141 })).room s m args below meth c H locs 0 0 Q (F0 m 71 ls []) := by
                  intro n62
                  induction n62 with
                  | zero => intro k58 f59 _ h9; exact absurd h9 (Nat.not_lt_zero _)
                  | succ n62 ih63 =>
                    intro k58 f59 j60 hm64 H locs ls hP hD hS hl
                    refine lv_iload hx hb dX12_meet_71 (lv_at hl 0 rfl) ?_
                    refine lv_iload_n hx hb dX12_meet_73 rfl (lv_at hl 1 rfl) ?_
                    refine n_icmp_ge (x := k58) (y := k24) (tgt := 97) hx hb (by omega) (by omega) dX12_meet_74 (by decide) (fun c65 => ?_) (fun c65 => ?_)
                    · refine lv_aload_n hx hb dX12_meet_97 rfl (lv_at hl 2 rfl) ?_
                      refine lv_iload_n hx hb dX12_meet_98 rfl (lv_at hl 1 rfl) ?_
                      refine va_put (D := (dC, dI)) (ci := 12) (v := .int (nI k24)) (ty := .int) (C := RX12) (T := TX12) (N := 52) hx hb hts hin12 tyX12 tyX12_ok nmX12 hown hK hP hD hS 1 rfl rfl 34 (by decide) (hts (.fieldLink RX12 339 "PorridgeSeaModel" "metMany" "I") (List.mem_of_getElem? (i := 5) rfl)) (fun _ h9 => h9) rfl (by decide +kernel) rfl rfl (Nat.le_of_ble_eq_true rfl) dX12_meet_99 (fun H locs hP hD hS => ?_)
                      have hP : va_P (dC, dI) vwCl [(kmet, .inl (ky 0, 3, .inl f59)), (o, .inr (12, [.int (nI 0), .ref ktape, .int (nI ktaped), .int (nI ksize), .int (nI klimit), .int (nI kto), .int (nI kfrom), .int kkind, .int knumber, .int ksign, .int kfault, .int kplace, .long kword, .int ktold, .ref know, .ref kread, .ref kkept, .ref ksnaps, .ref kaside, .ref kname, .ref kreadName, .ref kkeptName, .ref kisKept, .ref konces, .int (nI ksnapMany), .int khasCells, .ref kpoured, .ref kfar, .ref ksides, .int (nI ksideMany), .int kwayDays, .int khasWay, .ref klines, .ref kmet, .int (nI k24), .ref ksunk, .ref ktrying, .int (nI ksunkMany), .int ksending, .int kfleets, .ref ktext, .int (nI ktexts), .int kseed, .ref kline, .ref kwritten, .int (nI klineMany), .int khasWritten, .ref knode, .int (nI knodes), .int (nI konesMany), .int (nI kwithin), .int (nI ktop)])), (know, .inl (ky 0, 373, .inl knowF)), (klines, .inl (ky 0, 3, .inl klinesG_49))] H := hP
                      have hD : va_D A [(kmet, .inl (ky 0, 3, .inl f59)), (o, .inr (12, [.int (nI 0), .ref ktape, .int (nI ktaped), .int (nI ksize), .int (nI klimit), .int (nI kto), .int (nI kfrom), .int kkind, .int knumber, .int ksign, .int kfault, .int kplace, .long kword, .int ktold, .ref know, .ref kread, .ref kkept, .ref ksnaps, .ref kaside, .ref kname, .ref kreadName, .ref kkeptName, .ref kisKept, .ref konces, .int (nI ksnapMany), .int khasCells, .ref kpoured, .ref kfar, .ref ksides, .int (nI ksideMany), .int kwayDays, .int khasWay, .ref klines, .ref kmet, .int (nI k24), .ref ksunk, .ref ktrying, .int (nI ksunkMany), .int ksending, .int kfleets, .ref ktext, .int (nI ktexts), .int kseed, .ref kline, .ref kwritten, .int (nI klineMany), .int khasWritten, .ref knode, .int (nI knodes), .int (nI konesMany), .int (nI kwithin), .int (nI ktop)])), (know, .inl (ky 0, 373, .inl knowF)), (klines, .inl (ky 0, 3, .inl klinesG_49))] := hD
                      refine lv_iload_n hx hb dX12_meet_102 rfl (lv_at hl 1 rfl) ?_
                      rw [hQ]
                      have hP9 := hP.sub (ws' := [(o, .inr (12, [.int (nI 0), .ref ktape, .int (nI ktaped), .int (nI ksize), .int (nI klimit), .int (nI kto), .int (nI kfrom), .int kkind, .int knumber, .int ksign, .int kfault, .int kplace, .long kword, .int ktold, .ref know, .ref kread, .ref kkept, .ref ksnaps, .ref kaside, .ref kname, .ref kreadName, .ref kkeptName, .ref kisKept, .ref konces, .int (nI ksnapMany), .int khasCells, .ref kpoured, .ref kfar, .ref ksides, .int (nI ksideMany), .int kwayDays, .int khasWay, .ref klines, .ref kmet, .int (nI k24), .ref ksunk, .ref ktrying, .int (nI ksunkMany), .int ksending, .int kfleets, .ref ktext, .int (nI ktexts), .int kseed, .ref kline, .ref kwritten, .int (nI klineMany), .int khasWritten, .ref knode, .int (nI knodes), .int (nI konesMany), .int (nI kwithin), .int (nI ktop)])), (know, .inl (ky 0, 373, .inl knowF)), (klines, .inl (ky 0, 3, .inl klinesG_49)), (kmet, .inl (ky 0, 3, .inl f59))]) [1, 2, 3, 0] rfl
                      have hD9 := hD.sub (ws' := [(o, .inr (12, [.int (nI 0), .ref ktape, .int (nI ktaped), .int (nI ksize), .int (nI klimit), .int (nI kto), .int (nI kfrom), .int kkind, .int knumber, .int ksign, .int kfault, .int kplace, .long kword, .int ktold, .ref know, .ref kread, .ref kkept, .ref ksnaps, .ref kaside, .ref kname, .ref kreadName, .ref kkeptName, .ref kisKept, .ref konces, .int (nI ksnapMany), .int khasCells, .ref kpoured, .ref kfar, .ref ksides, .int (nI ksideMany), .int kwayDays, .int khasWay, .ref klines, .ref kmet, .int (nI k24), .ref ksunk, .ref ktrying, .int (nI ksunkMany), .int ksending, .int kfleets, .ref ktext, .int (nI ktexts), .int kseed, .ref kline, .ref kwritten, .int (nI klineMany), .int khasWritten, .ref knode, .int (nI knodes), .int (nI konesMany), .int (nI kwithin), .int (nI ktop)])), (know, .inl (ky 0, 373, .inl knowF)), (klines, .inl (ky 0, 3, .inl klinesG_49)), (kmet, .inl (ky 0, 3, .inl f59))]) [1, 2, 3, 0] (by decide) rfl
                      exact W.iret (v := nI k24) hx hb hr (fun t9 ht9 hW9 => ⟨⟨nI k24, (nI 0, k24, klinesG_49, f59), rfl, c31, by rw [ht9]; exact hP9, va_K.moved hW9.alike hK, hD9⟩, hS.F ht9⟩) hS.2.2 dX12_meet_103
                    · refine lv_aload_n hx hb dX12_meet_77 rfl (lv_at hl 2 rfl) ?_
                      refine va_get (D := (dC, dI)) (ci := 12) (v := .ref kmet) (C := RX12) (T := TX12) (N := 52) hx hb hts hin12 hown hK hP 1 rfl rfl 33 (by decide) (hts (.fieldLink RX12 145 "PorridgeSeaModel" "met" "[I") (List.mem_of_getElem? (i := 3) rfl)) (fun _ h9 => h9) rfl dX12_meet_78 ?_
                      refine lv_iload hx hb dX12_meet_81 (lv_at hl 0 rfl) ?_
                      refine lv_aload_n hx hb dX12_meet_83 rfl (lv_at hl 2 rfl) ?_
                      refine va_get (D := (dC, dI)) (ci := 12) (v := .ref klines) (C := RX12) (T := TX12) (N := 52) hx hb hts hin12 hown hK hP 1 rfl rfl 32 (by decide) (hts (.fieldLink RX12 142 "PorridgeSeaModel" "lines" "[I") (List.mem_of_getElem? (i := 4) rfl)) (fun _ h9 => h9) rfl dX12_meet_84 ?_
                      refine lv_iload hx hb dX12_meet_87 (lv_at hl 0 rfl) ?_
                      obtain ⟨y66, e67⟩ : ∃ z9, z9 = klinesG_49 k58 := ⟨_, rfl⟩
                      refine r_iald hx hb hK hP 3 rfl k58 (lf_x_meet_13 k24 n28 klinesG_49 k58 n62 y66 j26 hm30 c31 j60 hm64 c65 e67) (by decide) y66 e67.symm dX12_meet_89 ?_
                      refine r_iast (x := y66) hx hb hK hP hD hS 0 rfl k58 (lf_x_meet_14 k24 n28 klinesG_49 k58 n62 y66 j26 hm30 c31 j60 hm64 c65 e67) (by decide) dX12_meet_90 (fun H locs hP hD hS => ?_)
                      obtain ⟨g68, e69⟩ : ∃ z9, z9 = upd f59 k58 y66 := ⟨_, rfl⟩
                      rw [← e69] at hP hD
                      have hP : va_P (dC, dI) vwCl [(kmet, .inl (ky 0, 3, .inl g68)), (o, .inr (12, [.int (nI 0), .ref ktape, .int (nI ktaped), .int (nI ksize), .int (nI klimit), .int (nI kto), .int (nI kfrom), .int kkind, .int knumber, .int ksign, .int kfault, .int kplace, .long kword, .int ktold, .ref know, .ref kread, .ref kkept, .ref ksnaps, .ref kaside, .ref kname, .ref kreadName, .ref kkeptName, .ref kisKept, .ref konces, .int (nI ksnapMany), .int khasCells, .ref kpoured, .ref kfar, .ref ksides, .int (nI ksideMany), .int kwayDays, .int khasWay, .ref klines, .ref kmet, .int (nI kmetMany), .ref ksunk, .ref ktrying, .int (nI ksunkMany), .int ksending, .int kfleets, .ref ktext, .int (nI ktexts), .int kseed, .ref kline, .ref kwritten, .int (nI klineMany), .int khasWritten, .ref knode, .int (nI knodes), .int (nI konesMany), .int (nI kwithin), .int (nI ktop)])), (know, .inl (ky 0, 373, .inl knowF)), (klines, .inl (ky 0, 3, .inl klinesG_49))] H := hP
                      have hD : va_D A [(kmet, .inl (ky 0, 3, .inl g68)), (o, .inr (12, [.int (nI 0), .ref ktape, .int (nI ktaped), .int (nI ksize), .int (nI klimit), .int (nI kto), .int (nI kfrom), .int kkind, .int knumber, .int ksign, .int kfault, .int kplace, .long kword, .int ktold, .ref know, .ref kread, .ref kkept, .ref ksnaps, .ref kaside, .ref kname, .ref kreadName, .ref kkeptName, .ref kisKept, .ref konces, .int (nI ksnapMany), .int khasCells, .ref kpoured, .ref kfar, .ref ksides, .int (nI ksideMany), .int kwayDays, .int khasWay, .ref klines, .ref kmet, .int (nI kmetMany), .ref ksunk, .ref ktrying, .int (nI ksunkMany), .int ksending, .int kfleets, .ref ktext, .int (nI ktexts), .int kseed, .ref kline, .ref kwritten, .int (nI klineMany), .int khasWritten, .ref knode, .int (nI knodes), .int (nI konesMany), .int (nI kwithin), .int (nI ktop)])), (know, .inl (ky 0, 373, .inl knowF)), (klines, .inl (ky 0, 3, .inl klinesG_49))] := hD
                      refine lv_iinc (v := nI (k58 + 1)) (lv' := [(4, .int (nI (k58 + 1))), (3, .int (nI k24)), (0, .ref o)]) hx hb dX12_meet_91 hl (k := 0) rfl (show nI k58 + nI 1 = nI (k58 + 1) from nI_add _ _) (by decide) rfl (fun ls hl => ?_)
                      refine lv_goto (tgt := 71) hx hb dX12_meet_94 (by decide) ?_
                      exact ih63 (k58 + 1) g68 (lf_x_meet_15 k24 n28 klinesG_49 k58 n62 y66 j26 hm30 c31 j60 hm64 c65 e67) (lf_x_meet_16 k24 n28 klinesG_49 k58 n62 y66 j26 hm30 c31 j60 hm64 c65 e67) _ _ _ hP hD hS (lv_sub hl [0, 1, 2] rfl)
                exact hL61 ((3 - 0) + 1) 0 kmetF (lf_x_meet_17) (Nat.lt_succ_self _) _ _ _ hP hD hS (lv_sub hl [0, 1, 2] rfl)
              · refine lv_goto (tgt := 104) hx hb dX12_meet_65 (by decide) ?_
                refine lv_iinc (v := nI (k24 + 1)) (lv' := [(3, .int (nI (k24 + 1))), (0, .ref o), (1, .int x), (2, .int y)]) hx hb dX12_meet_104 hl (k := 0) rfl (show nI k24 + nI 1 = nI (k24 + 1) from nI_add _ _) (by decide) rfl (fun ls hl => ?_)
                refine lv_goto (tgt := 33) hx hb dX12_meet_107 (by decide) ?_
                exact ih29 (k24 + 1) klinesG_49 (lf_x_meet_18 k24 n28 j26 hm30 c31) (lf_x_meet_19 k24 n28 j26 hm30 c31) _ _ _ (hP.sub [1, 2, 3, 0] rfl) (hD.sub [1, 2, 3, 0] (by decide) rfl) hS (lv_sub hl [0, 1, 2, 3] rfl)
        exact hL27 ((4 - 0) + 1) 0 klinesF (lf_x_meet_20) (Nat.lt_succ_self _) _ _ _ hP hD hS (lv_sub hl [0, 1, 2, 3] rfl)
      · refine lv_iconst (v := (-1 : Int32)) hx hb dX12_meet_29 (by decide) ?_
        rw [hQ]
        exact W.iret (v := (-1 : Int32)) hx hb hr (fun t9 ht9 hW9 => ⟨⟨(-1 : Int32), (nI 0, kmetMany, klinesF, kmetF), rfl, iv_ko_7, by rw [ht9]; exact hP, va_K.moved hW9.alike hK, hD⟩, hS.F ht9⟩) hS.2.2 dX12_meet_30
    · refine lv_if_eq (tgt := 29) hx hb dX12_meet_18 (by decide) (fun c70 => ?_) (fun c70 => absurd (by decide) c70)
      refine lv_iconst (v := (-1 : Int32)) hx hb dX12_meet_29 (by decide) ?_
      rw [hQ]
      exact W.iret (v := (-1 : Int32)) hx hb hr (fun t9 ht9 hW9 => ⟨⟨(-1 : Int32), (nI 0, kmetMany, klinesF, kmetF), rfl, iv_ko_7, by rw [ht9]; exact hP, va_K.moved hW9.alike hK, hD⟩, hS.F ht9⟩) hS.2.2 dX12_meet_30
  · refine lv_if_eq (tgt := 29) hx hb dX12_meet_10 (by decide) (fun c71 => ?_) (fun c71 => absurd (by decide) c71)
    refine lv_iconst (v := (-1 : Int32)) hx hb dX12_meet_29 (by decide) ?_
    rw [hQ]
    exact W.iret (v := (-1 : Int32)) hx hb hr (fun t9 ht9 hW9 => ⟨⟨(-1 : Int32), (nI 0, kmetMany, klinesF, kmetF), rfl, iv_ko_7, by rw [ht9]; exact hP, va_K.moved hW9.alike hK, hD⟩, hS.F ht9⟩) hS.2.2 dX12_meet_30
