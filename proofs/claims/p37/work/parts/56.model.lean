theorem dX12_said_0 : decode cX12_said 0 = .ok (.aload_n 0, 1) := by decide +kernel
theorem dX12_said_1 : decode cX12_said 1 = .ok (.iconst 0, 1) := by decide +kernel
theorem dX12_said_2 : decode cX12_said 2 = .ok (.putfield 1, 3) := by decide +kernel
theorem dX12_said_5 : decode cX12_said 5 = .ok (.aload_n 0, 1) := by decide +kernel
theorem dX12_said_6 : decode cX12_said 6 = .ok (.getfield 98, 3) := by decide +kernel
theorem dX12_said_9 : decode cX12_said 9 = .ok (.sipush 131, 3) := by decide +kernel
theorem dX12_said_12 : decode cX12_said 12 = .ok (.iaload, 1) := by decide +kernel
theorem dX12_said_13 : decode cX12_said 13 = .ok (.ifCond .ne 5, 3) := by decide +kernel
theorem dX12_said_18 : decode cX12_said 18 = .ok (.iconst 0, 1) := by decide +kernel
theorem dX12_said_19 : decode cX12_said 19 = .ok (.istore_n 2, 1) := by decide +kernel
theorem dX12_said_20 : decode cX12_said 20 = .ok (.iconst 0, 1) := by decide +kernel
theorem dX12_said_21 : decode cX12_said 21 = .ok (.istore_n 3, 1) := by decide +kernel
theorem dX12_said_22 : decode cX12_said 22 = .ok (.iload_n 3, 1) := by decide +kernel
theorem dX12_said_23 : decode cX12_said 23 = .ok (.aload_n 0, 1) := by decide +kernel
theorem dX12_said_24 : decode cX12_said 24 = .ok (.getfield 98, 3) := by decide +kernel
theorem dX12_said_27 : decode cX12_said 27 = .ok (.iconst 3, 1) := by decide +kernel
theorem dX12_said_28 : decode cX12_said 28 = .ok (.iaload, 1) := by decide +kernel
theorem dX12_said_29 : decode cX12_said 29 = .ok (.if_icmp .ge 38, 3) := by decide +kernel
theorem dX12_said_67 : decode cX12_said 67 = .ok (.iload_n 1, 1) := by decide +kernel
theorem dX12_said_68 : decode cX12_said 68 = .ok (.iconst (-1), 1) := by decide +kernel
theorem dX12_said_69 : decode cX12_said 69 = .ok (.if_icmp .ne 7, 3) := by decide +kernel
theorem dX12_said_76 : decode cX12_said 76 = .ok (.iconst (-1), 1) := by decide +kernel
theorem dX12_said_77 : decode cX12_said 77 = .ok (.ireturn, 1) := by decide +kernel
theorem dX12_said_72 : decode cX12_said 72 = .ok (.iload_n 2, 1) := by decide +kernel
theorem dX12_said_73 : decode cX12_said 73 = .ok (.goto 4, 3) := by decide +kernel
theorem dX12_said_32 : decode cX12_said 32 = .ok (.aload_n 0, 1) := by decide +kernel
theorem dX12_said_33 : decode cX12_said 33 = .ok (.aload_n 0, 1) := by decide +kernel
theorem dX12_said_34 : decode cX12_said 34 = .ok (.getfield 98, 3) := by decide +kernel
theorem dX12_said_37 : decode cX12_said 37 = .ok (.sipush 132, 3) := by decide +kernel
theorem dX12_said_40 : decode cX12_said 40 = .ok (.iaload, 1) := by decide +kernel
theorem dX12_said_41 : decode cX12_said 41 = .ok (.iload_n 3, 1) := by decide +kernel
theorem dX12_said_42 : decode cX12_said 42 = .ok (.invokevirtual 466, 3) := by decide +kernel
theorem dX12_said_45 : decode cX12_said 45 = .ok (.ifCond .ne 6, 3) := by decide +kernel
theorem dX12_said_51 : decode cX12_said 51 = .ok (.iload_n 2, 1) := by decide +kernel
theorem dX12_said_52 : decode cX12_said 52 = .ok (.iload_n 1, 1) := by decide +kernel
theorem dX12_said_53 : decode cX12_said 53 = .ok (.if_icmp .ne 5, 3) := by decide +kernel
theorem dX12_said_58 : decode cX12_said 58 = .ok (.iinc 2 1, 3) := by decide +kernel
theorem dX12_said_61 : decode cX12_said 61 = .ok (.iinc 3 1, 3) := by decide +kernel
theorem dX12_said_64 : decode cX12_said 64 = .ok (.goto (-42), 3) := by decide +kernel
theorem dX12_said_56 : decode cX12_said 56 = .ok (.iload_n 3, 1) := by decide +kernel
theorem dX12_said_57 : decode cX12_said 57 = .ok (.ireturn, 1) := by decide +kernel
theorem dX12_said_48 : decode cX12_said 48 = .ok (.goto 13, 3) := by decide +kernel
theorem dX12_said_16 : decode cX12_said 16 = .ok (.iconst (-1), 1) := by decide +kernel
theorem dX12_said_17 : decode cX12_said 17 = .ok (.ireturn, 1) := by decide +kernel
set_option maxRecDepth 100000 in
theorem ggX12_said_X12_holds : GoodIn wsX12_said wsX12_holds := goodIn_r _ [7, 2, 3, 4, 5, 6, 8, 9, 10, 11, 12, 13, 14, 15, 16, 17, 18, 19, 20, 21, 22, 23, 24, 25, 26, 27, 28, 29, 30, 31, 32, 33, 34, 35, 36, 37, 38, 39, 40, 41, 42, 43, 44, 45, 46, 47, 48, 49, 50, 51, 52, 53, 54, 55, 56, 57, 58, 59, 60, 61, 62, 63, 64, 65, 66, 67, 68, 69, 70, 71, 72, 73, 74, 75, 76, 77, 78, 79, 80, 81, 82, 83, 84, 85] rfl (by decide +kernel)
set_option maxRecDepth 100000 in
theorem gX12_said_X12_holds : GoodIn wsX12_said (wsV RX12 466 RX12 yX12_holds wsX12_holds) := goodIn_app (goodIn_of _ (by decide +kernel)) ggX12_said_X12_holds
set_option maxRecDepth 20000 in
theorem lf_x_said_1 (knowF : Nat → Int32) (y1 : Int32) (k11 : Nat) (n15 : Nat) (y18 : Int32) (y24 : Int32) (ab_now : NB knowF) (sb_now : SB knowF) (e2 : y1 = knowF 131) (c3 : y1 ≠ 0) (j13 : k11 ≤ 6) (hm17 : 6 - k11 < n15 + 1) (e19 : y18 = knowF 3) (b20 : 0 ≤ y18.toInt) (b21 : y18.toInt ≤ 6) (c22 : ¬ y18 ≤ nI k11) (e25 : y24 = knowF 132) (b26 : 0 ≤ y24.toInt) (b27 : y24.toInt ≤ 59) : 0 ≤ y24.toInt ∧ y24.toInt < ((60 : Nat) : Int) := by
  have b_y1 := ia_b y1
  have b_y18 := ia_b y18
  have b_y24 := ia_b y24
  try have k_0 := ia_n k11 (by first | decide | omega)
  try simp only [ia_lt, ia_le, ia_eq, ia_m1, ia_0, ia_1, ne_eq, true_and, and_true, false_and, and_false, or_false, false_or, or_true, true_or, not_true_eq_false, not_false_eq_true] at *
  all_goals omega
set_option maxRecDepth 20000 in
theorem lf_x_said_2 (knowF : Nat → Int32) (y1 : Int32) (k11 : Nat) (n15 : Nat) (y18 : Int32) (y24 : Int32) (n28 : Nat) (ab_now : NB knowF) (sb_now : SB knowF) (e2 : y1 = knowF 131) (c3 : y1 ≠ 0) (j13 : k11 ≤ 6) (hm17 : 6 - k11 < n15 + 1) (e19 : y18 = knowF 3) (b20 : 0 ≤ y18.toInt) (b21 : y18.toInt ≤ 6) (c22 : ¬ y18 ≤ nI k11) (e25 : y24 = knowF 132) (b26 : 0 ≤ y24.toInt) (b27 : y24.toInt ≤ 59) (h29 : n28 < 60) (e30 : y24 = nI n28) : k11 < 6 := by
  have b_y1 := ia_b y1
  have b_y18 := ia_b y18
  have b_y24 := ia_b y24
  try have k_0 := ia_n k11 (by first | decide | omega)
  try have k_1 := ia_n n28 (by first | decide | omega)
  try simp only [ia_lt, ia_le, ia_eq, ia_m1, ia_0, ia_1, ne_eq, true_and, and_true, false_and, and_false, or_false, false_or, or_true, true_or, not_true_eq_false, not_false_eq_true] at *
  all_goals omega
set_option maxRecDepth 20000 in
theorem lf_x_said_3 (knowF : Nat → Int32) (y1 : Int32) (k11 : Nat) (n15 : Nat) (y18 : Int32) (y24 : Int32) (n28 : Nat) (ab_now : NB knowF) (sb_now : SB knowF) (e2 : y1 = knowF 131) (c3 : y1 ≠ 0) (j13 : k11 ≤ 6) (hm17 : 6 - k11 < n15 + 1) (e19 : y18 = knowF 3) (b20 : 0 ≤ y18.toInt) (b21 : y18.toInt ≤ 6) (c22 : ¬ y18 ≤ nI k11) (e25 : y24 = knowF 132) (b26 : 0 ≤ y24.toInt) (b27 : y24.toInt ≤ 59) (h29 : n28 < 60) (e30 : y24 = nI n28) : (k11 + 1) ≤ 6 := by
  have b_y1 := ia_b y1
  have b_y18 := ia_b y18
  have b_y24 := ia_b y24
  try have k_0 := ia_n k11 (by first | decide | omega)
  try have k_1 := ia_n n28 (by first | decide | omega)
  try simp only [ia_lt, ia_le, ia_eq, ia_m1, ia_0, ia_1, ne_eq, true_and, and_true, false_and, and_false, or_false, false_or, or_true, true_or, not_true_eq_false, not_false_eq_true] at *
  all_goals omega
set_option maxRecDepth 20000 in
theorem lf_x_said_4 (knowF : Nat → Int32) (y1 : Int32) (k11 : Nat) (n15 : Nat) (y18 : Int32) (y24 : Int32) (n28 : Nat) (ab_now : NB knowF) (sb_now : SB knowF) (e2 : y1 = knowF 131) (c3 : y1 ≠ 0) (j13 : k11 ≤ 6) (hm17 : 6 - k11 < n15 + 1) (e19 : y18 = knowF 3) (b20 : 0 ≤ y18.toInt) (b21 : y18.toInt ≤ 6) (c22 : ¬ y18 ≤ nI k11) (e25 : y24 = knowF 132) (b26 : 0 ≤ y24.toInt) (b27 : y24.toInt ≤ 59) (h29 : n28 < 60) (e30 : y24 = nI n28) : 6 - (k11 + 1) < n15 := by
  have b_y1 := ia_b y1
  have b_y18 := ia_b y18
  have b_y24 := ia_b y24
  try have k_0 := ia_n k11 (by first | decide | omega)
  try have k_1 := ia_n n28 (by first | decide | omega)
  try simp only [ia_lt, ia_le, ia_eq, ia_m1, ia_0, ia_1, ne_eq, true_and, and_true, false_and, and_false, or_false, false_or, or_true, true_or, not_true_eq_false, not_false_eq_true] at *
  all_goals omega
set_option maxRecDepth 20000 in
theorem lf_x_said_5 (knowF : Nat → Int32) (y1 : Int32) (k11 : Nat) (n15 : Nat) (y18 : Int32) (y24 : Int32) (n28 : Nat) (ab_now : NB knowF) (sb_now : SB knowF) (e2 : y1 = knowF 131) (c3 : y1 ≠ 0) (j13 : k11 ≤ 6) (hm17 : 6 - k11 < n15 + 1) (e19 : y18 = knowF 3) (b20 : 0 ≤ y18.toInt) (b21 : y18.toInt ≤ 6) (c22 : ¬ y18 ≤ nI k11) (e25 : y24 = knowF 132) (b26 : 0 ≤ y24.toInt) (b27 : y24.toInt ≤ 59) (h29 : n28 < 60) (e30 : y24 = nI n28) : (k11 + 1) ≤ 6 := by
  have b_y1 := ia_b y1
  have b_y18 := ia_b y18
  have b_y24 := ia_b y24
  try have k_0 := ia_n k11 (by first | decide | omega)
  try have k_1 := ia_n n28 (by first | decide | omega)
  try simp only [ia_lt, ia_le, ia_eq, ia_m1, ia_0, ia_1, ne_eq, true_and, and_true, false_and, and_false, or_false, false_or, or_true, true_or, not_true_eq_false, not_false_eq_true] at *
  all_goals omega
set_option maxRecDepth 20000 in
theorem lf_x_said_6 (knowF : Nat → Int32) (y1 : Int32) (k11 : Nat) (n15 : Nat) (y18 : Int32) (y24 : Int32) (n28 : Nat) (ab_now : NB knowF) (sb_now : SB knowF) (e2 : y1 = knowF 131) (c3 : y1 ≠ 0) (j13 : k11 ≤ 6) (hm17 : 6 - k11 < n15 + 1) (e19 : y18 = knowF 3) (b20 : 0 ≤ y18.toInt) (b21 : y18.toInt ≤ 6) (c22 : ¬ y18 ≤ nI k11) (e25 : y24 = knowF 132) (b26 : 0 ≤ y24.toInt) (b27 : y24.toInt ≤ 59) (h29 : n28 < 60) (e30 : y24 = nI n28) : 6 - (k11 + 1) < n15 := by
  have b_y1 := ia_b y1
  have b_y18 := ia_b y18
  have b_y24 := ia_b y24
  try have k_0 := ia_n k11 (by first | decide | omega)
  try have k_1 := ia_n n28 (by first | decide | omega)
  try simp only [ia_lt, ia_le, ia_eq, ia_m1, ia_0, ia_1, ne_eq, true_and, and_true, false_and, and_false, or_false, false_or, or_true, true_or, not_true_eq_false, not_false_eq_true] at *
  all_goals omega
set_option maxRecDepth 20000 in
theorem lf_x_said_7   : 0 ≤ 6 := by
  try simp only [ia_lt, ia_le, ia_eq, ia_m1, ia_0, ia_1, ne_eq, true_and, and_true, false_and, and_false, or_false, false_or, or_true, true_or, not_true_eq_false, not_false_eq_true] at *
  all_goals omega
set_option maxHeartbeats 4000000 in
set_option maxRecDepth 100000 in
theorem c_x_said (l : Launch) (dC : Nat → ClassId) (dI : Nat → Nat → Nat) (ky : Nat → ClassId) (sz : Nat) (o : Nat) (kthrown : Int32) (ktape : Nat) (ktaped : Nat) (ksize : Nat) (klimit : Nat) (kto : Nat) (kfrom : Nat) (kkind : Int32) (knumber : Int32) (ksign : Int32) (kfault : Int32) (kplace : Int32) (kword : Int64) (ktold : Int32) (know : Nat) (kread : Nat) (kkept : Nat) (ksnaps : Nat) (kaside : Nat) (kname : Nat) (kreadName : Nat) (kkeptName : Nat) (kisKept : Nat) (konces : Nat) (ksnapMany : Nat) (khasCells : Int32) (kpoured : Nat) (kfar : Nat) (ksides : Nat) (ksideMany : Nat) (kwayDays : Int32) (khasWay : Int32) (klines : Nat) (kmet : Nat) (kmetMany : Nat) (ksunk : Nat) (ktrying : Nat) (ksunkMany : Nat) (ksending : Int32) (kfleets : Int32) (ktext : Nat) (ktexts : Nat) (kseed : Int32) (kline : Nat) (kwritten : Nat) (klineMany : Nat) (khasWritten : Int32) (knode : Nat) (knodes : Nat) (konesMany : Nat) (kwithin : Nat) (ktop : Nat) (knowF : Nat → Int32) (x : Int32) (iv_ko_0 : ktaped ≤ 940) (iv_ko_1 : ksize ≤ 940) (iv_ko_2 : klimit ≤ 900) (iv_ko_3 : kto ≤ ksize) (iv_ko_4 : kfrom ≤ 940) (iv_ko_5 : ksnapMany ≤ 8) (iv_ko_6 : ksideMany ≤ 36) (iv_ko_7 : kmetMany ≤ 3) (iv_ko_8 : ksunkMany ≤ 36) (iv_ko_9 : ktexts ≤ 64) (iv_ko_10 : klineMany ≤ 40) (iv_ko_11 : knodes ≤ 60) (iv_ko_12 : konesMany ≤ 20) (iv_ko_13 : kwithin ≤ 8) (iv_ko_14 : ktop ≤ 59) (ab_now : NB knowF) (sb_now : SB knowF) : Met l yX12_said wsX12_said ({ frames := 81, cells := 0, slots := 0, locals := 2827 }) (PcU dC dI ky [.ref o, .int x] [(o, .inr (12, [.int kthrown, .ref ktape, .int (nI ktaped), .int (nI ksize), .int (nI klimit), .int (nI kto), .int (nI kfrom), .int kkind, .int knumber, .int ksign, .int kfault, .int kplace, .long kword, .int ktold, .ref know, .ref kread, .ref kkept, .ref ksnaps, .ref kaside, .ref kname, .ref kreadName, .ref kkeptName, .ref kisKept, .ref konces, .int (nI ksnapMany), .int khasCells, .ref kpoured, .ref kfar, .ref ksides, .int (nI ksideMany), .int kwayDays, .int khasWay, .ref klines, .ref kmet, .int (nI kmetMany), .ref ksunk, .ref ktrying, .int (nI ksunkMany), .int ksending, .int kfleets, .ref ktext, .int (nI ktexts), .int kseed, .ref kline, .ref kwritten, .int (nI klineMany), .int khasWritten, .ref knode, .int (nI knodes), .int (nI konesMany), .int (nI kwithin), .int (nI ktop)])), (know, .inl (ky 0, 373, .inl knowF))] sz) (va_Qi (fun (r : Int32) (kthrownG : Int32) => True) (BU dC dI ky (fun (kthrownG : Int32) => [(o, .inr (12, [.int kthrownG, .ref ktape, .int (nI ktaped), .int (nI ksize), .int (nI klimit), .int (nI kto), .int (nI kfrom), .int kkind, .int knumber, .int ksign, .int kfault, .int kplace, .long kword, .int ktold, .ref know, .ref kread, .ref kkept, .ref ksnaps, .ref kaside, .ref kname, .ref kreadName, .ref kkeptName, .ref kisKept, .ref konces, .int (nI ksnapMany), .int khasCells, .ref kpoured, .ref kfar, .ref ksides, .int (nI ksideMany), .int kwayDays, .int khasWay, .ref klines, .ref kmet, .int (nI kmetMany), .ref ksunk, .ref ktrying, .int (nI ksunkMany), .int ksending, .int kfleets, .ref ktext, .int (nI ktexts), .int kseed, .ref kline, .ref kwritten, .int (nI klineMany), .int khasWritten, .ref knode, .int (nI knodes), .int (nI konesMany), .int (nI kwithin), .int (nI ktop)])), (know, .inl (ky 0, 373, .inl knowF))]) (va_A [(o, .inr (12, [.int kthrown, .ref ktape, .int (nI ktaped), .int (nI ksize), .int (nI klimit), .int (nI kto), .int (nI kfrom), .int kkind, .int knumber, .int ksign, .int kfault, .int kplace, .long kword, .int ktold, .ref know, .ref kread, .ref kkept, .ref ksnaps, .ref kaside, .ref kname, .ref kreadName, .ref kkeptName, .ref kisKept, .ref konces, .int (nI ksnapMany), .int khasCells, .ref kpoured, .ref kfar, .ref ksides, .int (nI ksideMany), .int kwayDays, .int khasWay, .ref klines, .ref kmet, .int (nI kmetMany), .ref ksunk, .ref ktrying, .int (nI ksunkMany), .int ksending, .int kfleets, .ref ktext, .int (nI ktexts), .int kseed, .ref kline, .ref kwritten, .int (nI klineMany), .int khasWritten, .ref knode, .int (nI knodes), .int (nI konesMany), .int (nI kwithin), .int (nI ktop)])), (know, .inl (ky 0, 373, .inl knowF))] sz)) (va_A [(o, .inr (12, [.int kthrown, .ref ktape, .int (nI ktaped), .int (nI ksize), .int (nI klimit), .int (nI kto), .int (nI kfrom), .int kkind, .int knumber, .int ksign, .int kfault, .int kplace, .long kword, .int ktold, .ref know, .ref kread, .ref kkept, .ref ksnaps, .ref kaside, .ref kname, .ref kreadName, .ref kkeptName, .ref kisKept, .ref konces, .int (nI ksnapMany), .int khasCells, .ref kpoured, .ref kfar, .ref ksides, .int (nI ksideMany), .int kwayDays, .int khasWay, .ref klines, .ref kmet, .int (nI kmetMany), .ref ksunk, .ref ktrying, .int (nI ksunkMany), .int ksending, .int kfleets, .ref ktext, .int (nI ktexts), .int kseed, .ref kline, .ref kwritten, .int (nI klineMany), .int khasWritten, .ref knode, .int (nI knodes), .int (nI konesMany), .int (nI kwithin), .int (nI ktop)])), (know, .inl (ky 0, 373, .inl knowF))] sz)) 0 0 (va_A [(o, .inr (12, [.int kthrown, .ref ktape, .int (nI ktaped), .int (nI ksize), .int (nI klimit), .int (nI kto), .int (nI kfrom), .int kkind, .int knumber, .int ksign, .int kfault, .int kplace, .long kword, .int ktold, .ref know, .ref kread, .ref kkept, .ref ksnaps, .ref kaside, .ref kname, .ref kreadName, .ref kkeptName, .ref kisKept, .ref konces, .int (nI ksnapMany), .int khasCells, .ref kpoured, .ref kfar, .ref ksides, .int (nI ksideMany), .int kwayDays, .int khasWay, .ref klines, .ref kmet, .int (nI kmetMany), .ref ksunk, .ref ktrying, .int (nI ksunkMany), .int ksending, .int kfleets, .ref ktext, .int (nI ktexts), .int kseed, .ref kline, .ref kwritten, .int (nI klineMany), .int khasWritten, .ref knode, .int (nI knodes), .int (nI konesMany), .int (nI kwithin), .int (nI ktop)])), (know, .inl (ky 0, 373, .inl knowF))] sz) := by
  refine Met.ofW (cc := cX12_said) (maxL := 4) (ret := (some .int)) (by decide) rfl ?_
  intro p e s m args below meth c s₁ B hml hv
  obtain ⟨rfl, hsz, hP, hK, hD0⟩ := hv
  have hx := B.exec
  have hb := B.bytes
  have hr := B.returns
  have hts := atoms_spec (ws := wsX12_said) B.pre
  have hown : s.vm.findClass RX12 = some m.cls := findClass_of_methodNamed B.named
  have hlocks := B.notSynchronized
  have hin12 : ∀ w ∈ u_ws RX12 TX12 52, w ∈ wsX12_said := by decide +kernel
  subst hsz
  have hD := hD0.self (sz := s.heap.size)
  generalize hAe : va_A [(o, .inr (12, [.int kthrown, .ref ktape, .int (nI ktaped), .int (nI ksize), .int (nI klimit), .int (nI kto), .int (nI kfrom), .int kkind, .int knumber, .int ksign, .int kfault, .int kplace, .long kword, .int ktold, .ref know, .ref kread, .ref kkept, .ref ksnaps, .ref kaside, .ref kname, .ref kreadName, .ref kkeptName, .ref kisKept, .ref konces, .int (nI ksnapMany), .int khasCells, .ref kpoured, .ref kfar, .ref ksides, .int (nI ksideMany), .int kwayDays, .int khasWay, .ref klines, .ref kmet, .int (nI kmetMany), .ref ksunk, .ref ktrying, .int (nI ksunkMany), .int ksending, .int kfleets, .ref ktext, .int (nI ktexts), .int kseed, .ref kline, .ref kwritten, .int (nI klineMany), .int khasWritten, .ref knode, .int (nI knodes), .int (nI konesMany), .int (nI kwithin), .int (nI ktop)])), (know, .inl (ky 0, 373, .inl knowF))] s.heap.size = A at hD ⊢
  have hA : ∀ q : Nat, s.heap.size ≤ q → A q := fun q h => by rw [← hAe]; exact Or.inr h
  have hS : va_S A s.heap s.heap [] := va_S.rf
  have hl := lv_entry ([.ref o, .int x]) (n := 4) (Nat.le_of_ble_eq_true rfl)
  rw [lg_entry_eq]
  generalize (lg_sl ([.ref o, .int x]) ++ List.replicate (4 - (lg_sl ([.ref o, .int x])).length) Slot.unset).toArray = ls at hl ⊢
  have hl : lv_has ls 4 [(0, .ref o), (1, .int x)] := hl
  refine q_name (fun Q hQ => ?_)
  generalize ([.ref o, .int x] : List Value).toArray = args at hts hQ ⊢
  refine lv_aload_n hx hb dX12_said_0 rfl (lv_at hl 0 rfl) ?_
  refine lv_iconst (v := nI 0) hx hb dX12_said_1 (by decide) ?_
  refine va_put (D := (dC, dI)) (ci := 12) (v := .int (nI 0)) (ty := .int) (C := RX12) (T := TX12) (N := 52) hx hb hts hin12 tyX12 tyX12_ok nmX12 hown hK hP hD hS 0 rfl rfl 0 (by decide) (hts (.fieldLink RX12 1 "PorridgeSeaModel" "thrown" "I") (List.mem_of_getElem? (i := 1) rfl)) (fun _ h9 => h9) rfl (by decide +kernel) rfl rfl (Nat.le_of_ble_eq_true rfl) dX12_said_2 (fun H locs hP hD hS => ?_)
  have hP : va_P (dC, dI) vwCl [(o, .inr (12, [.int (nI 0), .ref ktape, .int (nI ktaped), .int (nI ksize), .int (nI klimit), .int (nI kto), .int (nI kfrom), .int kkind, .int knumber, .int ksign, .int kfault, .int kplace, .long kword, .int ktold, .ref know, .ref kread, .ref kkept, .ref ksnaps, .ref kaside, .ref kname, .ref kreadName, .ref kkeptName, .ref kisKept, .ref konces, .int (nI ksnapMany), .int khasCells, .ref kpoured, .ref kfar, .ref ksides, .int (nI ksideMany), .int kwayDays, .int khasWay, .ref klines, .ref kmet, .int (nI kmetMany), .ref ksunk, .ref ktrying, .int (nI ksunkMany), .int ksending, .int kfleets, .ref ktext, .int (nI ktexts), .int kseed, .ref kline, .ref kwritten, .int (nI klineMany), .int khasWritten, .ref knode, .int (nI knodes), .int (nI konesMany), .int (nI kwithin), .int (nI ktop)])), (know, .inl (ky 0, 373, .inl knowF))] H := hP
  have hD : va_D A [(o, .inr (12, [.int (nI 0), .ref ktape, .int (nI ktaped), .int (nI ksize), .int (nI klimit), .int (nI kto), .int (nI kfrom), .int kkind, .int knumber, .int ksign, .int kfault, .int kplace, .long kword, .int ktold, .ref know, .ref kread, .ref kkept, .ref ksnaps, .ref kaside, .ref kname, .ref kreadName, .ref kkeptName, .ref kisKept, .ref konces, .int (nI ksnapMany), .int khasCells, .ref kpoured, .ref kfar, .ref ksides, .int (nI ksideMany), .int kwayDays, .int khasWay, .ref klines, .ref kmet, .int (nI kmetMany), .ref ksunk, .ref ktrying, .int (nI ksunkMany), .int ksending, .int kfleets, .ref ktext, .int (nI ktexts), .int kseed, .ref kline, .ref kwritten, .int (nI klineMany), .int khasWritten, .ref knode, .int (nI knodes), .int (nI konesMany), .int (nI kwithin), .int (nI ktop)])), (know, .inl (ky 0, 373, .inl knowF))] := hD
  refine lv_aload_n hx hb dX12_said_5 rfl (lv_at hl 0 rfl) ?_
  refine va_get (D := (dC, dI)) (ci := 12) (v := .ref know) (C := RX12) (T := TX12) (N := 52) hx hb hts hin12 hown hK hP 0 rfl rfl 14 (by decide) (hts (.fieldLink RX12 98 "PorridgeSeaModel" "now" "[I") (List.mem_of_getElem? (i := 2) rfl)) (fun _ h9 => h9) rfl dX12_said_6 ?_
  refine lv_sipush (v := nI 131) hx hb dX12_said_9 (by decide) ?_
  obtain ⟨y1, e2⟩ : ∃ z9, z9 = knowF 131 := ⟨_, rfl⟩
  refine r_iald hx hb hK hP 1 rfl 131 (by decide) (by decide) y1 e2.symm dX12_said_12 ?_
  refine lv_if_ne (tgt := 18) hx hb dX12_said_13 (by decide) (fun c3 => ?_) (fun c3 => ?_)
  · refine lv_iconst (v := nI 0) hx hb dX12_said_18 (by decide) ?_
    refine lv_istore_n (lv' := [(2, .int (nI 0)), (0, .ref o), (1, .int x)]) hx hb dX12_said_19 rfl hl (by decide) rfl (fun ls hl => ?_)
    refine lv_iconst (v := nI 0) hx hb dX12_said_20 (by decide) ?_
    refine lv_istore_n (lv' := [(3, .int (nI 0)), (2, .int (nI 0)), (0, .ref o), (1, .int x)]) hx hb dX12_said_21 rfl hl (by decide) rfl (fun ls hl => ?_)
    have hL14 : ∀ (n15 : Nat) (k11 : Nat) (x12 : Int32), (k11 ≤ 6) → 6 - k11 < n15 → ∀ (H : Heap) (locs : List Loc) (ls : Array Slot), va_P (dC, dI) vwCl [(o, .inr (12, [.int (nI 0), .ref ktape, .int (nI ktaped), .int (nI ksize), .int (nI klimit), .int (nI kto), .int (nI kfrom), .int kkind, .int knumber, .int ksign, .int kfault, .int kplace, .long kword, .int ktold, .ref know, .ref kread, .ref kkept, .ref ksnaps, .ref kaside, .ref kname, .ref kreadName, .ref kkeptName, .ref kisKept, .ref konces, .int (nI ksnapMany), .int khasCells, .ref kpoured, .ref kfar, .ref ksides, .int (nI ksideMany), .int kwayDays, .int khasWay, .ref klines, .ref kmet, .int (nI kmetMany), .ref ksunk, .ref ktrying, .int (nI ksunkMany), .int ksending, .int kfleets, .ref ktext, .int (nI ktexts), .int kseed, .ref kline, .ref kwritten, .int (nI klineMany), .int khasWritten, .ref knode, .int (nI knodes), .int (nI konesMany), .int (nI kwithin), .int (nI ktop)])), (know, .inl (ky 0, 373, .inl knowF))] H → va_D A [(o, .inr (12, [.int (nI 0), .ref ktape, .int (nI ktaped), .int (nI ksize), .int (nI klimit), .int (nI kto), .int (nI kfrom), .int kkind, .int knumber, .int ksign, .int kfault, .int kplace, .long kword, .int ktold, .ref know, .ref kread, .ref kkept, .ref ksnaps, .ref kaside, .ref kname, .ref kreadName, .ref kkeptName, .ref kisKept, .ref konces, .int (nI ksnapMany), .int khasCells, .ref kpoured, .ref kfar, .ref ksides, .int (nI ksideMany), .int kwayDays, .int khasWay, .ref klines, .ref kmet, .int (nI kmetMany), .ref ksunk, .ref ktrying, .int (nI ksunkMany), .int ksending, .int kfleets, .ref ktext, .int (nI ktexts), .int kseed, .ref kline, .ref kwritten, .int (nI klineMany), .int khasWritten, .ref knode, .int (nI knodes), .int (nI konesMany), .int (nI kwithin), .int (nI ktop)])), (know, .inl (ky 0, 373, .inl knowF))] → va_S A s.heap H locs → lv_has ls 4 [(3, .int (nI k11)), (2, .int x12), (0, .ref o), (1, .int x)] → W p l e (headSpec wsX12_said ({ frames := 81, cells := 0, slots := 0, locals := 2827 })).room s m args below meth c H locs 0 0 Q (F0 m 22 ls []) := by
      intro n15
      induction n15 with
      | zero => intro k11 x12 _ h9; exact absurd h9 (Nat.not_lt_zero _)
      | succ n15 ih16 =>
        intro k11 x12 j13 hm17 H locs ls hP hD hS hl
        refine lv_iload_n hx hb dX12_said_22 rfl (lv_at hl 0 rfl) ?_
        refine lv_aload_n hx hb dX12_said_23 rfl (lv_at hl 2 rfl) ?_
        refine va_get (D := (dC, dI)) (ci := 12) (v := .ref know) (C := RX12) (T := TX12) (N := 52) hx hb hts hin12 hown hK hP 0 rfl rfl 14 (by decide) (hts (.fieldLink RX12 98 "PorridgeSeaModel" "now" "[I") (List.mem_of_getElem? (i := 2) rfl)) (fun _ h9 => h9) rfl dX12_said_24 ?_
        refine lv_iconst (v := nI 3) hx hb dX12_said_27 (by decide) ?_
        obtain ⟨y18, e19⟩ : ∃ z9, z9 = knowF 3 := ⟨_, rfl⟩
        refine r_iald hx hb hK hP 1 rfl 3 (by decide) (by decide) y18 e19.symm dX12_said_28 ?_
        obtain ⟨b20, b21⟩ : (0 : Int) ≤ y18.toInt ∧ y18.toInt ≤ 6 := by rw [e19]; exact ld_NB_3 ab_now 3 (by decide) (by decide)
        refine lv_icmp_ge (tgt := 67) hx hb dX12_said_29 (by decide) (fun c22 => ?_) (fun c22 => ?_)
        · refine lv_iload_n hx hb dX12_said_67 rfl (lv_at hl 3 rfl) ?_
          refine lv_iconst (v := (-1 : Int32)) hx hb dX12_said_68 (by decide) ?_
          refine lv_icmp_ne (tgt := 76) hx hb dX12_said_69 (by decide) (fun c23 => ?_) (fun c23 => ?_)
          · refine lv_iconst (v := (-1 : Int32)) hx hb dX12_said_76 (by decide) ?_
            rw [hQ]
            exact W.iret (v := (-1 : Int32)) hx hb hr (fun t9 ht9 hW9 => ⟨⟨(-1 : Int32), (nI 0), rfl, trivial, by rw [ht9]; exact hP, va_K.moved hW9.alike hK, hD⟩, hS.F ht9⟩) hS.2.2 dX12_said_77
          · refine lv_iload_n hx hb dX12_said_72 rfl (lv_at hl 1 rfl) ?_
            refine lv_goto (tgt := 77) hx hb dX12_said_73 (by decide) ?_
            rw [hQ]
            exact W.iret (v := x12) hx hb hr (fun t9 ht9 hW9 => ⟨⟨x12, (nI 0), rfl, trivial, by rw [ht9]; exact hP, va_K.moved hW9.alike hK, hD⟩, hS.F ht9⟩) hS.2.2 dX12_said_77
        · refine lv_aload_n hx hb dX12_said_32 rfl (lv_at hl 2 rfl) ?_
          refine lv_aload_n hx hb dX12_said_33 rfl (lv_at hl 2 rfl) ?_
          refine va_get (D := (dC, dI)) (ci := 12) (v := .ref know) (C := RX12) (T := TX12) (N := 52) hx hb hts hin12 hown hK hP 0 rfl rfl 14 (by decide) (hts (.fieldLink RX12 98 "PorridgeSeaModel" "now" "[I") (List.mem_of_getElem? (i := 2) rfl)) (fun _ h9 => h9) rfl dX12_said_34 ?_
          refine lv_sipush (v := nI 132) hx hb dX12_said_37 (by decide) ?_
          obtain ⟨y24, e25⟩ : ∃ z9, z9 = knowF 132 := ⟨_, rfl⟩
          refine r_iald hx hb hK hP 1 rfl 132 (by decide) (by decide) y24 e25.symm dX12_said_40 ?_
          obtain ⟨b26, b27⟩ : (0 : Int) ≤ y24.toInt ∧ y24.toInt ≤ 59 := by rw [e25]; exact ld_NB_132 ab_now 132 (by decide) (by decide)
          refine lv_iload_n hx hb dX12_said_41 rfl (lv_at hl 0 rfl) ?_
          obtain ⟨n28, h29, e30⟩ := nat_of y24 60 (by decide) (lf_x_said_1 knowF y1 k11 n15 y18 y24 ab_now sb_now e2 c3 j13 hm17 e19 b20 b21 c22 e25 b26 b27)
          rw [e30]
          refine vp_callSi (W.runV (As := [.int (nI n28), .int (nI k11)]) (rest := []) ⟨hx, hb, hml, hown, hts⟩ (c_x_holdsF l dC dI ky o (nI 0) ktape ktaped ksize klimit kto kfrom kkind knumber ksign kfault kplace kword ktold know kread kkept ksnaps kaside kname kreadName kkeptName kisKept konces ksnapMany khasCells kpoured kfar ksides ksideMany kwayDays khasWay klines kmet kmetMany ksunk ktrying ksunkMany ksending kfleets ktext ktexts kseed kline kwritten klineMany khasWritten knode knodes konesMany kwithin ktop knowF n28 k11 iv_ko_0 iv_ko_1 iv_ko_2 iv_ko_3 iv_ko_4 iv_ko_5 iv_ko_6 iv_ko_7 iv_ko_8 iv_ko_9 iv_ko_10 iv_ko_11 iv_ko_12 iv_ko_13 iv_ko_14 ab_now sb_now h29 (lf_x_said_2 knowF y1 k11 n15 y18 y24 n28 ab_now sb_now e2 c3 j13 hm17 e19 b20 b21 c22 e25 b26 b27 h29 e30)) (cwV 2 hts gX12_said_X12_holds rfl rfl rfl (by decide +kernel) ⟨(Nat.le_of_ble_eq_true rfl), (Nat.le_of_ble_eq_true rfl)⟩) (pre_PV hK hP [0, 1] rfl (ci := 12) (q0 := 0) rfl rfl) rfl rfl hl.1 rfl (lv_room (Nat.le_of_ble_eq_true rfl)) dX12_said_42 ⟨(Nat.le_of_ble_eq_true rfl), (Nat.le_of_ble_eq_true rfl)⟩) (fun r31 p32 => ?_)
          refine lv_if_ne (tgt := 51) hx hb dX12_said_45 (by decide) (fun c33 => ?_) (fun c33 => ?_)
          · refine lv_iload_n hx hb dX12_said_51 rfl (lv_at hl 1 rfl) ?_
            refine lv_iload_n hx hb dX12_said_52 rfl (lv_at hl 3 rfl) ?_
            refine lv_icmp_ne (tgt := 58) hx hb dX12_said_53 (by decide) (fun c34 => ?_) (fun c34 => ?_)
            · obtain ⟨y35, e36⟩ : ∃ z9 : Int32, z9 = x12 + Int32.ofInt (1) := ⟨_, rfl⟩
              refine lv_iinc (v := y35) (lv' := [(2, .int y35), (3, .int (nI k11)), (0, .ref o), (1, .int x)]) hx hb dX12_said_58 hl (k := 1) rfl e36.symm (by decide) rfl (fun ls hl => ?_)
              refine lv_iinc (v := nI (k11 + 1)) (lv' := [(3, .int (nI (k11 + 1))), (2, .int y35), (0, .ref o), (1, .int x)]) hx hb dX12_said_61 hl (k := 1) rfl (show nI k11 + nI 1 = nI (k11 + 1) from nI_add _ _) (by decide) rfl (fun ls hl => ?_)
              refine lv_goto (tgt := 22) hx hb dX12_said_64 (by decide) ?_
              exact ih16 (k11 + 1) y35 (lf_x_said_3 knowF y1 k11 n15 y18 y24 n28 ab_now sb_now e2 c3 j13 hm17 e19 b20 b21 c22 e25 b26 b27 h29 e30) (lf_x_said_4 knowF y1 k11 n15 y18 y24 n28 ab_now sb_now e2 c3 j13 hm17 e19 b20 b21 c22 e25 b26 b27 h29 e30) _ _ _ hP hD hS (lv_sub hl [0, 1, 2, 3] rfl)
            · refine lv_iload_n hx hb dX12_said_56 rfl (lv_at hl 0 rfl) ?_
              rw [hQ]
              exact W.iret (v := nI k11) hx hb hr (fun t9 ht9 hW9 => ⟨⟨nI k11, (nI 0), rfl, trivial, by rw [ht9]; exact hP, va_K.moved hW9.alike hK, hD⟩, hS.F ht9⟩) hS.2.2 dX12_said_57
          · refine lv_goto (tgt := 61) hx hb dX12_said_48 (by decide) ?_
            refine lv_iinc (v := nI (k11 + 1)) (lv' := [(3, .int (nI (k11 + 1))), (2, .int x12), (0, .ref o), (1, .int x)]) hx hb dX12_said_61 hl (k := 0) rfl (show nI k11 + nI 1 = nI (k11 + 1) from nI_add _ _) (by decide) rfl (fun ls hl => ?_)
            refine lv_goto (tgt := 22) hx hb dX12_said_64 (by decide) ?_
            exact ih16 (k11 + 1) x12 (lf_x_said_5 knowF y1 k11 n15 y18 y24 n28 ab_now sb_now e2 c3 j13 hm17 e19 b20 b21 c22 e25 b26 b27 h29 e30) (lf_x_said_6 knowF y1 k11 n15 y18 y24 n28 ab_now sb_now e2 c3 j13 hm17 e19 b20 b21 c22 e25 b26 b27 h29 e30) _ _ _ hP hD hS (lv_sub hl [0, 1, 2, 3] rfl)
    exact hL14 ((6 - 0) + 1) 0 (nI 0) (lf_x_said_7) (Nat.lt_succ_self _) _ _ _ hP hD hS (lv_sub hl [0, 1, 2, 3] rfl)
  · refine lv_iconst (v := (-1 : Int32)) hx hb dX12_said_16 (by decide) ?_
    rw [hQ]
    exact W.iret (v := (-1 : Int32)) hx hb hr (fun t9 ht9 hW9 => ⟨⟨(-1 : Int32), (nI 0), rfl, trivial, by rw [ht9]; exact hP, va_K.moved hW9.alike hK, hD⟩, hS.F ht9⟩) hS.2.2 dX12_said_17
