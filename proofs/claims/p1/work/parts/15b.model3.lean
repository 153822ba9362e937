theorem dX12_stir_0 : decode cX12_stir 0 = .ok (.aload_n 0, 1) := by decide +kernel
theorem dX12_stir_1 : decode cX12_stir 1 = .ok (.iconst 0, 1) := by decide +kernel
theorem dX12_stir_2 : decode cX12_stir 2 = .ok (.putfield 1, 3) := by decide +kernel
theorem dX12_stir_5 : decode cX12_stir 5 = .ok (.aload_n 0, 1) := by decide +kernel
theorem dX12_stir_6 : decode cX12_stir 6 = .ok (.iconst 0, 1) := by decide +kernel
theorem dX12_stir_7 : decode cX12_stir 7 = .ok (.iload_n 1, 1) := by decide +kernel
theorem dX12_stir_8 : decode cX12_stir 8 = .ok (.iload_n 2, 1) := by decide +kernel
theorem dX12_stir_9 : decode cX12_stir 9 = .ok (.iload_n 3, 1) := by decide +kernel
theorem dX12_stir_10 : decode cX12_stir 10 = .ok (.invokestatic 302, 3) := by decide +kernel
theorem dX12_stir_13 : decode cX12_stir 13 = .ok (.iconst 0, 1) := by decide +kernel
theorem dX12_stir_14 : decode cX12_stir 14 = .ok (.iload_n 1, 1) := by decide +kernel
theorem dX12_stir_15 : decode cX12_stir 15 = .ok (.iconst 0, 1) := by decide +kernel
theorem dX12_stir_16 : decode cX12_stir 16 = .ok (.iconst 1, 1) := by decide +kernel
theorem dX12_stir_17 : decode cX12_stir 17 = .ok (.invokestatic 75, 3) := by decide +kernel
theorem dX12_stir_20 : decode cX12_stir 20 = .ok (.ifCond .eq 41, 3) := by decide +kernel
theorem dX12_stir_61 : decode cX12_stir 61 = .ok (.iconst 0, 1) := by decide +kernel
theorem dX12_stir_62 : decode cX12_stir 62 = .ok (.invokevirtual 305, 3) := by decide +kernel
theorem dX12_stir_65 : decode cX12_stir 65 = .ok (.ireturn, 1) := by decide +kernel
theorem dX12_stir_23 : decode cX12_stir 23 = .ok (.iload_n 3, 1) := by decide +kernel
theorem dX12_stir_24 : decode cX12_stir 24 = .ok (.iconst 0, 1) := by decide +kernel
theorem dX12_stir_25 : decode cX12_stir 25 = .ok (.iconst 1, 1) := by decide +kernel
theorem dX12_stir_26 : decode cX12_stir 26 = .ok (.invokestatic 75, 3) := by decide +kernel
theorem dX12_stir_29 : decode cX12_stir 29 = .ok (.ifCond .eq 32, 3) := by decide +kernel
theorem dX12_stir_32 : decode cX12_stir 32 = .ok (.iload_n 2, 1) := by decide +kernel
theorem dX12_stir_33 : decode cX12_stir 33 = .ok (.iconst 0, 1) := by decide +kernel
theorem dX12_stir_34 : decode cX12_stir 34 = .ok (.aload_n 0, 1) := by decide +kernel
theorem dX12_stir_35 : decode cX12_stir 35 = .ok (.getfield 98, 3) := by decide +kernel
theorem dX12_stir_38 : decode cX12_stir 38 = .ok (.iload_n 1, 1) := by decide +kernel
theorem dX12_stir_39 : decode cX12_stir 39 = .ok (.iconst 1, 1) := by decide +kernel
theorem dX12_stir_40 : decode cX12_stir 40 = .ok (.if_icmp .ne 7, 3) := by decide +kernel
theorem dX12_stir_47 : decode cX12_stir 47 = .ok (.iconst 1, 1) := by decide +kernel
theorem dX12_stir_48 : decode cX12_stir 48 = .ok (.iaload, 1) := by decide +kernel
theorem dX12_stir_49 : decode cX12_stir 49 = .ok (.iconst 1, 1) := by decide +kernel
theorem dX12_stir_50 : decode cX12_stir 50 = .ok (.isub, 1) := by decide +kernel
theorem dX12_stir_51 : decode cX12_stir 51 = .ok (.invokestatic 75, 3) := by decide +kernel
theorem dX12_stir_54 : decode cX12_stir 54 = .ok (.ifCond .eq 7, 3) := by decide +kernel
theorem dX12_stir_57 : decode cX12_stir 57 = .ok (.iconst 1, 1) := by decide +kernel
theorem dX12_stir_58 : decode cX12_stir 58 = .ok (.goto 4, 3) := by decide +kernel
theorem dX12_stir_43 : decode cX12_stir 43 = .ok (.iconst 0, 1) := by decide +kernel
theorem dX12_stir_44 : decode cX12_stir 44 = .ok (.goto 4, 3) := by decide +kernel
set_option maxRecDepth 20000 in
theorem ggX12_stir_X12_lineOf : GoodIn wsX12_stir wsX12_lineOf := goodIn_r _ [6] (by decide +kernel) (by decide +kernel)
set_option maxRecDepth 20000 in
theorem ggX12_stir_X12_isIn : GoodIn wsX12_stir wsX12_isIn := goodIn_r _ [9] (by decide +kernel) (by decide +kernel)
set_option maxRecDepth 20000 in
theorem ggX12_stir_X12_act : GoodIn wsX12_stir wsX12_act := goodIn_r _ [13, 14, 15, 16, 5, 17, 2, 18, 19, 20, 21, 22, 23, 24, 25, 26, 27, 28, 29, 30, 31, 32, 33, 7, 8, 9, 34, 35, 36, 37, 38, 39, 40, 41, 42, 43, 44, 45, 46, 47, 48, 49, 50, 51, 52, 53, 54, 55, 56, 57, 58, 59, 60, 61, 62, 63, 64, 65, 66, 67, 68, 69, 70, 71, 72, 73, 74, 75, 76, 77, 78, 79, 80, 81, 82, 83, 84, 85, 86, 87, 88, 89, 90, 91, 92, 93, 94, 95, 96, 97, 98, 99, 100, 101, 102, 103, 104, 105, 106, 107, 108, 109, 110, 111, 112, 113, 114, 115] (by decide +kernel) (by decide +kernel)
set_option maxRecDepth 20000 in
theorem gX12_stir_X12_lineOf : GoodIn wsX12_stir (va_wsS RX12 302 yX12_lineOf wsX12_lineOf) := goodIn_app (goodIn_of _ (by decide +kernel)) ggX12_stir_X12_lineOf
set_option maxRecDepth 20000 in
theorem gX12_stir_X12_isIn : GoodIn wsX12_stir (va_wsS RX12 75 yX12_isIn wsX12_isIn) := goodIn_app (goodIn_of _ (by decide +kernel)) ggX12_stir_X12_isIn
set_option maxRecDepth 20000 in
theorem gX12_stir_X12_act : GoodIn wsX12_stir (wsV RX12 305 RX12 yX12_act wsX12_act) := goodIn_app (goodIn_of _ (by decide +kernel)) ggX12_stir_X12_act
set_option maxRecDepth 20000 in
theorem lf_m_stir_1 (o : Nat) (ktape : Nat) (know : Nat) (kread : Nat) (kkept : Nat) (ksnaps : Nat) (kaside : Nat) (kname : Nat) (kreadName : Nat) (kkeptName : Nat) (kisKept : Nat) (konces : Nat) (kpoured : Nat) (kfar : Nat) (ksides : Nat) (klines : Nat) (kmet : Nat) (ksunk : Nat) (ktrying : Nat) (ktext : Nat) (kline : Nat) (kwritten : Nat) (knode : Nat) (knowF : Nat → Int32) (ksnapsF : Nat → Int32) (kpouredF : Nat → Int32) (x : Int32) (y : Int32) (n : Int32) (hN : NowOk knowF) (hok : (x.toInt = 0 ∨ x.toInt = 1) ∧ (n.toInt = 0 ∨ n.toInt = 1) ∧ 0 ≤ y.toInt ∧ y.toInt < 4) : 0 ≤ y.toInt ∧ y.toInt < ((4 : Nat) : Int) := by
  try simp only [ia_lt, ia_le, ia_eq, ia_m1, ia_0, ia_1, ne_eq, true_and, and_true, false_and, and_false, or_false, false_or, or_true, true_or, not_true_eq_false, not_false_eq_true] at *
  all_goals omega
set_option maxRecDepth 20000 in
theorem lf_m_stir_2 (o : Nat) (ktape : Nat) (know : Nat) (kread : Nat) (kkept : Nat) (ksnaps : Nat) (kaside : Nat) (kname : Nat) (kreadName : Nat) (kkeptName : Nat) (kisKept : Nat) (konces : Nat) (kpoured : Nat) (kfar : Nat) (ksides : Nat) (klines : Nat) (kmet : Nat) (ksunk : Nat) (ktrying : Nat) (ktext : Nat) (kline : Nat) (kwritten : Nat) (knode : Nat) (knowF : Nat → Int32) (ksnapsF : Nat → Int32) (kpouredF : Nat → Int32) (x : Int32) (n : Int32) (yn : Nat) (hN : NowOk knowF) (hok : (x.toInt = 0 ∨ x.toInt = 1) ∧ (n.toInt = 0 ∨ n.toInt = 1) ∧ 0 ≤ (nI yn).toInt ∧ (nI yn).toInt < 4) (h1 : yn < 4) : x = nI 0 ∨ x = nI 1 := by
  have k_0 := ia_n yn (by omega)
  have k_1 := ia_n 0 (by decide)
  have k_2 := ia_n 1 (by decide)
  try simp only [ia_lt, ia_le, ia_eq, ia_m1, ia_0, ia_1, ne_eq, true_and, and_true, false_and, and_false, or_false, false_or, or_true, true_or, not_true_eq_false, not_false_eq_true] at *
  all_goals omega
set_option maxRecDepth 20000 in
theorem lf_m_stir_3 (o : Nat) (ktape : Nat) (know : Nat) (kread : Nat) (kkept : Nat) (ksnaps : Nat) (kaside : Nat) (kname : Nat) (kreadName : Nat) (kkeptName : Nat) (kisKept : Nat) (konces : Nat) (kpoured : Nat) (kfar : Nat) (ksides : Nat) (klines : Nat) (kmet : Nat) (ksunk : Nat) (ktrying : Nat) (ktext : Nat) (kline : Nat) (kwritten : Nat) (knode : Nat) (knowF : Nat → Int32) (ksnapsF : Nat → Int32) (kpouredF : Nat → Int32) (n : Int32) (yn : Nat) (hN : NowOk knowF) (hok : ((nI 0).toInt = 0 ∨ (nI 0).toInt = 1) ∧ (n.toInt = 0 ∨ n.toInt = 1) ∧ 0 ≤ (nI yn).toInt ∧ (nI yn).toInt < 4) (h1 : yn < 4) : n = nI 0 ∨ n = nI 1 := by
  have k_0 := ia_n 0 (by decide)
  have k_1 := ia_n yn (by omega)
  have k_2 := ia_n 1 (by decide)
  try simp only [ia_lt, ia_le, ia_eq, ia_m1, ia_0, ia_1, ne_eq, true_and, and_true, false_and, and_false, or_false, false_or, or_true, true_or, not_true_eq_false, not_false_eq_true] at *
  all_goals omega
set_option maxRecDepth 20000 in
theorem lf_m_stir_4 (o : Nat) (ktape : Nat) (know : Nat) (kread : Nat) (kkept : Nat) (ksnaps : Nat) (kaside : Nat) (kname : Nat) (kreadName : Nat) (kkeptName : Nat) (kisKept : Nat) (konces : Nat) (kpoured : Nat) (kfar : Nat) (ksides : Nat) (klines : Nat) (kmet : Nat) (ksunk : Nat) (ktrying : Nat) (ktext : Nat) (kline : Nat) (kwritten : Nat) (knode : Nat) (knowF : Nat → Int32) (ksnapsF : Nat → Int32) (kpouredF : Nat → Int32) (yn : Nat) (k4 : Nat) (r6 : Int32) (hN : NowOk knowF) (hok : ((nI 0).toInt = 0 ∨ (nI 0).toInt = 1) ∧ ((nI 0).toInt = 0 ∨ (nI 0).toInt = 1) ∧ 0 ≤ (nI yn).toInt ∧ (nI yn).toInt < 4) (h1 : yn < 4) (h5 : k4 < 24) (p7 : (r6 = nI 1 ∧ (nI 0).toInt ≤ (nI 0).toInt ∧ (nI 0).toInt ≤ (nI 1).toInt) ∨ (r6 = nI 0 ∧ ¬ ((nI 0).toInt ≤ (nI 0).toInt ∧ (nI 0).toInt ≤ (nI 1).toInt))) (c8 : r6 = 0) : ((-1 : Int32) = (-1 : Int32) ∧ ¬ (((nI 0).toInt = 0 ∨ (nI 0).toInt = 1) ∧ ((nI 0).toInt = 0 ∨ (nI 0).toInt = 1) ∧ 0 ≤ (nI yn).toInt ∧ (nI yn).toInt < 4)) ∨ ((-1 : Int32) = nI 0 ∧ (((nI 0).toInt = 0 ∨ (nI 0).toInt = 1) ∧ ((nI 0).toInt = 0 ∨ (nI 0).toInt = 1) ∧ 0 ≤ (nI yn).toInt ∧ (nI yn).toInt < 4)) := by
  have k_0 := ia_n 0 (by decide)
  have k_1 := ia_n yn (by omega)
  have k_2 := ia_n 1 (by decide)
  try simp only [ia_lt, ia_le, ia_eq, ia_m1, ia_0, ia_1, ne_eq, true_and, and_true, false_and, and_false, or_false, false_or, or_true, true_or, not_true_eq_false, not_false_eq_true] at *
  all_goals omega
set_option maxRecDepth 20000 in
theorem lf_m_stir_5 (o : Nat) (ktape : Nat) (know : Nat) (kread : Nat) (kkept : Nat) (ksnaps : Nat) (kaside : Nat) (kname : Nat) (kreadName : Nat) (kkeptName : Nat) (kisKept : Nat) (konces : Nat) (kpoured : Nat) (kfar : Nat) (ksides : Nat) (klines : Nat) (kmet : Nat) (ksunk : Nat) (ktrying : Nat) (ktext : Nat) (kline : Nat) (kwritten : Nat) (knode : Nat) (knowF : Nat → Int32) (ksnapsF : Nat → Int32) (kpouredF : Nat → Int32) (yn : Nat) (k4 : Nat) (r6 : Int32) (r11 : Int32) (hN : NowOk knowF) (hok : ((nI 0).toInt = 0 ∨ (nI 0).toInt = 1) ∧ ((nI 0).toInt = 0 ∨ (nI 0).toInt = 1) ∧ 0 ≤ (nI yn).toInt ∧ (nI yn).toInt < 4) (h1 : yn < 4) (h5 : k4 < 24) (p7 : (r6 = nI 1 ∧ (nI 0).toInt ≤ (nI 0).toInt ∧ (nI 0).toInt ≤ (nI 1).toInt) ∨ (r6 = nI 0 ∧ ¬ ((nI 0).toInt ≤ (nI 0).toInt ∧ (nI 0).toInt ≤ (nI 1).toInt))) (c8 : ¬ r6 = 0) (p12 : (r11 = nI 1 ∧ (nI 0).toInt ≤ (nI 0).toInt ∧ (nI 0).toInt ≤ (nI 1).toInt) ∨ (r11 = nI 0 ∧ ¬ ((nI 0).toInt ≤ (nI 0).toInt ∧ (nI 0).toInt ≤ (nI 1).toInt))) (c13 : r11 = 0) : ((-1 : Int32) = (-1 : Int32) ∧ ¬ (((nI 0).toInt = 0 ∨ (nI 0).toInt = 1) ∧ ((nI 0).toInt = 0 ∨ (nI 0).toInt = 1) ∧ 0 ≤ (nI yn).toInt ∧ (nI yn).toInt < 4)) ∨ ((-1 : Int32) = nI 0 ∧ (((nI 0).toInt = 0 ∨ (nI 0).toInt = 1) ∧ ((nI 0).toInt = 0 ∨ (nI 0).toInt = 1) ∧ 0 ≤ (nI yn).toInt ∧ (nI yn).toInt < 4)) := by
  have k_0 := ia_n 0 (by decide)
  have k_1 := ia_n yn (by omega)
  have k_2 := ia_n 1 (by decide)
  try simp only [ia_lt, ia_le, ia_eq, ia_m1, ia_0, ia_1, ne_eq, true_and, and_true, false_and, and_false, or_false, false_or, or_true, true_or, not_true_eq_false, not_false_eq_true] at *
  all_goals omega
set_option maxRecDepth 20000 in
theorem lf_m_stir_6 (o : Nat) (ktape : Nat) (know : Nat) (kread : Nat) (kkept : Nat) (ksnaps : Nat) (kaside : Nat) (kname : Nat) (kreadName : Nat) (kkeptName : Nat) (kisKept : Nat) (konces : Nat) (kpoured : Nat) (kfar : Nat) (ksides : Nat) (klines : Nat) (kmet : Nat) (ksunk : Nat) (ktrying : Nat) (ktext : Nat) (kline : Nat) (kwritten : Nat) (knode : Nat) (knowF : Nat → Int32) (ksnapsF : Nat → Int32) (kpouredF : Nat → Int32) (yn : Nat) (k4 : Nat) (r6 : Int32) (r11 : Int32) (r17 : Int32) (hN : NowOk knowF) (hok : ((nI 0).toInt = 0 ∨ (nI 0).toInt = 1) ∧ ((nI 0).toInt = 0 ∨ (nI 0).toInt = 1) ∧ 0 ≤ (nI yn).toInt ∧ (nI yn).toInt < 4) (h1 : yn < 4) (h5 : k4 < 24) (p7 : (r6 = nI 1 ∧ (nI 0).toInt ≤ (nI 0).toInt ∧ (nI 0).toInt ≤ (nI 1).toInt) ∨ (r6 = nI 0 ∧ ¬ ((nI 0).toInt ≤ (nI 0).toInt ∧ (nI 0).toInt ≤ (nI 1).toInt))) (c8 : ¬ r6 = 0) (p12 : (r11 = nI 1 ∧ (nI 0).toInt ≤ (nI 0).toInt ∧ (nI 0).toInt ≤ (nI 1).toInt) ∨ (r11 = nI 0 ∧ ¬ ((nI 0).toInt ≤ (nI 0).toInt ∧ (nI 0).toInt ≤ (nI 1).toInt))) (c13 : ¬ r11 = 0) (p18 : (r17 = nI 1 ∧ (nI 0).toInt ≤ (nI yn).toInt ∧ (nI yn).toInt ≤ (nI 3).toInt) ∨ (r17 = nI 0 ∧ ¬ ((nI 0).toInt ≤ (nI yn).toInt ∧ (nI yn).toInt ≤ (nI 3).toInt))) (c19 : r17 = 0) : ((-1 : Int32) = (-1 : Int32) ∧ ¬ (((nI 0).toInt = 0 ∨ (nI 0).toInt = 1) ∧ ((nI 0).toInt = 0 ∨ (nI 0).toInt = 1) ∧ 0 ≤ (nI yn).toInt ∧ (nI yn).toInt < 4)) ∨ ((-1 : Int32) = nI 0 ∧ (((nI 0).toInt = 0 ∨ (nI 0).toInt = 1) ∧ ((nI 0).toInt = 0 ∨ (nI 0).toInt = 1) ∧ 0 ≤ (nI yn).toInt ∧ (nI yn).toInt < 4)) := by
  have k_0 := ia_n 0 (by decide)
  have k_1 := ia_n yn (by omega)
  have k_2 := ia_n 1 (by decide)
  have k_3 := ia_n 3 (by decide)
  try simp only [ia_lt, ia_le, ia_eq, ia_m1, ia_0, ia_1, ne_eq, true_and, and_true, false_and, and_false, or_false, false_or, or_true, true_or, not_true_eq_false, not_false_eq_true] at *
  all_goals omega
set_option maxRecDepth 20000 in
theorem lf_m_stir_7 (o : Nat) (ktape : Nat) (know : Nat) (kread : Nat) (kkept : Nat) (ksnaps : Nat) (kaside : Nat) (kname : Nat) (kreadName : Nat) (kkeptName : Nat) (kisKept : Nat) (konces : Nat) (kpoured : Nat) (kfar : Nat) (ksides : Nat) (klines : Nat) (kmet : Nat) (ksunk : Nat) (ktrying : Nat) (ktext : Nat) (kline : Nat) (kwritten : Nat) (knode : Nat) (knowF : Nat → Int32) (ksnapsF : Nat → Int32) (kpouredF : Nat → Int32) (yn : Nat) (k4 : Nat) (r6 : Int32) (r11 : Int32) (r17 : Int32) (hN : NowOk knowF) (hok : ((nI 0).toInt = 0 ∨ (nI 0).toInt = 1) ∧ ((nI 0).toInt = 0 ∨ (nI 0).toInt = 1) ∧ 0 ≤ (nI yn).toInt ∧ (nI yn).toInt < 4) (h1 : yn < 4) (h5 : k4 < 24) (p7 : (r6 = nI 1 ∧ (nI 0).toInt ≤ (nI 0).toInt ∧ (nI 0).toInt ≤ (nI 1).toInt) ∨ (r6 = nI 0 ∧ ¬ ((nI 0).toInt ≤ (nI 0).toInt ∧ (nI 0).toInt ≤ (nI 1).toInt))) (c8 : ¬ r6 = 0) (p12 : (r11 = nI 1 ∧ (nI 0).toInt ≤ (nI 0).toInt ∧ (nI 0).toInt ≤ (nI 1).toInt) ∨ (r11 = nI 0 ∧ ¬ ((nI 0).toInt ≤ (nI 0).toInt ∧ (nI 0).toInt ≤ (nI 1).toInt))) (c13 : ¬ r11 = 0) (p18 : (r17 = nI 1 ∧ (nI 0).toInt ≤ (nI yn).toInt ∧ (nI yn).toInt ≤ (nI 3).toInt) ∨ (r17 = nI 0 ∧ ¬ ((nI 0).toInt ≤ (nI yn).toInt ∧ (nI yn).toInt ≤ (nI 3).toInt))) (c19 : ¬ r17 = 0) : ((nI 0) = (-1 : Int32) ∧ ¬ (((nI 0).toInt = 0 ∨ (nI 0).toInt = 1) ∧ ((nI 0).toInt = 0 ∨ (nI 0).toInt = 1) ∧ 0 ≤ (nI yn).toInt ∧ (nI yn).toInt < 4)) ∨ ((nI 0) = nI 0 ∧ (((nI 0).toInt = 0 ∨ (nI 0).toInt = 1) ∧ ((nI 0).toInt = 0 ∨ (nI 0).toInt = 1) ∧ 0 ≤ (nI yn).toInt ∧ (nI yn).toInt < 4)) := by
  have k_0 := ia_n 0 (by decide)
  have k_1 := ia_n yn (by omega)
  have k_2 := ia_n 1 (by decide)
  have k_3 := ia_n 3 (by decide)
  try simp only [ia_lt, ia_le, ia_eq, ia_m1, ia_0, ia_1, ne_eq, true_and, and_true, false_and, and_false, or_false, false_or, or_true, true_or, not_true_eq_false, not_false_eq_true] at *
  all_goals omega
set_option maxRecDepth 20000 in
theorem lf_m_stir_8 (o : Nat) (ktape : Nat) (know : Nat) (kread : Nat) (kkept : Nat) (ksnaps : Nat) (kaside : Nat) (kname : Nat) (kreadName : Nat) (kkeptName : Nat) (kisKept : Nat) (konces : Nat) (kpoured : Nat) (kfar : Nat) (ksides : Nat) (klines : Nat) (kmet : Nat) (ksunk : Nat) (ktrying : Nat) (ktext : Nat) (kline : Nat) (kwritten : Nat) (knode : Nat) (knowF : Nat → Int32) (ksnapsF : Nat → Int32) (kpouredF : Nat → Int32) (yn : Nat) (k28 : Nat) (r30 : Int32) (hN : NowOk knowF) (hok : ((nI 0).toInt = 0 ∨ (nI 0).toInt = 1) ∧ ((nI 1).toInt = 0 ∨ (nI 1).toInt = 1) ∧ 0 ≤ (nI yn).toInt ∧ (nI yn).toInt < 4) (h1 : yn < 4) (h29 : k28 < 24) (p31 : (r30 = nI 1 ∧ (nI 0).toInt ≤ (nI 0).toInt ∧ (nI 0).toInt ≤ (nI 1).toInt) ∨ (r30 = nI 0 ∧ ¬ ((nI 0).toInt ≤ (nI 0).toInt ∧ (nI 0).toInt ≤ (nI 1).toInt))) (c32 : r30 = 0) : ((-1 : Int32) = (-1 : Int32) ∧ ¬ (((nI 0).toInt = 0 ∨ (nI 0).toInt = 1) ∧ ((nI 1).toInt = 0 ∨ (nI 1).toInt = 1) ∧ 0 ≤ (nI yn).toInt ∧ (nI yn).toInt < 4)) ∨ ((-1 : Int32) = nI 0 ∧ (((nI 0).toInt = 0 ∨ (nI 0).toInt = 1) ∧ ((nI 1).toInt = 0 ∨ (nI 1).toInt = 1) ∧ 0 ≤ (nI yn).toInt ∧ (nI yn).toInt < 4)) := by
  have k_0 := ia_n 0 (by decide)
  have k_1 := ia_n 1 (by decide)
  have k_2 := ia_n yn (by omega)
  try simp only [ia_lt, ia_le, ia_eq, ia_m1, ia_0, ia_1, ne_eq, true_and, and_true, false_and, and_false, or_false, false_or, or_true, true_or, not_true_eq_false, not_false_eq_true] at *
  all_goals omega
set_option maxRecDepth 20000 in
theorem lf_m_stir_9 (o : Nat) (ktape : Nat) (know : Nat) (kread : Nat) (kkept : Nat) (ksnaps : Nat) (kaside : Nat) (kname : Nat) (kreadName : Nat) (kkeptName : Nat) (kisKept : Nat) (konces : Nat) (kpoured : Nat) (kfar : Nat) (ksides : Nat) (klines : Nat) (kmet : Nat) (ksunk : Nat) (ktrying : Nat) (ktext : Nat) (kline : Nat) (kwritten : Nat) (knode : Nat) (knowF : Nat → Int32) (ksnapsF : Nat → Int32) (kpouredF : Nat → Int32) (yn : Nat) (k28 : Nat) (r30 : Int32) (r35 : Int32) (hN : NowOk knowF) (hok : ((nI 0).toInt = 0 ∨ (nI 0).toInt = 1) ∧ ((nI 1).toInt = 0 ∨ (nI 1).toInt = 1) ∧ 0 ≤ (nI yn).toInt ∧ (nI yn).toInt < 4) (h1 : yn < 4) (h29 : k28 < 24) (p31 : (r30 = nI 1 ∧ (nI 0).toInt ≤ (nI 0).toInt ∧ (nI 0).toInt ≤ (nI 1).toInt) ∨ (r30 = nI 0 ∧ ¬ ((nI 0).toInt ≤ (nI 0).toInt ∧ (nI 0).toInt ≤ (nI 1).toInt))) (c32 : ¬ r30 = 0) (p36 : (r35 = nI 1 ∧ (nI 0).toInt ≤ (nI 1).toInt ∧ (nI 1).toInt ≤ (nI 1).toInt) ∨ (r35 = nI 0 ∧ ¬ ((nI 0).toInt ≤ (nI 1).toInt ∧ (nI 1).toInt ≤ (nI 1).toInt))) (c37 : r35 = 0) : ((-1 : Int32) = (-1 : Int32) ∧ ¬ (((nI 0).toInt = 0 ∨ (nI 0).toInt = 1) ∧ ((nI 1).toInt = 0 ∨ (nI 1).toInt = 1) ∧ 0 ≤ (nI yn).toInt ∧ (nI yn).toInt < 4)) ∨ ((-1 : Int32) = nI 0 ∧ (((nI 0).toInt = 0 ∨ (nI 0).toInt = 1) ∧ ((nI 1).toInt = 0 ∨ (nI 1).toInt = 1) ∧ 0 ≤ (nI yn).toInt ∧ (nI yn).toInt < 4)) := by
  have k_0 := ia_n 0 (by decide)
  have k_1 := ia_n 1 (by decide)
  have k_2 := ia_n yn (by omega)
  try simp only [ia_lt, ia_le, ia_eq, ia_m1, ia_0, ia_1, ne_eq, true_and, and_true, false_and, and_false, or_false, false_or, or_true, true_or, not_true_eq_false, not_false_eq_true] at *
  all_goals omega
set_option maxRecDepth 20000 in
theorem lf_m_stir_10 (o : Nat) (ktape : Nat) (know : Nat) (kread : Nat) (kkept : Nat) (ksnaps : Nat) (kaside : Nat) (kname : Nat) (kreadName : Nat) (kkeptName : Nat) (kisKept : Nat) (konces : Nat) (kpoured : Nat) (kfar : Nat) (ksides : Nat) (klines : Nat) (kmet : Nat) (ksunk : Nat) (ktrying : Nat) (ktext : Nat) (kline : Nat) (kwritten : Nat) (knode : Nat) (knowF : Nat → Int32) (ksnapsF : Nat → Int32) (kpouredF : Nat → Int32) (yn : Nat) (k28 : Nat) (r30 : Int32) (r35 : Int32) (r41 : Int32) (hN : NowOk knowF) (hok : ((nI 0).toInt = 0 ∨ (nI 0).toInt = 1) ∧ ((nI 1).toInt = 0 ∨ (nI 1).toInt = 1) ∧ 0 ≤ (nI yn).toInt ∧ (nI yn).toInt < 4) (h1 : yn < 4) (h29 : k28 < 24) (p31 : (r30 = nI 1 ∧ (nI 0).toInt ≤ (nI 0).toInt ∧ (nI 0).toInt ≤ (nI 1).toInt) ∨ (r30 = nI 0 ∧ ¬ ((nI 0).toInt ≤ (nI 0).toInt ∧ (nI 0).toInt ≤ (nI 1).toInt))) (c32 : ¬ r30 = 0) (p36 : (r35 = nI 1 ∧ (nI 0).toInt ≤ (nI 1).toInt ∧ (nI 1).toInt ≤ (nI 1).toInt) ∨ (r35 = nI 0 ∧ ¬ ((nI 0).toInt ≤ (nI 1).toInt ∧ (nI 1).toInt ≤ (nI 1).toInt))) (c37 : ¬ r35 = 0) (p42 : (r41 = nI 1 ∧ (nI 0).toInt ≤ (nI yn).toInt ∧ (nI yn).toInt ≤ (nI 3).toInt) ∨ (r41 = nI 0 ∧ ¬ ((nI 0).toInt ≤ (nI yn).toInt ∧ (nI yn).toInt ≤ (nI 3).toInt))) (c43 : r41 = 0) : ((-1 : Int32) = (-1 : Int32) ∧ ¬ (((nI 0).toInt = 0 ∨ (nI 0).toInt = 1) ∧ ((nI 1).toInt = 0 ∨ (nI 1).toInt = 1) ∧ 0 ≤ (nI yn).toInt ∧ (nI yn).toInt < 4)) ∨ ((-1 : Int32) = nI 0 ∧ (((nI 0).toInt = 0 ∨ (nI 0).toInt = 1) ∧ ((nI 1).toInt = 0 ∨ (nI 1).toInt = 1) ∧ 0 ≤ (nI yn).toInt ∧ (nI yn).toInt < 4)) := by
  have k_0 := ia_n 0 (by decide)
  have k_1 := ia_n 1 (by decide)
  have k_2 := ia_n yn (by omega)
  have k_3 := ia_n 3 (by decide)
  try simp only [ia_lt, ia_le, ia_eq, ia_m1, ia_0, ia_1, ne_eq, true_and, and_true, false_and, and_false, or_false, false_or, or_true, true_or, not_true_eq_false, not_false_eq_true] at *
  all_goals omega
set_option maxRecDepth 20000 in
theorem lf_m_stir_11 (o : Nat) (ktape : Nat) (know : Nat) (kread : Nat) (kkept : Nat) (ksnaps : Nat) (kaside : Nat) (kname : Nat) (kreadName : Nat) (kkeptName : Nat) (kisKept : Nat) (konces : Nat) (kpoured : Nat) (kfar : Nat) (ksides : Nat) (klines : Nat) (kmet : Nat) (ksunk : Nat) (ktrying : Nat) (ktext : Nat) (kline : Nat) (kwritten : Nat) (knode : Nat) (knowF : Nat → Int32) (ksnapsF : Nat → Int32) (kpouredF : Nat → Int32) (yn : Nat) (k28 : Nat) (r30 : Int32) (r35 : Int32) (r41 : Int32) (hN : NowOk knowF) (hok : ((nI 0).toInt = 0 ∨ (nI 0).toInt = 1) ∧ ((nI 1).toInt = 0 ∨ (nI 1).toInt = 1) ∧ 0 ≤ (nI yn).toInt ∧ (nI yn).toInt < 4) (h1 : yn < 4) (h29 : k28 < 24) (p31 : (r30 = nI 1 ∧ (nI 0).toInt ≤ (nI 0).toInt ∧ (nI 0).toInt ≤ (nI 1).toInt) ∨ (r30 = nI 0 ∧ ¬ ((nI 0).toInt ≤ (nI 0).toInt ∧ (nI 0).toInt ≤ (nI 1).toInt))) (c32 : ¬ r30 = 0) (p36 : (r35 = nI 1 ∧ (nI 0).toInt ≤ (nI 1).toInt ∧ (nI 1).toInt ≤ (nI 1).toInt) ∨ (r35 = nI 0 ∧ ¬ ((nI 0).toInt ≤ (nI 1).toInt ∧ (nI 1).toInt ≤ (nI 1).toInt))) (c37 : ¬ r35 = 0) (p42 : (r41 = nI 1 ∧ (nI 0).toInt ≤ (nI yn).toInt ∧ (nI yn).toInt ≤ (nI 3).toInt) ∨ (r41 = nI 0 ∧ ¬ ((nI 0).toInt ≤ (nI yn).toInt ∧ (nI yn).toInt ≤ (nI 3).toInt))) (c43 : ¬ r41 = 0) : ((nI 0) = (-1 : Int32) ∧ ¬ (((nI 0).toInt = 0 ∨ (nI 0).toInt = 1) ∧ ((nI 1).toInt = 0 ∨ (nI 1).toInt = 1) ∧ 0 ≤ (nI yn).toInt ∧ (nI yn).toInt < 4)) ∨ ((nI 0) = nI 0 ∧ (((nI 0).toInt = 0 ∨ (nI 0).toInt = 1) ∧ ((nI 1).toInt = 0 ∨ (nI 1).toInt = 1) ∧ 0 ≤ (nI yn).toInt ∧ (nI yn).toInt < 4)) := by
  have k_0 := ia_n 0 (by decide)
  have k_1 := ia_n 1 (by decide)
  have k_2 := ia_n yn (by omega)
  have k_3 := ia_n 3 (by decide)
  try simp only [ia_lt, ia_le, ia_eq, ia_m1, ia_0, ia_1, ne_eq, true_and, and_true, false_and, and_false, or_false, false_or, or_true, true_or, not_true_eq_false, not_false_eq_true] at *
  all_goals omega
set_option maxRecDepth 20000 in
theorem lf_m_stir_12 (o : Nat) (ktape : Nat) (know : Nat) (kread : Nat) (kkept : Nat) (ksnaps : Nat) (kaside : Nat) (kname : Nat) (kreadName : Nat) (kkeptName : Nat) (kisKept : Nat) (konces : Nat) (kpoured : Nat) (kfar : Nat) (ksides : Nat) (klines : Nat) (kmet : Nat) (ksunk : Nat) (ktrying : Nat) (ktext : Nat) (kline : Nat) (kwritten : Nat) (knode : Nat) (knowF : Nat → Int32) (ksnapsF : Nat → Int32) (kpouredF : Nat → Int32) (n : Int32) (yn : Nat) (hN : NowOk knowF) (hok : ((nI 1).toInt = 0 ∨ (nI 1).toInt = 1) ∧ (n.toInt = 0 ∨ n.toInt = 1) ∧ 0 ≤ (nI yn).toInt ∧ (nI yn).toInt < 4) (h1 : yn < 4) : n = nI 0 ∨ n = nI 1 := by
  have k_0 := ia_n 1 (by decide)
  have k_1 := ia_n yn (by omega)
  have k_2 := ia_n 0 (by decide)
  try simp only [ia_lt, ia_le, ia_eq, ia_m1, ia_0, ia_1, ne_eq, true_and, and_true, false_and, and_false, or_false, false_or, or_true, true_or, not_true_eq_false, not_false_eq_true] at *
  all_goals omega
set_option maxRecDepth 20000 in
theorem lf_m_stir_13 (o : Nat) (ktape : Nat) (know : Nat) (kread : Nat) (kkept : Nat) (ksnaps : Nat) (kaside : Nat) (kname : Nat) (kreadName : Nat) (kkeptName : Nat) (kisKept : Nat) (konces : Nat) (kpoured : Nat) (kfar : Nat) (ksides : Nat) (klines : Nat) (kmet : Nat) (ksunk : Nat) (ktrying : Nat) (ktext : Nat) (kline : Nat) (kwritten : Nat) (knode : Nat) (knowF : Nat → Int32) (ksnapsF : Nat → Int32) (kpouredF : Nat → Int32) (yn : Nat) (k52 : Nat) (r54 : Int32) (hN : NowOk knowF) (hok : ((nI 1).toInt = 0 ∨ (nI 1).toInt = 1) ∧ ((nI 0).toInt = 0 ∨ (nI 0).toInt = 1) ∧ 0 ≤ (nI yn).toInt ∧ (nI yn).toInt < 4) (h1 : yn < 4) (h53 : k52 < 24) (p55 : (r54 = nI 1 ∧ (nI 0).toInt ≤ (nI 1).toInt ∧ (nI 1).toInt ≤ (nI 1).toInt) ∨ (r54 = nI 0 ∧ ¬ ((nI 0).toInt ≤ (nI 1).toInt ∧ (nI 1).toInt ≤ (nI 1).toInt))) (c56 : r54 = 0) : ((-1 : Int32) = (-1 : Int32) ∧ ¬ (((nI 1).toInt = 0 ∨ (nI 1).toInt = 1) ∧ ((nI 0).toInt = 0 ∨ (nI 0).toInt = 1) ∧ 0 ≤ (nI yn).toInt ∧ (nI yn).toInt < 4)) ∨ ((-1 : Int32) = nI 0 ∧ (((nI 1).toInt = 0 ∨ (nI 1).toInt = 1) ∧ ((nI 0).toInt = 0 ∨ (nI 0).toInt = 1) ∧ 0 ≤ (nI yn).toInt ∧ (nI yn).toInt < 4)) := by
  have k_0 := ia_n 1 (by decide)
  have k_1 := ia_n 0 (by decide)
  have k_2 := ia_n yn (by omega)
  try simp only [ia_lt, ia_le, ia_eq, ia_m1, ia_0, ia_1, ne_eq, true_and, and_true, false_and, and_false, or_false, false_or, or_true, true_or, not_true_eq_false, not_false_eq_true] at *
  all_goals omega
set_option maxRecDepth 20000 in
theorem lf_m_stir_14 (o : Nat) (ktape : Nat) (know : Nat) (kread : Nat) (kkept : Nat) (ksnaps : Nat) (kaside : Nat) (kname : Nat) (kreadName : Nat) (kkeptName : Nat) (kisKept : Nat) (konces : Nat) (kpoured : Nat) (kfar : Nat) (ksides : Nat) (klines : Nat) (kmet : Nat) (ksunk : Nat) (ktrying : Nat) (ktext : Nat) (kline : Nat) (kwritten : Nat) (knode : Nat) (knowF : Nat → Int32) (ksnapsF : Nat → Int32) (kpouredF : Nat → Int32) (yn : Nat) (k52 : Nat) (r54 : Int32) (r59 : Int32) (hN : NowOk knowF) (hok : ((nI 1).toInt = 0 ∨ (nI 1).toInt = 1) ∧ ((nI 0).toInt = 0 ∨ (nI 0).toInt = 1) ∧ 0 ≤ (nI yn).toInt ∧ (nI yn).toInt < 4) (h1 : yn < 4) (h53 : k52 < 24) (p55 : (r54 = nI 1 ∧ (nI 0).toInt ≤ (nI 1).toInt ∧ (nI 1).toInt ≤ (nI 1).toInt) ∨ (r54 = nI 0 ∧ ¬ ((nI 0).toInt ≤ (nI 1).toInt ∧ (nI 1).toInt ≤ (nI 1).toInt))) (c56 : ¬ r54 = 0) (p60 : (r59 = nI 1 ∧ (nI 0).toInt ≤ (nI 0).toInt ∧ (nI 0).toInt ≤ (nI 1).toInt) ∨ (r59 = nI 0 ∧ ¬ ((nI 0).toInt ≤ (nI 0).toInt ∧ (nI 0).toInt ≤ (nI 1).toInt))) (c61 : r59 = 0) : ((-1 : Int32) = (-1 : Int32) ∧ ¬ (((nI 1).toInt = 0 ∨ (nI 1).toInt = 1) ∧ ((nI 0).toInt = 0 ∨ (nI 0).toInt = 1) ∧ 0 ≤ (nI yn).toInt ∧ (nI yn).toInt < 4)) ∨ ((-1 : Int32) = nI 0 ∧ (((nI 1).toInt = 0 ∨ (nI 1).toInt = 1) ∧ ((nI 0).toInt = 0 ∨ (nI 0).toInt = 1) ∧ 0 ≤ (nI yn).toInt ∧ (nI yn).toInt < 4)) := by
  have k_0 := ia_n 1 (by decide)
  have k_1 := ia_n 0 (by decide)
  have k_2 := ia_n yn (by omega)
  try simp only [ia_lt, ia_le, ia_eq, ia_m1, ia_0, ia_1, ne_eq, true_and, and_true, false_and, and_false, or_false, false_or, or_true, true_or, not_true_eq_false, not_false_eq_true] at *
  all_goals omega
set_option maxRecDepth 20000 in
theorem lf_m_stir_15 (o : Nat) (ktape : Nat) (know : Nat) (kread : Nat) (kkept : Nat) (ksnaps : Nat) (kaside : Nat) (kname : Nat) (kreadName : Nat) (kkeptName : Nat) (kisKept : Nat) (konces : Nat) (kpoured : Nat) (kfar : Nat) (ksides : Nat) (klines : Nat) (kmet : Nat) (ksunk : Nat) (ktrying : Nat) (ktext : Nat) (kline : Nat) (kwritten : Nat) (knode : Nat) (knowF : Nat → Int32) (ksnapsF : Nat → Int32) (kpouredF : Nat → Int32) (yn : Nat) (k52 : Nat) (r54 : Int32) (r59 : Int32) (r65 : Int32) (hN : NowOk knowF) (hok : ((nI 1).toInt = 0 ∨ (nI 1).toInt = 1) ∧ ((nI 0).toInt = 0 ∨ (nI 0).toInt = 1) ∧ 0 ≤ (nI yn).toInt ∧ (nI yn).toInt < 4) (h1 : yn < 4) (h53 : k52 < 24) (p55 : (r54 = nI 1 ∧ (nI 0).toInt ≤ (nI 1).toInt ∧ (nI 1).toInt ≤ (nI 1).toInt) ∨ (r54 = nI 0 ∧ ¬ ((nI 0).toInt ≤ (nI 1).toInt ∧ (nI 1).toInt ≤ (nI 1).toInt))) (c56 : ¬ r54 = 0) (p60 : (r59 = nI 1 ∧ (nI 0).toInt ≤ (nI 0).toInt ∧ (nI 0).toInt ≤ (nI 1).toInt) ∨ (r59 = nI 0 ∧ ¬ ((nI 0).toInt ≤ (nI 0).toInt ∧ (nI 0).toInt ≤ (nI 1).toInt))) (c61 : ¬ r59 = 0) (p66 : (r65 = nI 1 ∧ (nI 0).toInt ≤ (nI yn).toInt ∧ (nI yn).toInt ≤ (nI 3).toInt) ∨ (r65 = nI 0 ∧ ¬ ((nI 0).toInt ≤ (nI yn).toInt ∧ (nI yn).toInt ≤ (nI 3).toInt))) (c67 : r65 = 0) : ((-1 : Int32) = (-1 : Int32) ∧ ¬ (((nI 1).toInt = 0 ∨ (nI 1).toInt = 1) ∧ ((nI 0).toInt = 0 ∨ (nI 0).toInt = 1) ∧ 0 ≤ (nI yn).toInt ∧ (nI yn).toInt < 4)) ∨ ((-1 : Int32) = nI 0 ∧ (((nI 1).toInt = 0 ∨ (nI 1).toInt = 1) ∧ ((nI 0).toInt = 0 ∨ (nI 0).toInt = 1) ∧ 0 ≤ (nI yn).toInt ∧ (nI yn).toInt < 4)) := by
  have k_0 := ia_n 1 (by decide)
  have k_1 := ia_n 0 (by decide)
  have k_2 := ia_n yn (by omega)
  have k_3 := ia_n 3 (by decide)
  try simp only [ia_lt, ia_le, ia_eq, ia_m1, ia_0, ia_1, ne_eq, true_and, and_true, false_and, and_false, or_false, false_or, or_true, true_or, not_true_eq_false, not_false_eq_true] at *
  all_goals omega
set_option maxRecDepth 20000 in
theorem lf_m_stir_16 (o : Nat) (ktape : Nat) (know : Nat) (kread : Nat) (kkept : Nat) (ksnaps : Nat) (kaside : Nat) (kname : Nat) (kreadName : Nat) (kkeptName : Nat) (kisKept : Nat) (konces : Nat) (kpoured : Nat) (kfar : Nat) (ksides : Nat) (klines : Nat) (kmet : Nat) (ksunk : Nat) (ktrying : Nat) (ktext : Nat) (kline : Nat) (kwritten : Nat) (knode : Nat) (knowF : Nat → Int32) (ksnapsF : Nat → Int32) (kpouredF : Nat → Int32) (yn : Nat) (k52 : Nat) (r54 : Int32) (r59 : Int32) (r65 : Int32) (hN : NowOk knowF) (hok : ((nI 1).toInt = 0 ∨ (nI 1).toInt = 1) ∧ ((nI 0).toInt = 0 ∨ (nI 0).toInt = 1) ∧ 0 ≤ (nI yn).toInt ∧ (nI yn).toInt < 4) (h1 : yn < 4) (h53 : k52 < 24) (p55 : (r54 = nI 1 ∧ (nI 0).toInt ≤ (nI 1).toInt ∧ (nI 1).toInt ≤ (nI 1).toInt) ∨ (r54 = nI 0 ∧ ¬ ((nI 0).toInt ≤ (nI 1).toInt ∧ (nI 1).toInt ≤ (nI 1).toInt))) (c56 : ¬ r54 = 0) (p60 : (r59 = nI 1 ∧ (nI 0).toInt ≤ (nI 0).toInt ∧ (nI 0).toInt ≤ (nI 1).toInt) ∨ (r59 = nI 0 ∧ ¬ ((nI 0).toInt ≤ (nI 0).toInt ∧ (nI 0).toInt ≤ (nI 1).toInt))) (c61 : ¬ r59 = 0) (p66 : (r65 = nI 1 ∧ (nI 0).toInt ≤ (nI yn).toInt ∧ (nI yn).toInt ≤ (nI 3).toInt) ∨ (r65 = nI 0 ∧ ¬ ((nI 0).toInt ≤ (nI yn).toInt ∧ (nI yn).toInt ≤ (nI 3).toInt))) (c67 : ¬ r65 = 0) : ((nI 0) = (-1 : Int32) ∧ ¬ (((nI 1).toInt = 0 ∨ (nI 1).toInt = 1) ∧ ((nI 0).toInt = 0 ∨ (nI 0).toInt = 1) ∧ 0 ≤ (nI yn).toInt ∧ (nI yn).toInt < 4)) ∨ ((nI 0) = nI 0 ∧ (((nI 1).toInt = 0 ∨ (nI 1).toInt = 1) ∧ ((nI 0).toInt = 0 ∨ (nI 0).toInt = 1) ∧ 0 ≤ (nI yn).toInt ∧ (nI yn).toInt < 4)) := by
  have k_0 := ia_n 1 (by decide)
  have k_1 := ia_n 0 (by decide)
  have k_2 := ia_n yn (by omega)
  have k_3 := ia_n 3 (by decide)
  try simp only [ia_lt, ia_le, ia_eq, ia_m1, ia_0, ia_1, ne_eq, true_and, and_true, false_and, and_false, or_false, false_or, or_true, true_or, not_true_eq_false, not_false_eq_true] at *
  all_goals omega
set_option maxRecDepth 20000 in
theorem lf_m_stir_17 (o : Nat) (ktape : Nat) (know : Nat) (kread : Nat) (kkept : Nat) (ksnaps : Nat) (kaside : Nat) (kname : Nat) (kreadName : Nat) (kkeptName : Nat) (kisKept : Nat) (konces : Nat) (kpoured : Nat) (kfar : Nat) (ksides : Nat) (klines : Nat) (kmet : Nat) (ksunk : Nat) (ktrying : Nat) (ktext : Nat) (kline : Nat) (kwritten : Nat) (knode : Nat) (knowF : Nat → Int32) (ksnapsF : Nat → Int32) (kpouredF : Nat → Int32) (yn : Nat) (k76 : Nat) (r78 : Int32) (hN : NowOk knowF) (hok : ((nI 1).toInt = 0 ∨ (nI 1).toInt = 1) ∧ ((nI 1).toInt = 0 ∨ (nI 1).toInt = 1) ∧ 0 ≤ (nI yn).toInt ∧ (nI yn).toInt < 4) (h1 : yn < 4) (h77 : k76 < 24) (p79 : (r78 = nI 1 ∧ (nI 0).toInt ≤ (nI 1).toInt ∧ (nI 1).toInt ≤ (nI 1).toInt) ∨ (r78 = nI 0 ∧ ¬ ((nI 0).toInt ≤ (nI 1).toInt ∧ (nI 1).toInt ≤ (nI 1).toInt))) (c80 : r78 = 0) : ((-1 : Int32) = (-1 : Int32) ∧ ¬ (((nI 1).toInt = 0 ∨ (nI 1).toInt = 1) ∧ ((nI 1).toInt = 0 ∨ (nI 1).toInt = 1) ∧ 0 ≤ (nI yn).toInt ∧ (nI yn).toInt < 4)) ∨ ((-1 : Int32) = nI 0 ∧ (((nI 1).toInt = 0 ∨ (nI 1).toInt = 1) ∧ ((nI 1).toInt = 0 ∨ (nI 1).toInt = 1) ∧ 0 ≤ (nI yn).toInt ∧ (nI yn).toInt < 4)) := by
  have k_0 := ia_n 1 (by decide)
  have k_1 := ia_n yn (by omega)
  have k_2 := ia_n 0 (by decide)
  try simp only [ia_lt, ia_le, ia_eq, ia_m1, ia_0, ia_1, ne_eq, true_and, and_true, false_and, and_false, or_false, false_or, or_true, true_or, not_true_eq_false, not_false_eq_true] at *
  all_goals omega
set_option maxRecDepth 20000 in
theorem lf_m_stir_18 (o : Nat) (ktape : Nat) (know : Nat) (kread : Nat) (kkept : Nat) (ksnaps : Nat) (kaside : Nat) (kname : Nat) (kreadName : Nat) (kkeptName : Nat) (kisKept : Nat) (konces : Nat) (kpoured : Nat) (kfar : Nat) (ksides : Nat) (klines : Nat) (kmet : Nat) (ksunk : Nat) (ktrying : Nat) (ktext : Nat) (kline : Nat) (kwritten : Nat) (knode : Nat) (knowF : Nat → Int32) (ksnapsF : Nat → Int32) (kpouredF : Nat → Int32) (yn : Nat) (k76 : Nat) (r78 : Int32) (r83 : Int32) (hN : NowOk knowF) (hok : ((nI 1).toInt = 0 ∨ (nI 1).toInt = 1) ∧ ((nI 1).toInt = 0 ∨ (nI 1).toInt = 1) ∧ 0 ≤ (nI yn).toInt ∧ (nI yn).toInt < 4) (h1 : yn < 4) (h77 : k76 < 24) (p79 : (r78 = nI 1 ∧ (nI 0).toInt ≤ (nI 1).toInt ∧ (nI 1).toInt ≤ (nI 1).toInt) ∨ (r78 = nI 0 ∧ ¬ ((nI 0).toInt ≤ (nI 1).toInt ∧ (nI 1).toInt ≤ (nI 1).toInt))) (c80 : ¬ r78 = 0) (p84 : (r83 = nI 1 ∧ (nI 0).toInt ≤ (nI 1).toInt ∧ (nI 1).toInt ≤ (nI 1).toInt) ∨ (r83 = nI 0 ∧ ¬ ((nI 0).toInt ≤ (nI 1).toInt ∧ (nI 1).toInt ≤ (nI 1).toInt))) (c85 : r83 = 0) : ((-1 : Int32) = (-1 : Int32) ∧ ¬ (((nI 1).toInt = 0 ∨ (nI 1).toInt = 1) ∧ ((nI 1).toInt = 0 ∨ (nI 1).toInt = 1) ∧ 0 ≤ (nI yn).toInt ∧ (nI yn).toInt < 4)) ∨ ((-1 : Int32) = nI 0 ∧ (((nI 1).toInt = 0 ∨ (nI 1).toInt = 1) ∧ ((nI 1).toInt = 0 ∨ (nI 1).toInt = 1) ∧ 0 ≤ (nI yn).toInt ∧ (nI yn).toInt < 4)) := by
  have k_0 := ia_n 1 (by decide)
  have k_1 := ia_n yn (by omega)
  have k_2 := ia_n 0 (by decide)
  try simp only [ia_lt, ia_le, ia_eq, ia_m1, ia_0, ia_1, ne_eq, true_and, and_true, false_and, and_false, or_false, false_or, or_true, true_or, not_true_eq_false, not_false_eq_true] at *
  all_goals omega
set_option maxRecDepth 20000 in
theorem lf_m_stir_19 (o : Nat) (ktape : Nat) (know : Nat) (kread : Nat) (kkept : Nat) (ksnaps : Nat) (kaside : Nat) (kname : Nat) (kreadName : Nat) (kkeptName : Nat) (kisKept : Nat) (konces : Nat) (kpoured : Nat) (kfar : Nat) (ksides : Nat) (klines : Nat) (kmet : Nat) (ksunk : Nat) (ktrying : Nat) (ktext : Nat) (kline : Nat) (kwritten : Nat) (knode : Nat) (knowF : Nat → Int32) (ksnapsF : Nat → Int32) (kpouredF : Nat → Int32) (yn : Nat) (k76 : Nat) (r78 : Int32) (r83 : Int32) (r89 : Int32) (hN : NowOk knowF) (hok : ((nI 1).toInt = 0 ∨ (nI 1).toInt = 1) ∧ ((nI 1).toInt = 0 ∨ (nI 1).toInt = 1) ∧ 0 ≤ (nI yn).toInt ∧ (nI yn).toInt < 4) (h1 : yn < 4) (h77 : k76 < 24) (p79 : (r78 = nI 1 ∧ (nI 0).toInt ≤ (nI 1).toInt ∧ (nI 1).toInt ≤ (nI 1).toInt) ∨ (r78 = nI 0 ∧ ¬ ((nI 0).toInt ≤ (nI 1).toInt ∧ (nI 1).toInt ≤ (nI 1).toInt))) (c80 : ¬ r78 = 0) (p84 : (r83 = nI 1 ∧ (nI 0).toInt ≤ (nI 1).toInt ∧ (nI 1).toInt ≤ (nI 1).toInt) ∨ (r83 = nI 0 ∧ ¬ ((nI 0).toInt ≤ (nI 1).toInt ∧ (nI 1).toInt ≤ (nI 1).toInt))) (c85 : ¬ r83 = 0) (p90 : (r89 = nI 1 ∧ (nI 0).toInt ≤ (nI yn).toInt ∧ (nI yn).toInt ≤ (nI 3).toInt) ∨ (r89 = nI 0 ∧ ¬ ((nI 0).toInt ≤ (nI yn).toInt ∧ (nI yn).toInt ≤ (nI 3).toInt))) (c91 : r89 = 0) : ((-1 : Int32) = (-1 : Int32) ∧ ¬ (((nI 1).toInt = 0 ∨ (nI 1).toInt = 1) ∧ ((nI 1).toInt = 0 ∨ (nI 1).toInt = 1) ∧ 0 ≤ (nI yn).toInt ∧ (nI yn).toInt < 4)) ∨ ((-1 : Int32) = nI 0 ∧ (((nI 1).toInt = 0 ∨ (nI 1).toInt = 1) ∧ ((nI 1).toInt = 0 ∨ (nI 1).toInt = 1) ∧ 0 ≤ (nI yn).toInt ∧ (nI yn).toInt < 4)) := by
  have k_0 := ia_n 1 (by decide)
  have k_1 := ia_n yn (by omega)
  have k_2 := ia_n 0 (by decide)
  have k_3 := ia_n 3 (by decide)
  try simp only [ia_lt, ia_le, ia_eq, ia_m1, ia_0, ia_1, ne_eq, true_and, and_true, false_and, and_false, or_false, false_or, or_true, true_or, not_true_eq_false, not_false_eq_true] at *
  all_goals omega
set_option maxRecDepth 20000 in
theorem lf_m_stir_20 (o : Nat) (ktape : Nat) (know : Nat) (kread : Nat) (kkept : Nat) (ksnaps : Nat) (kaside : Nat) (kname : Nat) (kreadName : Nat) (kkeptName : Nat) (kisKept : Nat) (konces : Nat) (kpoured : Nat) (kfar : Nat) (ksides : Nat) (klines : Nat) (kmet : Nat) (ksunk : Nat) (ktrying : Nat) (ktext : Nat) (kline : Nat) (kwritten : Nat) (knode : Nat) (knowF : Nat → Int32) (ksnapsF : Nat → Int32) (kpouredF : Nat → Int32) (yn : Nat) (k76 : Nat) (r78 : Int32) (r83 : Int32) (r89 : Int32) (hN : NowOk knowF) (hok : ((nI 1).toInt = 0 ∨ (nI 1).toInt = 1) ∧ ((nI 1).toInt = 0 ∨ (nI 1).toInt = 1) ∧ 0 ≤ (nI yn).toInt ∧ (nI yn).toInt < 4) (h1 : yn < 4) (h77 : k76 < 24) (p79 : (r78 = nI 1 ∧ (nI 0).toInt ≤ (nI 1).toInt ∧ (nI 1).toInt ≤ (nI 1).toInt) ∨ (r78 = nI 0 ∧ ¬ ((nI 0).toInt ≤ (nI 1).toInt ∧ (nI 1).toInt ≤ (nI 1).toInt))) (c80 : ¬ r78 = 0) (p84 : (r83 = nI 1 ∧ (nI 0).toInt ≤ (nI 1).toInt ∧ (nI 1).toInt ≤ (nI 1).toInt) ∨ (r83 = nI 0 ∧ ¬ ((nI 0).toInt ≤ (nI 1).toInt ∧ (nI 1).toInt ≤ (nI 1).toInt))) (c85 : ¬ r83 = 0) (p90 : (r89 = nI 1 ∧ (nI 0).toInt ≤ (nI yn).toInt ∧ (nI yn).toInt ≤ (nI 3).toInt) ∨ (r89 = nI 0 ∧ ¬ ((nI 0).toInt ≤ (nI yn).toInt ∧ (nI yn).toInt ≤ (nI 3).toInt))) (c91 : ¬ r89 = 0) : ((nI 0) = (-1 : Int32) ∧ ¬ (((nI 1).toInt = 0 ∨ (nI 1).toInt = 1) ∧ ((nI 1).toInt = 0 ∨ (nI 1).toInt = 1) ∧ 0 ≤ (nI yn).toInt ∧ (nI yn).toInt < 4)) ∨ ((nI 0) = nI 0 ∧ (((nI 1).toInt = 0 ∨ (nI 1).toInt = 1) ∧ ((nI 1).toInt = 0 ∨ (nI 1).toInt = 1) ∧ 0 ≤ (nI yn).toInt ∧ (nI yn).toInt < 4)) := by
  have k_0 := ia_n 1 (by decide)
  have k_1 := ia_n yn (by omega)
  have k_2 := ia_n 0 (by decide)
  have k_3 := ia_n 3 (by decide)
  try simp only [ia_lt, ia_le, ia_eq, ia_m1, ia_0, ia_1, ne_eq, true_and, and_true, false_and, and_false, or_false, false_or, or_true, true_or, not_true_eq_false, not_false_eq_true] at *
  all_goals omega
set_option maxRecDepth 20000 in
theorem lf_m_stir_21 (o : Nat) (ktape : Nat) (know : Nat) (kread : Nat) (kkept : Nat) (ksnaps : Nat) (kaside : Nat) (kname : Nat) (kreadName : Nat) (kkeptName : Nat) (kisKept : Nat) (konces : Nat) (kpoured : Nat) (kfar : Nat) (ksides : Nat) (klines : Nat) (kmet : Nat) (ksunk : Nat) (ktrying : Nat) (ktext : Nat) (kline : Nat) (kwritten : Nat) (knode : Nat) (knowF : Nat → Int32) (ksnapsF : Nat → Int32) (kpouredF : Nat → Int32) (x : Int32) (y : Int32) (n : Int32) (r98 : Int32) (r100 : Int32) (hN : NowOk knowF) (hnok : ¬ ((x.toInt = 0 ∨ x.toInt = 1) ∧ (n.toInt = 0 ∨ n.toInt = 1) ∧ 0 ≤ y.toInt ∧ y.toInt < 4)) (p99 : True) (p101 : (r100 = nI 1 ∧ (nI 0).toInt ≤ x.toInt ∧ x.toInt ≤ (nI 1).toInt) ∨ (r100 = nI 0 ∧ ¬ ((nI 0).toInt ≤ x.toInt ∧ x.toInt ≤ (nI 1).toInt))) (c102 : r100 = 0) : ((-1 : Int32) = (-1 : Int32) ∧ ¬ ((x.toInt = 0 ∨ x.toInt = 1) ∧ (n.toInt = 0 ∨ n.toInt = 1) ∧ 0 ≤ y.toInt ∧ y.toInt < 4)) ∨ ((-1 : Int32) = nI 0 ∧ ((x.toInt = 0 ∨ x.toInt = 1) ∧ (n.toInt = 0 ∨ n.toInt = 1) ∧ 0 ≤ y.toInt ∧ y.toInt < 4)) := by
  have k_0 := ia_n 1 (by decide)
  have k_1 := ia_n 0 (by decide)
  try simp only [ia_lt, ia_le, ia_eq, ia_m1, ia_0, ia_1, ne_eq, true_and, and_true, false_and, and_false, or_false, false_or, or_true, true_or, not_true_eq_false, not_false_eq_true] at *
  all_goals omega
set_option maxRecDepth 20000 in
theorem lf_m_stir_22 (o : Nat) (ktape : Nat) (know : Nat) (kread : Nat) (kkept : Nat) (ksnaps : Nat) (kaside : Nat) (kname : Nat) (kreadName : Nat) (kkeptName : Nat) (kisKept : Nat) (konces : Nat) (kpoured : Nat) (kfar : Nat) (ksides : Nat) (klines : Nat) (kmet : Nat) (ksunk : Nat) (ktrying : Nat) (ktext : Nat) (kline : Nat) (kwritten : Nat) (knode : Nat) (knowF : Nat → Int32) (ksnapsF : Nat → Int32) (kpouredF : Nat → Int32) (x : Int32) (y : Int32) (n : Int32) (r98 : Int32) (r100 : Int32) (r105 : Int32) (hN : NowOk knowF) (hnok : ¬ ((x.toInt = 0 ∨ x.toInt = 1) ∧ (n.toInt = 0 ∨ n.toInt = 1) ∧ 0 ≤ y.toInt ∧ y.toInt < 4)) (p99 : True) (p101 : (r100 = nI 1 ∧ (nI 0).toInt ≤ x.toInt ∧ x.toInt ≤ (nI 1).toInt) ∨ (r100 = nI 0 ∧ ¬ ((nI 0).toInt ≤ x.toInt ∧ x.toInt ≤ (nI 1).toInt))) (c102 : ¬ r100 = 0) (p106 : (r105 = nI 1 ∧ (nI 0).toInt ≤ n.toInt ∧ n.toInt ≤ (nI 1).toInt) ∨ (r105 = nI 0 ∧ ¬ ((nI 0).toInt ≤ n.toInt ∧ n.toInt ≤ (nI 1).toInt))) (c107 : r105 = 0) : ((-1 : Int32) = (-1 : Int32) ∧ ¬ ((x.toInt = 0 ∨ x.toInt = 1) ∧ (n.toInt = 0 ∨ n.toInt = 1) ∧ 0 ≤ y.toInt ∧ y.toInt < 4)) ∨ ((-1 : Int32) = nI 0 ∧ ((x.toInt = 0 ∨ x.toInt = 1) ∧ (n.toInt = 0 ∨ n.toInt = 1) ∧ 0 ≤ y.toInt ∧ y.toInt < 4)) := by
  have k_0 := ia_n 1 (by decide)
  have k_1 := ia_n 0 (by decide)
  try simp only [ia_lt, ia_le, ia_eq, ia_m1, ia_0, ia_1, ne_eq, true_and, and_true, false_and, and_false, or_false, false_or, or_true, true_or, not_true_eq_false, not_false_eq_true] at *
  all_goals omega
set_option maxRecDepth 20000 in
theorem lf_m_stir_23 (o : Nat) (ktape : Nat) (know : Nat) (kread : Nat) (kkept : Nat) (ksnaps : Nat) (kaside : Nat) (kname : Nat) (kreadName : Nat) (kkeptName : Nat) (kisKept : Nat) (konces : Nat) (kpoured : Nat) (kfar : Nat) (ksides : Nat) (klines : Nat) (kmet : Nat) (ksunk : Nat) (ktrying : Nat) (ktext : Nat) (kline : Nat) (kwritten : Nat) (knode : Nat) (knowF : Nat → Int32) (ksnapsF : Nat → Int32) (kpouredF : Nat → Int32) (x : Int32) (y : Int32) (n : Int32) (r98 : Int32) (r100 : Int32) (r105 : Int32) (r111 : Int32) (hN : NowOk knowF) (hnok : ¬ ((x.toInt = 0 ∨ x.toInt = 1) ∧ (n.toInt = 0 ∨ n.toInt = 1) ∧ 0 ≤ y.toInt ∧ y.toInt < 4)) (p99 : True) (p101 : (r100 = nI 1 ∧ (nI 0).toInt ≤ x.toInt ∧ x.toInt ≤ (nI 1).toInt) ∨ (r100 = nI 0 ∧ ¬ ((nI 0).toInt ≤ x.toInt ∧ x.toInt ≤ (nI 1).toInt))) (c102 : ¬ r100 = 0) (p106 : (r105 = nI 1 ∧ (nI 0).toInt ≤ n.toInt ∧ n.toInt ≤ (nI 1).toInt) ∨ (r105 = nI 0 ∧ ¬ ((nI 0).toInt ≤ n.toInt ∧ n.toInt ≤ (nI 1).toInt))) (c107 : ¬ r105 = 0) (c110 : x ≠ nI 1) (p112 : (r111 = nI 1 ∧ (nI 0).toInt ≤ y.toInt ∧ y.toInt ≤ (nI 3).toInt) ∨ (r111 = nI 0 ∧ ¬ ((nI 0).toInt ≤ y.toInt ∧ y.toInt ≤ (nI 3).toInt))) (c113 : r111 = 0) : ((-1 : Int32) = (-1 : Int32) ∧ ¬ ((x.toInt = 0 ∨ x.toInt = 1) ∧ (n.toInt = 0 ∨ n.toInt = 1) ∧ 0 ≤ y.toInt ∧ y.toInt < 4)) ∨ ((-1 : Int32) = nI 0 ∧ ((x.toInt = 0 ∨ x.toInt = 1) ∧ (n.toInt = 0 ∨ n.toInt = 1) ∧ 0 ≤ y.toInt ∧ y.toInt < 4)) := by
  have k_0 := ia_n 1 (by decide)
  have k_1 := ia_n 0 (by decide)
  have k_2 := ia_n 3 (by decide)
  try simp only [ia_lt, ia_le, ia_eq, ia_m1, ia_0, ia_1, ne_eq, true_and, and_true, false_and, and_false, or_false, false_or, or_true, true_or, not_true_eq_false, not_false_eq_true] at *
  all_goals omega
set_option maxRecDepth 20000 in
theorem lf_m_stir_24 (o : Nat) (ktape : Nat) (know : Nat) (kread : Nat) (kkept : Nat) (ksnaps : Nat) (kaside : Nat) (kname : Nat) (kreadName : Nat) (kkeptName : Nat) (kisKept : Nat) (konces : Nat) (kpoured : Nat) (kfar : Nat) (ksides : Nat) (klines : Nat) (kmet : Nat) (ksunk : Nat) (ktrying : Nat) (ktext : Nat) (kline : Nat) (kwritten : Nat) (knode : Nat) (knowF : Nat → Int32) (ksnapsF : Nat → Int32) (kpouredF : Nat → Int32) (x : Int32) (y : Int32) (n : Int32) (r98 : Int32) (r100 : Int32) (r105 : Int32) (r111 : Int32) (hN : NowOk knowF) (hnok : ¬ ((x.toInt = 0 ∨ x.toInt = 1) ∧ (n.toInt = 0 ∨ n.toInt = 1) ∧ 0 ≤ y.toInt ∧ y.toInt < 4)) (p99 : True) (p101 : (r100 = nI 1 ∧ (nI 0).toInt ≤ x.toInt ∧ x.toInt ≤ (nI 1).toInt) ∨ (r100 = nI 0 ∧ ¬ ((nI 0).toInt ≤ x.toInt ∧ x.toInt ≤ (nI 1).toInt))) (c102 : ¬ r100 = 0) (p106 : (r105 = nI 1 ∧ (nI 0).toInt ≤ n.toInt ∧ n.toInt ≤ (nI 1).toInt) ∨ (r105 = nI 0 ∧ ¬ ((nI 0).toInt ≤ n.toInt ∧ n.toInt ≤ (nI 1).toInt))) (c107 : ¬ r105 = 0) (c110 : x ≠ nI 1) (p112 : (r111 = nI 1 ∧ (nI 0).toInt ≤ y.toInt ∧ y.toInt ≤ (nI 3).toInt) ∨ (r111 = nI 0 ∧ ¬ ((nI 0).toInt ≤ y.toInt ∧ y.toInt ≤ (nI 3).toInt))) (c113 : ¬ r111 = 0) : False := by
  have k_0 := ia_n 1 (by decide)
  have k_1 := ia_n 0 (by decide)
  have k_2 := ia_n 3 (by decide)
  try simp only [ia_lt, ia_le, ia_eq, ia_m1, ia_0, ia_1, ne_eq, true_and, and_true, false_and, and_false, or_false, false_or, or_true, true_or, not_true_eq_false, not_false_eq_true] at *
  all_goals omega
set_option maxRecDepth 20000 in
theorem lf_m_stir_25 (o : Nat) (ktape : Nat) (know : Nat) (kread : Nat) (kkept : Nat) (ksnaps : Nat) (kaside : Nat) (kname : Nat) (kreadName : Nat) (kkeptName : Nat) (kisKept : Nat) (konces : Nat) (kpoured : Nat) (kfar : Nat) (ksides : Nat) (klines : Nat) (kmet : Nat) (ksunk : Nat) (ktrying : Nat) (ktext : Nat) (kline : Nat) (kwritten : Nat) (knode : Nat) (knowF : Nat → Int32) (ksnapsF : Nat → Int32) (kpouredF : Nat → Int32) (x : Int32) (y : Int32) (n : Int32) (r98 : Int32) (r100 : Int32) (r105 : Int32) (r116 : Int32) (hN : NowOk knowF) (hnok : ¬ ((x.toInt = 0 ∨ x.toInt = 1) ∧ (n.toInt = 0 ∨ n.toInt = 1) ∧ 0 ≤ y.toInt ∧ y.toInt < 4)) (p99 : True) (p101 : (r100 = nI 1 ∧ (nI 0).toInt ≤ x.toInt ∧ x.toInt ≤ (nI 1).toInt) ∨ (r100 = nI 0 ∧ ¬ ((nI 0).toInt ≤ x.toInt ∧ x.toInt ≤ (nI 1).toInt))) (c102 : ¬ r100 = 0) (p106 : (r105 = nI 1 ∧ (nI 0).toInt ≤ n.toInt ∧ n.toInt ≤ (nI 1).toInt) ∨ (r105 = nI 0 ∧ ¬ ((nI 0).toInt ≤ n.toInt ∧ n.toInt ≤ (nI 1).toInt))) (c107 : ¬ r105 = 0) (c110 : x = nI 1) (p117 : (r116 = nI 1 ∧ (nI 0).toInt ≤ y.toInt ∧ y.toInt ≤ (nI 3).toInt) ∨ (r116 = nI 0 ∧ ¬ ((nI 0).toInt ≤ y.toInt ∧ y.toInt ≤ (nI 3).toInt))) (c118 : r116 = 0) : ((-1 : Int32) = (-1 : Int32) ∧ ¬ ((x.toInt = 0 ∨ x.toInt = 1) ∧ (n.toInt = 0 ∨ n.toInt = 1) ∧ 0 ≤ y.toInt ∧ y.toInt < 4)) ∨ ((-1 : Int32) = nI 0 ∧ ((x.toInt = 0 ∨ x.toInt = 1) ∧ (n.toInt = 0 ∨ n.toInt = 1) ∧ 0 ≤ y.toInt ∧ y.toInt < 4)) := by
  have k_0 := ia_n 1 (by decide)
  have k_1 := ia_n 0 (by decide)
  have k_2 := ia_n 3 (by decide)
  try simp only [ia_lt, ia_le, ia_eq, ia_m1, ia_0, ia_1, ne_eq, true_and, and_true, false_and, and_false, or_false, false_or, or_true, true_or, not_true_eq_false, not_false_eq_true] at *
  all_goals omega
set_option maxRecDepth 20000 in
theorem lf_m_stir_26 (o : Nat) (ktape : Nat) (know : Nat) (kread : Nat) (kkept : Nat) (ksnaps : Nat) (kaside : Nat) (kname : Nat) (kreadName : Nat) (kkeptName : Nat) (kisKept : Nat) (konces : Nat) (kpoured : Nat) (kfar : Nat) (ksides : Nat) (klines : Nat) (kmet : Nat) (ksunk : Nat) (ktrying : Nat) (ktext : Nat) (kline : Nat) (kwritten : Nat) (knode : Nat) (knowF : Nat → Int32) (ksnapsF : Nat → Int32) (kpouredF : Nat → Int32) (x : Int32) (y : Int32) (n : Int32) (r98 : Int32) (r100 : Int32) (r105 : Int32) (r116 : Int32) (hN : NowOk knowF) (hnok : ¬ ((x.toInt = 0 ∨ x.toInt = 1) ∧ (n.toInt = 0 ∨ n.toInt = 1) ∧ 0 ≤ y.toInt ∧ y.toInt < 4)) (p99 : True) (p101 : (r100 = nI 1 ∧ (nI 0).toInt ≤ x.toInt ∧ x.toInt ≤ (nI 1).toInt) ∨ (r100 = nI 0 ∧ ¬ ((nI 0).toInt ≤ x.toInt ∧ x.toInt ≤ (nI 1).toInt))) (c102 : ¬ r100 = 0) (p106 : (r105 = nI 1 ∧ (nI 0).toInt ≤ n.toInt ∧ n.toInt ≤ (nI 1).toInt) ∨ (r105 = nI 0 ∧ ¬ ((nI 0).toInt ≤ n.toInt ∧ n.toInt ≤ (nI 1).toInt))) (c107 : ¬ r105 = 0) (c110 : x = nI 1) (p117 : (r116 = nI 1 ∧ (nI 0).toInt ≤ y.toInt ∧ y.toInt ≤ (nI 3).toInt) ∨ (r116 = nI 0 ∧ ¬ ((nI 0).toInt ≤ y.toInt ∧ y.toInt ≤ (nI 3).toInt))) (c118 : ¬ r116 = 0) : False := by
  have k_0 := ia_n 1 (by decide)
  have k_1 := ia_n 0 (by decide)
  have k_2 := ia_n 3 (by decide)
  try simp only [ia_lt, ia_le, ia_eq, ia_m1, ia_0, ia_1, ne_eq, true_and, and_true, false_and, and_false, or_false, false_or, or_true, true_or, not_true_eq_false, not_false_eq_true] at *
  all_goals omega
set_option maxHeartbeats 4000000 in
set_option maxRecDepth 100000 in
theorem c_m_stir (l : Launch) (dC : Nat → ClassId) (dI : Nat → Nat → Nat) (ky : Nat → ClassId) (sz : Nat) (o : Nat) (ktape : Nat) (know : Nat) (kread : Nat) (kkept : Nat) (ksnaps : Nat) (kaside : Nat) (kname : Nat) (kreadName : Nat) (kkeptName : Nat) (kisKept : Nat) (konces : Nat) (kpoured : Nat) (kfar : Nat) (ksides : Nat) (klines : Nat) (kmet : Nat) (ksunk : Nat) (ktrying : Nat) (ktext : Nat) (kline : Nat) (kwritten : Nat) (knode : Nat) (knowF : Nat → Int32) (ksnapsF : Nat → Int32) (kpouredF : Nat → Int32) (x : Int32) (y : Int32) (n : Int32) (hN : NowOk knowF) : Met l yX12_stir wsX12_stir ({ frames := 4, cells := 0, slots := 0, locals := 97 }) (PcU dC dI ky [.ref o, .int x, .int y, .int n] [(o, .inr (12, [.int (nI 0), .ref ktape, .int (nI 0), .int (nI 0), .int (nI 0), .int (nI 0), .int (nI 0), .int (nI 0), .int (nI 0), .int (nI 0), .int (nI 0), .int (nI 0), .long 0, .int (nI 0), .ref know, .ref kread, .ref kkept, .ref ksnaps, .ref kaside, .ref kname, .ref kreadName, .ref kkeptName, .ref kisKept, .ref konces, .int (nI 0), .int (nI 0), .ref kpoured, .ref kfar, .ref ksides, .int (nI 0), .int (-1 : Int32), .int (nI 0), .ref klines, .ref kmet, .int (nI 0), .ref ksunk, .ref ktrying, .int (nI 0), .int (-1 : Int32), .int (-1 : Int32), .ref ktext, .int (nI 0), .int (nI 0), .ref kline, .ref kwritten, .int (nI 0), .int (nI 0), .ref knode, .int (nI 0), .int (nI 0), .int (nI 0), .int (nI 0)])), (know, .inl (ky 0, 373, .inl knowF)), (ksnaps, .inl (ky 0, 512, .inl ksnapsF)), (kpoured, .inl (ky 0, 36, .inl kpouredF))] sz) (va_Qi (fun (r : Int32) (_ : Unit) => (r = (-1 : Int32) ∧ ¬ ((x.toInt = 0 ∨ x.toInt = 1) ∧ (n.toInt = 0 ∨ n.toInt = 1) ∧ 0 ≤ y.toInt ∧ y.toInt < 4)) ∨ (r = nI 0 ∧ ((x.toInt = 0 ∨ x.toInt = 1) ∧ (n.toInt = 0 ∨ n.toInt = 1) ∧ 0 ≤ y.toInt ∧ y.toInt < 4))) (BU dC dI ky (fun (_ : Unit) => []) (va_A [(o, .inr (12, [.int (nI 0), .ref ktape, .int (nI 0), .int (nI 0), .int (nI 0), .int (nI 0), .int (nI 0), .int (nI 0), .int (nI 0), .int (nI 0), .int (nI 0), .int (nI 0), .long 0, .int (nI 0), .ref know, .ref kread, .ref kkept, .ref ksnaps, .ref kaside, .ref kname, .ref kreadName, .ref kkeptName, .ref kisKept, .ref konces, .int (nI 0), .int (nI 0), .ref kpoured, .ref kfar, .ref ksides, .int (nI 0), .int (-1 : Int32), .int (nI 0), .ref klines, .ref kmet, .int (nI 0), .ref ksunk, .ref ktrying, .int (nI 0), .int (-1 : Int32), .int (-1 : Int32), .ref ktext, .int (nI 0), .int (nI 0), .ref kline, .ref kwritten, .int (nI 0), .int (nI 0), .ref knode, .int (nI 0), .int (nI 0), .int (nI 0), .int (nI 0)])), (know, .inl (ky 0, 373, .inl knowF)), (ksnaps, .inl (ky 0, 512, .inl ksnapsF)), (kpoured, .inl (ky 0, 36, .inl kpouredF))] sz)) (va_A [(o, .inr (12, [.int (nI 0), .ref ktape, .int (nI 0), .int (nI 0), .int (nI 0), .int (nI 0), .int (nI 0), .int (nI 0), .int (nI 0), .int (nI 0), .int (nI 0), .int (nI 0), .long 0, .int (nI 0), .ref know, .ref kread, .ref kkept, .ref ksnaps, .ref kaside, .ref kname, .ref kreadName, .ref kkeptName, .ref kisKept, .ref konces, .int (nI 0), .int (nI 0), .ref kpoured, .ref kfar, .ref ksides, .int (nI 0), .int (-1 : Int32), .int (nI 0), .ref klines, .ref kmet, .int (nI 0), .ref ksunk, .ref ktrying, .int (nI 0), .int (-1 : Int32), .int (-1 : Int32), .ref ktext, .int (nI 0), .int (nI 0), .ref kline, .ref kwritten, .int (nI 0), .int (nI 0), .ref knode, .int (nI 0), .int (nI 0), .int (nI 0), .int (nI 0)])), (know, .inl (ky 0, 373, .inl knowF)), (ksnaps, .inl (ky 0, 512, .inl ksnapsF)), (kpoured, .inl (ky 0, 36, .inl kpouredF))] sz)) 0 0 (va_A [(o, .inr (12, [.int (nI 0), .ref ktape, .int (nI 0), .int (nI 0), .int (nI 0), .int (nI 0), .int (nI 0), .int (nI 0), .int (nI 0), .int (nI 0), .int (nI 0), .int (nI 0), .long 0, .int (nI 0), .ref know, .ref kread, .ref kkept, .ref ksnaps, .ref kaside, .ref kname, .ref kreadName, .ref kkeptName, .ref kisKept, .ref konces, .int (nI 0), .int (nI 0), .ref kpoured, .ref kfar, .ref ksides, .int (nI 0), .int (-1 : Int32), .int (nI 0), .ref klines, .ref kmet, .int (nI 0), .ref ksunk, .ref ktrying, .int (nI 0), .int (-1 : Int32), .int (-1 : Int32), .ref ktext, .int (nI 0), .int (nI 0), .ref kline, .ref kwritten, .int (nI 0), .int (nI 0), .ref knode, .int (nI 0), .int (nI 0), .int (nI 0), .int (nI 0)])), (know, .inl (ky 0, 373, .inl knowF)), (ksnaps, .inl (ky 0, 512, .inl ksnapsF)), (kpoured, .inl (ky 0, 36, .inl kpouredF))] sz) := by
  refine Met.ofW (cc := cX12_stir) (maxL := 4) (ret := (some .int)) (by decide) rfl ?_
  intro p e s m args below meth c s₁ B hml hv
  obtain ⟨rfl, hsz, hP, hK, hD0⟩ := hv
  have hx := B.exec
  have hb := B.bytes
  have hr := B.returns
  have hts := atoms_spec (ws := wsX12_stir) B.pre
  have hown : s.vm.findClass RX12 = some m.cls := findClass_of_methodNamed B.named
  have hlocks := B.notSynchronized
  have hin12 : ∀ w ∈ u_ws RX12 TX12 52, w ∈ wsX12_stir := by decide +kernel
  subst hsz
  have hD := hD0.self (sz := s.heap.size)
  generalize hAe : va_A [(o, .inr (12, [.int (nI 0), .ref ktape, .int (nI 0), .int (nI 0), .int (nI 0), .int (nI 0), .int (nI 0), .int (nI 0), .int (nI 0), .int (nI 0), .int (nI 0), .int (nI 0), .long 0, .int (nI 0), .ref know, .ref kread, .ref kkept, .ref ksnaps, .ref kaside, .ref kname, .ref kreadName, .ref kkeptName, .ref kisKept, .ref konces, .int (nI 0), .int (nI 0), .ref kpoured, .ref kfar, .ref ksides, .int (nI 0), .int (-1 : Int32), .int (nI 0), .ref klines, .ref kmet, .int (nI 0), .ref ksunk, .ref ktrying, .int (nI 0), .int (-1 : Int32), .int (-1 : Int32), .ref ktext, .int (nI 0), .int (nI 0), .ref kline, .ref kwritten, .int (nI 0), .int (nI 0), .ref knode, .int (nI 0), .int (nI 0), .int (nI 0), .int (nI 0)])), (know, .inl (ky 0, 373, .inl knowF)), (ksnaps, .inl (ky 0, 512, .inl ksnapsF)), (kpoured, .inl (ky 0, 36, .inl kpouredF))] s.heap.size = A at hD ⊢
  have hA : ∀ q : Nat, s.heap.size ≤ q → A q := fun q h => by rw [← hAe]; exact Or.inr h
  have hS : va_S A s.heap s.heap [] := va_S.rf
  have hP : va_P (dC, dI) vwCl [(o, .inr (12, [.int (nI 0), .ref ktape, .int (nI 0), .int (nI 0), .int (nI 0), .int (nI 0), .int (nI 0), .int (nI 0), .int (nI 0), .int (nI 0), .int (nI 0), .int (nI 0), .long 0, .int (nI 0), .ref know, .ref kread, .ref kkept, .ref ksnaps, .ref kaside, .ref kname, .ref kreadName, .ref kkeptName, .ref kisKept, .ref konces, .int (nI 0), .int (nI 0), .ref kpoured, .ref kfar, .ref ksides, .int (nI 0), .int (-1 : Int32), .int (nI 0), .ref klines, .ref kmet, .int (nI 0), .ref ksunk, .ref ktrying, .int (nI 0), .int (-1 : Int32), .int (-1 : Int32), .ref ktext, .int (nI 0), .int (nI 0), .ref kline, .ref kwritten, .int (nI 0), .int (nI 0), .ref knode, .int (nI 0), .int (nI 0), .int (nI 0), .int (nI 0)])), (know, .inl (ky 0, 373, .inl knowF)), (ksnaps, .inl (ky 0, 512, .inl ksnapsF)), (kpoured, .inl (ky 0, 36, .inl kpouredF))] s.heap := hP
  have hl := lv_entry ([.ref o, .int x, .int y, .int n]) (n := 4) (Nat.le_of_ble_eq_true rfl)
  rw [lg_entry_eq]
  generalize (lg_sl ([.ref o, .int x, .int y, .int n]) ++ List.replicate (4 - (lg_sl ([.ref o, .int x, .int y, .int n])).length) Slot.unset).toArray = ls at hl ⊢
  have hl : lv_has ls 4 [(0, .ref o), (1, .int x), (2, .int y), (3, .int n)] := hl
  have hH0 : True := trivial
  rcases Classical.em ((x.toInt = 0 ∨ x.toInt = 1) ∧ (n.toInt = 0 ∨ n.toInt = 1) ∧ 0 ≤ y.toInt ∧ y.toInt < 4) with hok | hnok
  · obtain ⟨yn, h1, rfl⟩ := nat_of y 4 (by decide) (lf_m_stir_1 o ktape know kread kkept ksnaps kaside kname kreadName kkeptName kisKept konces kpoured kfar ksides klines kmet ksunk ktrying ktext kline kwritten knode knowF ksnapsF kpouredF x y n hN hok)
    rcases (lf_m_stir_2 o ktape know kread kkept ksnaps kaside kname kreadName kkeptName kisKept konces kpoured kfar ksides klines kmet ksunk ktrying ktext kline kwritten knode knowF ksnapsF kpouredF x n yn hN hok h1) with rfl | rfl
    · rcases (lf_m_stir_3 o ktape know kread kkept ksnaps kaside kname kreadName kkeptName kisKept konces kpoured kfar ksides klines kmet ksunk ktrying ktext kline kwritten knode knowF ksnapsF kpouredF n yn hN hok h1) with rfl | rfl
      · refine lv_aload_n hx hb dX12_stir_0 rfl (lv_at hl 0 rfl) ?_
        refine lv_iconst (v := nI 0) hx hb dX12_stir_1 (by decide) ?_
        refine va_put (D := (dC, dI)) (ci := 12) (v := .int (nI 0)) (ty := .int) (C := RX12) (T := TX12) (N := 52) hx hb hts hin12 tyX12 tyX12_ok nmX12 hown hK hP hD hS 0 rfl rfl 0 (by decide) (hts (.fieldLink RX12 1 "PorridgeSeaModel" "thrown" "I") (List.mem_of_getElem? (i := 1) rfl)) (fun _ h9 => h9) rfl (by decide +kernel) rfl rfl (Nat.le_of_ble_eq_true rfl) dX12_stir_2 (fun H locs hP hD hS => ?_)
        have hP : va_P (dC, dI) vwCl [(o, .inr (12, [.int (nI 0), .ref ktape, .int (nI 0), .int (nI 0), .int (nI 0), .int (nI 0), .int (nI 0), .int (nI 0), .int (nI 0), .int (nI 0), .int (nI 0), .int (nI 0), .long 0, .int (nI 0), .ref know, .ref kread, .ref kkept, .ref ksnaps, .ref kaside, .ref kname, .ref kreadName, .ref kkeptName, .ref kisKept, .ref konces, .int (nI 0), .int (nI 0), .ref kpoured, .ref kfar, .ref ksides, .int (nI 0), .int (-1 : Int32), .int (nI 0), .ref klines, .ref kmet, .int (nI 0), .ref ksunk, .ref ktrying, .int (nI 0), .int (-1 : Int32), .int (-1 : Int32), .ref ktext, .int (nI 0), .int (nI 0), .ref kline, .ref kwritten, .int (nI 0), .int (nI 0), .ref knode, .int (nI 0), .int (nI 0), .int (nI 0), .int (nI 0)])), (know, .inl (ky 0, 373, .inl knowF)), (ksnaps, .inl (ky 0, 512, .inl ksnapsF)), (kpoured, .inl (ky 0, 36, .inl kpouredF))] H := hP
        have hD : va_D A [(o, .inr (12, [.int (nI 0), .ref ktape, .int (nI 0), .int (nI 0), .int (nI 0), .int (nI 0), .int (nI 0), .int (nI 0), .int (nI 0), .int (nI 0), .int (nI 0), .int (nI 0), .long 0, .int (nI 0), .ref know, .ref kread, .ref kkept, .ref ksnaps, .ref kaside, .ref kname, .ref kreadName, .ref kkeptName, .ref kisKept, .ref konces, .int (nI 0), .int (nI 0), .ref kpoured, .ref kfar, .ref ksides, .int (nI 0), .int (-1 : Int32), .int (nI 0), .ref klines, .ref kmet, .int (nI 0), .ref ksunk, .ref ktrying, .int (nI 0), .int (-1 : Int32), .int (-1 : Int32), .ref ktext, .int (nI 0), .int (nI 0), .ref kline, .ref kwritten, .int (nI 0), .int (nI 0), .ref knode, .int (nI 0), .int (nI 0), .int (nI 0), .int (nI 0)])), (know, .inl (ky 0, 373, .inl knowF)), (ksnaps, .inl (ky 0, 512, .inl ksnapsF)), (kpoured, .inl (ky 0, 36, .inl kpouredF))] := hD
        refine lv_aload_n hx hb dX12_stir_5 rfl (lv_at hl 0 rfl) ?_
        refine lv_iconst (v := nI 0) hx hb dX12_stir_6 (by decide) ?_
        refine lv_iload_n hx hb dX12_stir_7 rfl (lv_at hl 1 rfl) ?_
        refine lv_iload_n hx hb dX12_stir_8 rfl (lv_at hl 2 rfl) ?_
        refine lv_iload_n hx hb dX12_stir_9 rfl (lv_at hl 3 rfl) ?_
        refine vp_callSi (W.runS (As := [.int (nI 0), .int (nI yn), .int (nI 0)]) (rest := [.int (nI 0), .ref o]) ⟨hx, hb, hml, hown, hts⟩ (c_m_lineOfN l dC dI ky 0 yn 0 (by omega) (by omega) (by omega)) (va_cwS 3 hts gX12_stir_X12_lineOf rfl rfl rfl (by decide +kernel) ⟨(Nat.le_of_ble_eq_true rfl), (Nat.le_of_ble_eq_true rfl)⟩) (pre_PS hK hP [] rfl) rfl rfl hl.1 rfl (lv_room (Nat.le_of_ble_eq_true rfl)) dX12_stir_10 ⟨(Nat.le_of_ble_eq_true rfl), (Nat.le_of_ble_eq_true rfl)⟩) (fun r2 p3 => ?_)
        obtain ⟨k4, h5, rfl⟩ := p3
        refine lv_iconst (v := nI 0) hx hb dX12_stir_13 (by decide) ?_
        refine lv_iload_n hx hb dX12_stir_14 rfl (lv_at hl 1 rfl) ?_
        refine lv_iconst (v := nI 0) hx hb dX12_stir_15 (by decide) ?_
        refine lv_iconst (v := nI 1) hx hb dX12_stir_16 (by decide) ?_
        refine vp_callSi (W.runS (As := [.int (nI 0), .int (nI 0), .int (nI 1)]) (rest := [.int (nI 0), .int (nI k4), .int (nI 0), .ref o]) ⟨hx, hb, hml, hown, hts⟩ (c_isIn l dC dI ky (nI 0) (nI 0) (nI 1)) (va_cwS 3 hts gX12_stir_X12_isIn rfl rfl rfl (by decide +kernel) ⟨(Nat.le_of_ble_eq_true rfl), (Nat.le_of_ble_eq_true rfl)⟩) (pre_PS hK hP [] rfl) rfl rfl hl.1 rfl (lv_room (Nat.le_of_ble_eq_true rfl)) dX12_stir_17 ⟨(Nat.le_of_ble_eq_true rfl), (Nat.le_of_ble_eq_true rfl)⟩) (fun r6 p7 => ?_)
        refine lv_if_eq (tgt := 61) hx hb dX12_stir_20 (by decide) (fun c8 => ?_) (fun c8 => ?_)
        · refine lv_iconst (v := nI 0) hx hb dX12_stir_61 (by decide) ?_
          refine vp_callSi (W.runV (As := [.int (nI 0), .int (nI k4), .int (nI 0), .int (nI 0)]) (rest := []) ⟨hx, hb, hml, hown, hts⟩ (c_m_actNo l dC dI ky o (nI 0) ktape (nI 0) (nI 0) (nI 0) (nI 0) (nI 0) (nI 0) (nI 0) (nI 0) (nI 0) (nI 0) 0 (nI 0) know kread kkept ksnaps kaside kname kreadName kkeptName kisKept konces (nI 0) (nI 0) kpoured kfar ksides (nI 0) (-1 : Int32) (nI 0) klines kmet (nI 0) ksunk ktrying (nI 0) (-1 : Int32) (-1 : Int32) ktext (nI 0) (nI 0) kline kwritten (nI 0) (nI 0) knode (nI 0) (nI 0) (nI 0) (nI 0) (nI 0) (nI k4) (nI 0)) (cwV 4 hts gX12_stir_X12_act rfl rfl rfl (by decide +kernel) ⟨(Nat.le_of_ble_eq_true rfl), (Nat.le_of_ble_eq_true rfl)⟩) (pre_PV hK hP [0] rfl (ci := 12) (q0 := 0) rfl rfl) rfl rfl hl.1 rfl (lv_room (Nat.le_of_ble_eq_true rfl)) dX12_stir_62 ⟨(Nat.le_of_ble_eq_true rfl), (Nat.le_of_ble_eq_true rfl)⟩) (fun r9 p10 => ?_)
          subst p10
          have hP9 := hP.sub (ws' := []) [] rfl
          have hD9 := hD.sub (ws' := []) [] (by decide) rfl
          refine W.widen (k := 0) (n := 0) (Nat.le_of_ble_eq_true rfl) (Nat.le_of_ble_eq_true rfl) ?_
          exact W.iret (v := (-1 : Int32)) hx hb hr (fun t ht9 hW9 => ⟨⟨(-1 : Int32), (), rfl, (lf_m_stir_4 o ktape know kread kkept ksnaps kaside kname kreadName kkeptName kisKept konces kpoured kfar ksides klines kmet ksunk ktrying ktext kline kwritten knode knowF ksnapsF kpouredF yn k4 r6 hN hok h1 h5 p7 c8), by rw [ht9]; exact hP9, va_K.moved hW9.alike hK, hD9⟩, hS.F ht9⟩) hS.2.2 dX12_stir_65
        · refine lv_iload_n hx hb dX12_stir_23 rfl (lv_at hl 3 rfl) ?_
          refine lv_iconst (v := nI 0) hx hb dX12_stir_24 (by decide) ?_
          refine lv_iconst (v := nI 1) hx hb dX12_stir_25 (by decide) ?_
          refine vp_callSi (W.runS (As := [.int (nI 0), .int (nI 0), .int (nI 1)]) (rest := [.int (nI 0), .int (nI k4), .int (nI 0), .ref o]) ⟨hx, hb, hml, hown, hts⟩ (c_isIn l dC dI ky (nI 0) (nI 0) (nI 1)) (va_cwS 3 hts gX12_stir_X12_isIn rfl rfl rfl (by decide +kernel) ⟨(Nat.le_of_ble_eq_true rfl), (Nat.le_of_ble_eq_true rfl)⟩) (pre_PS hK hP [] rfl) rfl rfl hl.1 rfl (lv_room (Nat.le_of_ble_eq_true rfl)) dX12_stir_26 ⟨(Nat.le_of_ble_eq_true rfl), (Nat.le_of_ble_eq_true rfl)⟩) (fun r11 p12 => ?_)
          refine lv_if_eq (tgt := 61) hx hb dX12_stir_29 (by decide) (fun c13 => ?_) (fun c13 => ?_)
          · refine lv_iconst (v := nI 0) hx hb dX12_stir_61 (by decide) ?_
            refine vp_callSi (W.runV (As := [.int (nI 0), .int (nI k4), .int (nI 0), .int (nI 0)]) (rest := []) ⟨hx, hb, hml, hown, hts⟩ (c_m_actNo l dC dI ky o (nI 0) ktape (nI 0) (nI 0) (nI 0) (nI 0) (nI 0) (nI 0) (nI 0) (nI 0) (nI 0) (nI 0) 0 (nI 0) know kread kkept ksnaps kaside kname kreadName kkeptName kisKept konces (nI 0) (nI 0) kpoured kfar ksides (nI 0) (-1 : Int32) (nI 0) klines kmet (nI 0) ksunk ktrying (nI 0) (-1 : Int32) (-1 : Int32) ktext (nI 0) (nI 0) kline kwritten (nI 0) (nI 0) knode (nI 0) (nI 0) (nI 0) (nI 0) (nI 0) (nI k4) (nI 0)) (cwV 4 hts gX12_stir_X12_act rfl rfl rfl (by decide +kernel) ⟨(Nat.le_of_ble_eq_true rfl), (Nat.le_of_ble_eq_true rfl)⟩) (pre_PV hK hP [0] rfl (ci := 12) (q0 := 0) rfl rfl) rfl rfl hl.1 rfl (lv_room (Nat.le_of_ble_eq_true rfl)) dX12_stir_62 ⟨(Nat.le_of_ble_eq_true rfl), (Nat.le_of_ble_eq_true rfl)⟩) (fun r14 p15 => ?_)
            subst p15
            have hP9 := hP.sub (ws' := []) [] rfl
            have hD9 := hD.sub (ws' := []) [] (by decide) rfl
            refine W.widen (k := 0) (n := 0) (Nat.le_of_ble_eq_true rfl) (Nat.le_of_ble_eq_true rfl) ?_
            exact W.iret (v := (-1 : Int32)) hx hb hr (fun t ht9 hW9 => ⟨⟨(-1 : Int32), (), rfl, (lf_m_stir_5 o ktape know kread kkept ksnaps kaside kname kreadName kkeptName kisKept konces kpoured kfar ksides klines kmet ksunk ktrying ktext kline kwritten knode knowF ksnapsF kpouredF yn k4 r6 r11 hN hok h1 h5 p7 c8 p12 c13), by rw [ht9]; exact hP9, va_K.moved hW9.alike hK, hD9⟩, hS.F ht9⟩) hS.2.2 dX12_stir_65
          · refine lv_iload_n hx hb dX12_stir_32 rfl (lv_at hl 2 rfl) ?_
            refine lv_iconst (v := nI 0) hx hb dX12_stir_33 (by decide) ?_
            refine lv_aload_n hx hb dX12_stir_34 rfl (lv_at hl 0 rfl) ?_
            refine va_get (D := (dC, dI)) (ci := 12) (v := .ref know) (C := RX12) (T := TX12) (N := 52) hx hb hts hin12 hown hK hP 0 rfl rfl 14 (by decide) (hts (.fieldLink RX12 98 "PorridgeSeaModel" "now" "[I") (List.mem_of_getElem? (i := 2) rfl)) (fun _ h9 => h9) rfl dX12_stir_35 ?_
            refine lv_iload_n hx hb dX12_stir_38 rfl (lv_at hl 1 rfl) ?_
            refine lv_iconst (v := nI 1) hx hb dX12_stir_39 (by decide) ?_
            refine lv_icmp_ne (tgt := 47) hx hb dX12_stir_40 (by decide) (fun c16 => ?_) (fun c16 => absurd c16 (by decide))
            refine lv_iconst (v := nI 1) hx hb dX12_stir_47 (by decide) ?_
            refine r_iald hx hb hK hP 1 rfl 1 (by decide) (by decide) (nI 4) (NowOk.b hN).2.1 dX12_stir_48 ?_
            refine lv_iconst (v := nI 1) hx hb dX12_stir_49 (by decide) ?_
            refine lv_isub hx hb dX12_stir_50 ?_
            refine r_ti (nI 3) (by decide) ?_
            refine vp_callSi (W.runS (As := [.int (nI yn), .int (nI 0), .int (nI 3)]) (rest := [.int (nI 0), .int (nI k4), .int (nI 0), .ref o]) ⟨hx, hb, hml, hown, hts⟩ (c_isIn l dC dI ky (nI yn) (nI 0) (nI 3)) (va_cwS 3 hts gX12_stir_X12_isIn rfl rfl rfl (by decide +kernel) ⟨(Nat.le_of_ble_eq_true rfl), (Nat.le_of_ble_eq_true rfl)⟩) (pre_PS hK hP [] rfl) rfl rfl hl.1 rfl (lv_room (Nat.le_of_ble_eq_true rfl)) dX12_stir_51 ⟨(Nat.le_of_ble_eq_true rfl), (Nat.le_of_ble_eq_true rfl)⟩) (fun r17 p18 => ?_)
            refine lv_if_eq (tgt := 61) hx hb dX12_stir_54 (by decide) (fun c19 => ?_) (fun c19 => ?_)
            · refine lv_iconst (v := nI 0) hx hb dX12_stir_61 (by decide) ?_
              refine vp_callSi (W.runV (As := [.int (nI 0), .int (nI k4), .int (nI 0), .int (nI 0)]) (rest := []) ⟨hx, hb, hml, hown, hts⟩ (c_m_actNo l dC dI ky o (nI 0) ktape (nI 0) (nI 0) (nI 0) (nI 0) (nI 0) (nI 0) (nI 0) (nI 0) (nI 0) (nI 0) 0 (nI 0) know kread kkept ksnaps kaside kname kreadName kkeptName kisKept konces (nI 0) (nI 0) kpoured kfar ksides (nI 0) (-1 : Int32) (nI 0) klines kmet (nI 0) ksunk ktrying (nI 0) (-1 : Int32) (-1 : Int32) ktext (nI 0) (nI 0) kline kwritten (nI 0) (nI 0) knode (nI 0) (nI 0) (nI 0) (nI 0) (nI 0) (nI k4) (nI 0)) (cwV 4 hts gX12_stir_X12_act rfl rfl rfl (by decide +kernel) ⟨(Nat.le_of_ble_eq_true rfl), (Nat.le_of_ble_eq_true rfl)⟩) (pre_PV hK hP [0] rfl (ci := 12) (q0 := 0) rfl rfl) rfl rfl hl.1 rfl (lv_room (Nat.le_of_ble_eq_true rfl)) dX12_stir_62 ⟨(Nat.le_of_ble_eq_true rfl), (Nat.le_of_ble_eq_true rfl)⟩) (fun r20 p21 => ?_)
              subst p21
              have hP9 := hP.sub (ws' := []) [] rfl
              have hD9 := hD.sub (ws' := []) [] (by decide) rfl
              refine W.widen (k := 0) (n := 0) (Nat.le_of_ble_eq_true rfl) (Nat.le_of_ble_eq_true rfl) ?_
              exact W.iret (v := (-1 : Int32)) hx hb hr (fun t ht9 hW9 => ⟨⟨(-1 : Int32), (), rfl, (lf_m_stir_6 o ktape know kread kkept ksnaps kaside kname kreadName kkeptName kisKept konces kpoured kfar ksides klines kmet ksunk ktrying ktext kline kwritten knode knowF ksnapsF kpouredF yn k4 r6 r11 r17 hN hok h1 h5 p7 c8 p12 c13 p18 c19), by rw [ht9]; exact hP9, va_K.moved hW9.alike hK, hD9⟩, hS.F ht9⟩) hS.2.2 dX12_stir_65
            · refine lv_iconst (v := nI 1) hx hb dX12_stir_57 (by decide) ?_
              refine lv_goto (tgt := 62) hx hb dX12_stir_58 (by decide) ?_
              refine r_call_i (wr := []) (va_runV (As := [.int (nI 0), .int (nI k4), .int (nI 0), .int (nI 1)]) (rest := []) ⟨hx, hb, hml, hown, hts⟩ (c_m_act0 l dC dI ky H.size o (nI 0) ktape (nI 0) (nI 0) (nI 0) (nI 0) (nI 0) (nI 0) (nI 0) (nI 0) (nI 0) (nI 0) 0 (nI 0) know kread kkept ksnaps kaside kname kreadName kkeptName kisKept konces (nI 0) kpoured kfar ksides (nI 0) (-1 : Int32) (nI 0) klines kmet (nI 0) ksunk ktrying (nI 0) (-1 : Int32) (-1 : Int32) ktext (nI 0) (nI 0) kline kwritten (nI 0) (nI 0) knode (nI 0) (nI 0) (nI 0) (nI 0) knowF ksnapsF kpouredF k4 (nI 0) hN (by omega)) (cwV 4 hts gX12_stir_X12_act rfl rfl rfl (by decide +kernel) ⟨(Nat.le_of_ble_eq_true rfl), (Nat.le_of_ble_eq_true rfl)⟩) (pre_UV hK hP hD [0, 1, 2, 3] (by decide) rfl (ci := 12) (q0 := 0) rfl rfl) rfl rfl hl.1 rfl (lv_room (Nat.le_of_ble_eq_true rfl)) dX12_stir_62 ⟨(Nat.le_of_ble_eq_true rfl), (Nat.le_of_ble_eq_true rfl)⟩) hP hD hS hA [0, 1, 2, 3] [] rfl rfl (by decide) (by decide) (fun r24 u22 H locs p23 hP hD hS => ?_)
              try dsimp only at p23
              have p25 := p23
              refine W.widen (k := 0) (n := 0) (Nat.le_of_ble_eq_true rfl) (Nat.le_of_ble_eq_true rfl) ?_
              have hP : va_P (dC, dI) vwCl [] H := hP
              have hD : va_D A [] := hD
              subst p25
              have hP9 := hP.sub (ws' := []) [] rfl
              have hD9 := hD.sub (ws' := []) [] (by decide) rfl
              refine W.widen (k := 0) (n := 0) (Nat.le_of_ble_eq_true rfl) (Nat.le_of_ble_eq_true rfl) ?_
              exact W.iret (v := nI 0) hx hb hr (fun t ht9 hW9 => ⟨⟨nI 0, (), rfl, (lf_m_stir_7 o ktape know kread kkept ksnaps kaside kname kreadName kkeptName kisKept konces kpoured kfar ksides klines kmet ksunk ktrying ktext kline kwritten knode knowF ksnapsF kpouredF yn k4 r6 r11 r17 hN hok h1 h5 p7 c8 p12 c13 p18 c19), by rw [ht9]; exact hP9, va_K.moved hW9.alike hK, hD9⟩, hS.F ht9⟩) hS.2.2 dX12_stir_65
      · refine lv_aload_n hx hb dX12_stir_0 rfl (lv_at hl 0 rfl) ?_
        refine lv_iconst (v := nI 0) hx hb dX12_stir_1 (by decide) ?_
        refine va_put (D := (dC, dI)) (ci := 12) (v := .int (nI 0)) (ty := .int) (C := RX12) (T := TX12) (N := 52) hx hb hts hin12 tyX12 tyX12_ok nmX12 hown hK hP hD hS 0 rfl rfl 0 (by decide) (hts (.fieldLink RX12 1 "PorridgeSeaModel" "thrown" "I") (List.mem_of_getElem? (i := 1) rfl)) (fun _ h9 => h9) rfl (by decide +kernel) rfl rfl (Nat.le_of_ble_eq_true rfl) dX12_stir_2 (fun H locs hP hD hS => ?_)
        have hP : va_P (dC, dI) vwCl [(o, .inr (12, [.int (nI 0), .ref ktape, .int (nI 0), .int (nI 0), .int (nI 0), .int (nI 0), .int (nI 0), .int (nI 0), .int (nI 0), .int (nI 0), .int (nI 0), .int (nI 0), .long 0, .int (nI 0), .ref know, .ref kread, .ref kkept, .ref ksnaps, .ref kaside, .ref kname, .ref kreadName, .ref kkeptName, .ref kisKept, .ref konces, .int (nI 0), .int (nI 0), .ref kpoured, .ref kfar, .ref ksides, .int (nI 0), .int (-1 : Int32), .int (nI 0), .ref klines, .ref kmet, .int (nI 0), .ref ksunk, .ref ktrying, .int (nI 0), .int (-1 : Int32), .int (-1 : Int32), .ref ktext, .int (nI 0), .int (nI 0), .ref kline, .ref kwritten, .int (nI 0), .int (nI 0), .ref knode, .int (nI 0), .int (nI 0), .int (nI 0), .int (nI 0)])), (know, .inl (ky 0, 373, .inl knowF)), (ksnaps, .inl (ky 0, 512, .inl ksnapsF)), (kpoured, .inl (ky 0, 36, .inl kpouredF))] H := hP
        have hD : va_D A [(o, .inr (12, [.int (nI 0), .ref ktape, .int (nI 0), .int (nI 0), .int (nI 0), .int (nI 0), .int (nI 0), .int (nI 0), .int (nI 0), .int (nI 0), .int (nI 0), .int (nI 0), .long 0, .int (nI 0), .ref know, .ref kread, .ref kkept, .ref ksnaps, .ref kaside, .ref kname, .ref kreadName, .ref kkeptName, .ref kisKept, .ref konces, .int (nI 0), .int (nI 0), .ref kpoured, .ref kfar, .ref ksides, .int (nI 0), .int (-1 : Int32), .int (nI 0), .ref klines, .ref kmet, .int (nI 0), .ref ksunk, .ref ktrying, .int (nI 0), .int (-1 : Int32), .int (-1 : Int32), .ref ktext, .int (nI 0), .int (nI 0), .ref kline, .ref kwritten, .int (nI 0), .int (nI 0), .ref knode, .int (nI 0), .int (nI 0), .int (nI 0), .int (nI 0)])), (know, .inl (ky 0, 373, .inl knowF)), (ksnaps, .inl (ky 0, 512, .inl ksnapsF)), (kpoured, .inl (ky 0, 36, .inl kpouredF))] := hD
        refine lv_aload_n hx hb dX12_stir_5 rfl (lv_at hl 0 rfl) ?_
        refine lv_iconst (v := nI 0) hx hb dX12_stir_6 (by decide) ?_
        refine lv_iload_n hx hb dX12_stir_7 rfl (lv_at hl 1 rfl) ?_
        refine lv_iload_n hx hb dX12_stir_8 rfl (lv_at hl 2 rfl) ?_
        refine lv_iload_n hx hb dX12_stir_9 rfl (lv_at hl 3 rfl) ?_
        refine vp_callSi (W.runS (As := [.int (nI 0), .int (nI yn), .int (nI 1)]) (rest := [.int (nI 0), .ref o]) ⟨hx, hb, hml, hown, hts⟩ (c_m_lineOfN l dC dI ky 0 yn 1 (by omega) (by omega) (by omega)) (va_cwS 3 hts gX12_stir_X12_lineOf rfl rfl rfl (by decide +kernel) ⟨(Nat.le_of_ble_eq_true rfl), (Nat.le_of_ble_eq_true rfl)⟩) (pre_PS hK hP [] rfl) rfl rfl hl.1 rfl (lv_room (Nat.le_of_ble_eq_true rfl)) dX12_stir_10 ⟨(Nat.le_of_ble_eq_true rfl), (Nat.le_of_ble_eq_true rfl)⟩) (fun r26 p27 => ?_)
        obtain ⟨k28, h29, rfl⟩ := p27
        refine lv_iconst (v := nI 0) hx hb dX12_stir_13 (by decide) ?_
        refine lv_iload_n hx hb dX12_stir_14 rfl (lv_at hl 1 rfl) ?_
        refine lv_iconst (v := nI 0) hx hb dX12_stir_15 (by decide) ?_
        refine lv_iconst (v := nI 1) hx hb dX12_stir_16 (by decide) ?_
        refine vp_callSi (W.runS (As := [.int (nI 0), .int (nI 0), .int (nI 1)]) (rest := [.int (nI 0), .int (nI k28), .int (nI 0), .ref o]) ⟨hx, hb, hml, hown, hts⟩ (c_isIn l dC dI ky (nI 0) (nI 0) (nI 1)) (va_cwS 3 hts gX12_stir_X12_isIn rfl rfl rfl (by decide +kernel) ⟨(Nat.le_of_ble_eq_true rfl), (Nat.le_of_ble_eq_true rfl)⟩) (pre_PS hK hP [] rfl) rfl rfl hl.1 rfl (lv_room (Nat.le_of_ble_eq_true rfl)) dX12_stir_17 ⟨(Nat.le_of_ble_eq_true rfl), (Nat.le_of_ble_eq_true rfl)⟩) (fun r30 p31 => ?_)
        refine lv_if_eq (tgt := 61) hx hb dX12_stir_20 (by decide) (fun c32 => ?_) (fun c32 => ?_)
        · refine lv_iconst (v := nI 0) hx hb dX12_stir_61 (by decide) ?_
          refine vp_callSi (W.runV (As := [.int (nI 0), .int (nI k28), .int (nI 0), .int (nI 0)]) (rest := []) ⟨hx, hb, hml, hown, hts⟩ (c_m_actNo l dC dI ky o (nI 0) ktape (nI 0) (nI 0) (nI 0) (nI 0) (nI 0) (nI 0) (nI 0) (nI 0) (nI 0) (nI 0) 0 (nI 0) know kread kkept ksnaps kaside kname kreadName kkeptName kisKept konces (nI 0) (nI 0) kpoured kfar ksides (nI 0) (-1 : Int32) (nI 0) klines kmet (nI 0) ksunk ktrying (nI 0) (-1 : Int32) (-1 : Int32) ktext (nI 0) (nI 0) kline kwritten (nI 0) (nI 0) knode (nI 0) (nI 0) (nI 0) (nI 0) (nI 0) (nI k28) (nI 0)) (cwV 4 hts gX12_stir_X12_act rfl rfl rfl (by decide +kernel) ⟨(Nat.le_of_ble_eq_true rfl), (Nat.le_of_ble_eq_true rfl)⟩) (pre_PV hK hP [0] rfl (ci := 12) (q0 := 0) rfl rfl) rfl rfl hl.1 rfl (lv_room (Nat.le_of_ble_eq_true rfl)) dX12_stir_62 ⟨(Nat.le_of_ble_eq_true rfl), (Nat.le_of_ble_eq_true rfl)⟩) (fun r33 p34 => ?_)
          subst p34
          have hP9 := hP.sub (ws' := []) [] rfl
          have hD9 := hD.sub (ws' := []) [] (by decide) rfl
          refine W.widen (k := 0) (n := 0) (Nat.le_of_ble_eq_true rfl) (Nat.le_of_ble_eq_true rfl) ?_
          exact W.iret (v := (-1 : Int32)) hx hb hr (fun t ht9 hW9 => ⟨⟨(-1 : Int32), (), rfl, (lf_m_stir_8 o ktape know kread kkept ksnaps kaside kname kreadName kkeptName kisKept konces kpoured kfar ksides klines kmet ksunk ktrying ktext kline kwritten knode knowF ksnapsF kpouredF yn k28 r30 hN hok h1 h29 p31 c32), by rw [ht9]; exact hP9, va_K.moved hW9.alike hK, hD9⟩, hS.F ht9⟩) hS.2.2 dX12_stir_65
        · refine lv_iload_n hx hb dX12_stir_23 rfl (lv_at hl 3 rfl) ?_
          refine lv_iconst (v := nI 0) hx hb dX12_stir_24 (by decide) ?_
          refine lv_iconst (v := nI 1) hx hb dX12_stir_25 (by decide) ?_
          refine vp_callSi (W.runS (As := [.int (nI 1), .int (nI 0), .int (nI 1)]) (rest := [.int (nI 0), .int (nI k28), .int (nI 0), .ref o]) ⟨hx, hb, hml, hown, hts⟩ (c_isIn l dC dI ky (nI 1) (nI 0) (nI 1)) (va_cwS 3 hts gX12_stir_X12_isIn rfl rfl rfl (by decide +kernel) ⟨(Nat.le_of_ble_eq_true rfl), (Nat.le_of_ble_eq_true rfl)⟩) (pre_PS hK hP [] rfl) rfl rfl hl.1 rfl (lv_room (Nat.le_of_ble_eq_true rfl)) dX12_stir_26 ⟨(Nat.le_of_ble_eq_true rfl), (Nat.le_of_ble_eq_true rfl)⟩) (fun r35 p36 => ?_)
          refine lv_if_eq (tgt := 61) hx hb dX12_stir_29 (by decide) (fun c37 => ?_) (fun c37 => ?_)
          · refine lv_iconst (v := nI 0) hx hb dX12_stir_61 (by decide) ?_
            refine vp_callSi (W.runV (As := [.int (nI 0), .int (nI k28), .int (nI 0), .int (nI 0)]) (rest := []) ⟨hx, hb, hml, hown, hts⟩ (c_m_actNo l dC dI ky o (nI 0) ktape (nI 0) (nI 0) (nI 0) (nI 0) (nI 0) (nI 0) (nI 0) (nI 0) (nI 0) (nI 0) 0 (nI 0) know kread kkept ksnaps kaside kname kreadName kkeptName kisKept konces (nI 0) (nI 0) kpoured kfar ksides (nI 0) (-1 : Int32) (nI 0) klines kmet (nI 0) ksunk ktrying (nI 0) (-1 : Int32) (-1 : Int32) ktext (nI 0) (nI 0) kline kwritten (nI 0) (nI 0) knode (nI 0) (nI 0) (nI 0) (nI 0) (nI 0) (nI k28) (nI 0)) (cwV 4 hts gX12_stir_X12_act rfl rfl rfl (by decide +kernel) ⟨(Nat.le_of_ble_eq_true rfl), (Nat.le_of_ble_eq_true rfl)⟩) (pre_PV hK hP [0] rfl (ci := 12) (q0 := 0) rfl rfl) rfl rfl hl.1 rfl (lv_room (Nat.le_of_ble_eq_true rfl)) dX12_stir_62 ⟨(Nat.le_of_ble_eq_true rfl), (Nat.le_of_ble_eq_true rfl)⟩) (fun r38 p39 => ?_)
            subst p39
            have hP9 := hP.sub (ws' := []) [] rfl
            have hD9 := hD.sub (ws' := []) [] (by decide) rfl
            refine W.widen (k := 0) (n := 0) (Nat.le_of_ble_eq_true rfl) (Nat.le_of_ble_eq_true rfl) ?_
            exact W.iret (v := (-1 : Int32)) hx hb hr (fun t ht9 hW9 => ⟨⟨(-1 : Int32), (), rfl, (lf_m_stir_9 o ktape know kread kkept ksnaps kaside kname kreadName kkeptName kisKept konces kpoured kfar ksides klines kmet ksunk ktrying ktext kline kwritten knode knowF ksnapsF kpouredF yn k28 r30 r35 hN hok h1 h29 p31 c32 p36 c37), by rw [ht9]; exact hP9, va_K.moved hW9.alike hK, hD9⟩, hS.F ht9⟩) hS.2.2 dX12_stir_65
          · refine lv_iload_n hx hb dX12_stir_32 rfl (lv_at hl 2 rfl) ?_
            refine lv_iconst (v := nI 0) hx hb dX12_stir_33 (by decide) ?_
            refine lv_aload_n hx hb dX12_stir_34 rfl (lv_at hl 0 rfl) ?_
            refine va_get (D := (dC, dI)) (ci := 12) (v := .ref know) (C := RX12) (T := TX12) (N := 52) hx hb hts hin12 hown hK hP 0 rfl rfl 14 (by decide) (hts (.fieldLink RX12 98 "PorridgeSeaModel" "now" "[I") (List.mem_of_getElem? (i := 2) rfl)) (fun _ h9 => h9) rfl dX12_stir_35 ?_
            refine lv_iload_n hx hb dX12_stir_38 rfl (lv_at hl 1 rfl) ?_
            refine lv_iconst (v := nI 1) hx hb dX12_stir_39 (by decide) ?_
            refine lv_icmp_ne (tgt := 47) hx hb dX12_stir_40 (by decide) (fun c40 => ?_) (fun c40 => absurd c40 (by decide))
            refine lv_iconst (v := nI 1) hx hb dX12_stir_47 (by decide) ?_
            refine r_iald hx hb hK hP 1 rfl 1 (by decide) (by decide) (nI 4) (NowOk.b hN).2.1 dX12_stir_48 ?_
            refine lv_iconst (v := nI 1) hx hb dX12_stir_49 (by decide) ?_
            refine lv_isub hx hb dX12_stir_50 ?_
            refine r_ti (nI 3) (by decide) ?_
            refine vp_callSi (W.runS (As := [.int (nI yn), .int (nI 0), .int (nI 3)]) (rest := [.int (nI 0), .int (nI k28), .int (nI 0), .ref o]) ⟨hx, hb, hml, hown, hts⟩ (c_isIn l dC dI ky (nI yn) (nI 0) (nI 3)) (va_cwS 3 hts gX12_stir_X12_isIn rfl rfl rfl (by decide +kernel) ⟨(Nat.le_of_ble_eq_true rfl), (Nat.le_of_ble_eq_true rfl)⟩) (pre_PS hK hP [] rfl) rfl rfl hl.1 rfl (lv_room (Nat.le_of_ble_eq_true rfl)) dX12_stir_51 ⟨(Nat.le_of_ble_eq_true rfl), (Nat.le_of_ble_eq_true rfl)⟩) (fun r41 p42 => ?_)
            refine lv_if_eq (tgt := 61) hx hb dX12_stir_54 (by decide) (fun c43 => ?_) (fun c43 => ?_)
            · refine lv_iconst (v := nI 0) hx hb dX12_stir_61 (by decide) ?_
              refine vp_callSi (W.runV (As := [.int (nI 0), .int (nI k28), .int (nI 0), .int (nI 0)]) (rest := []) ⟨hx, hb, hml, hown, hts⟩ (c_m_actNo l dC dI ky o (nI 0) ktape (nI 0) (nI 0) (nI 0) (nI 0) (nI 0) (nI 0) (nI 0) (nI 0) (nI 0) (nI 0) 0 (nI 0) know kread kkept ksnaps kaside kname kreadName kkeptName kisKept konces (nI 0) (nI 0) kpoured kfar ksides (nI 0) (-1 : Int32) (nI 0) klines kmet (nI 0) ksunk ktrying (nI 0) (-1 : Int32) (-1 : Int32) ktext (nI 0) (nI 0) kline kwritten (nI 0) (nI 0) knode (nI 0) (nI 0) (nI 0) (nI 0) (nI 0) (nI k28) (nI 0)) (cwV 4 hts gX12_stir_X12_act rfl rfl rfl (by decide +kernel) ⟨(Nat.le_of_ble_eq_true rfl), (Nat.le_of_ble_eq_true rfl)⟩) (pre_PV hK hP [0] rfl (ci := 12) (q0 := 0) rfl rfl) rfl rfl hl.1 rfl (lv_room (Nat.le_of_ble_eq_true rfl)) dX12_stir_62 ⟨(Nat.le_of_ble_eq_true rfl), (Nat.le_of_ble_eq_true rfl)⟩) (fun r44 p45 => ?_)
              subst p45
              have hP9 := hP.sub (ws' := []) [] rfl
              have hD9 := hD.sub (ws' := []) [] (by decide) rfl
              refine W.widen (k := 0) (n := 0) (Nat.le_of_ble_eq_true rfl) (Nat.le_of_ble_eq_true rfl) ?_
              exact W.iret (v := (-1 : Int32)) hx hb hr (fun t ht9 hW9 => ⟨⟨(-1 : Int32), (), rfl, (lf_m_stir_10 o ktape know kread kkept ksnaps kaside kname kreadName kkeptName kisKept konces kpoured kfar ksides klines kmet ksunk ktrying ktext kline kwritten knode knowF ksnapsF kpouredF yn k28 r30 r35 r41 hN hok h1 h29 p31 c32 p36 c37 p42 c43), by rw [ht9]; exact hP9, va_K.moved hW9.alike hK, hD9⟩, hS.F ht9⟩) hS.2.2 dX12_stir_65
            · refine lv_iconst (v := nI 1) hx hb dX12_stir_57 (by decide) ?_
              refine lv_goto (tgt := 62) hx hb dX12_stir_58 (by decide) ?_
              refine r_call_i (wr := []) (va_runV (As := [.int (nI 0), .int (nI k28), .int (nI 0), .int (nI 1)]) (rest := []) ⟨hx, hb, hml, hown, hts⟩ (c_m_act0 l dC dI ky H.size o (nI 0) ktape (nI 0) (nI 0) (nI 0) (nI 0) (nI 0) (nI 0) (nI 0) (nI 0) (nI 0) (nI 0) 0 (nI 0) know kread kkept ksnaps kaside kname kreadName kkeptName kisKept konces (nI 0) kpoured kfar ksides (nI 0) (-1 : Int32) (nI 0) klines kmet (nI 0) ksunk ktrying (nI 0) (-1 : Int32) (-1 : Int32) ktext (nI 0) (nI 0) kline kwritten (nI 0) (nI 0) knode (nI 0) (nI 0) (nI 0) (nI 0) knowF ksnapsF kpouredF k28 (nI 0) hN (by omega)) (cwV 4 hts gX12_stir_X12_act rfl rfl rfl (by decide +kernel) ⟨(Nat.le_of_ble_eq_true rfl), (Nat.le_of_ble_eq_true rfl)⟩) (pre_UV hK hP hD [0, 1, 2, 3] (by decide) rfl (ci := 12) (q0 := 0) rfl rfl) rfl rfl hl.1 rfl (lv_room (Nat.le_of_ble_eq_true rfl)) dX12_stir_62 ⟨(Nat.le_of_ble_eq_true rfl), (Nat.le_of_ble_eq_true rfl)⟩) hP hD hS hA [0, 1, 2, 3] [] rfl rfl (by decide) (by decide) (fun r48 u46 H locs p47 hP hD hS => ?_)
              try dsimp only at p47
              have p49 := p47
              refine W.widen (k := 0) (n := 0) (Nat.le_of_ble_eq_true rfl) (Nat.le_of_ble_eq_true rfl) ?_
              have hP : va_P (dC, dI) vwCl [] H := hP
              have hD : va_D A [] := hD
              subst p49
              have hP9 := hP.sub (ws' := []) [] rfl
              have hD9 := hD.sub (ws' := []) [] (by decide) rfl
              refine W.widen (k := 0) (n := 0) (Nat.le_of_ble_eq_true rfl) (Nat.le_of_ble_eq_true rfl) ?_
              exact W.iret (v := nI 0) hx hb hr (fun t ht9 hW9 => ⟨⟨nI 0, (), rfl, (lf_m_stir_11 o ktape know kread kkept ksnaps kaside kname kreadName kkeptName kisKept konces kpoured kfar ksides klines kmet ksunk ktrying ktext kline kwritten knode knowF ksnapsF kpouredF yn k28 r30 r35 r41 hN hok h1 h29 p31 c32 p36 c37 p42 c43), by rw [ht9]; exact hP9, va_K.moved hW9.alike hK, hD9⟩, hS.F ht9⟩) hS.2.2 dX12_stir_65
    · rcases (lf_m_stir_12 o ktape know kread kkept ksnaps kaside kname kreadName kkeptName kisKept konces kpoured kfar ksides klines kmet ksunk ktrying ktext kline kwritten knode knowF ksnapsF kpouredF n yn hN hok h1) with rfl | rfl
      · refine lv_aload_n hx hb dX12_stir_0 rfl (lv_at hl 0 rfl) ?_
        refine lv_iconst (v := nI 0) hx hb dX12_stir_1 (by decide) ?_
        refine va_put (D := (dC, dI)) (ci := 12) (v := .int (nI 0)) (ty := .int) (C := RX12) (T := TX12) (N := 52) hx hb hts hin12 tyX12 tyX12_ok nmX12 hown hK hP hD hS 0 rfl rfl 0 (by decide) (hts (.fieldLink RX12 1 "PorridgeSeaModel" "thrown" "I") (List.mem_of_getElem? (i := 1) rfl)) (fun _ h9 => h9) rfl (by decide +kernel) rfl rfl (Nat.le_of_ble_eq_true rfl) dX12_stir_2 (fun H locs hP hD hS => ?_)
        have hP : va_P (dC, dI) vwCl [(o, .inr (12, [.int (nI 0), .ref ktape, .int (nI 0), .int (nI 0), .int (nI 0), .int (nI 0), .int (nI 0), .int (nI 0), .int (nI 0), .int (nI 0), .int (nI 0), .int (nI 0), .long 0, .int (nI 0), .ref know, .ref kread, .ref kkept, .ref ksnaps, .ref kaside, .ref kname, .ref kreadName, .ref kkeptName, .ref kisKept, .ref konces, .int (nI 0), .int (nI 0), .ref kpoured, .ref kfar, .ref ksides, .int (nI 0), .int (-1 : Int32), .int (nI 0), .ref klines, .ref kmet, .int (nI 0), .ref ksunk, .ref ktrying, .int (nI 0), .int (-1 : Int32), .int (-1 : Int32), .ref ktext, .int (nI 0), .int (nI 0), .ref kline, .ref kwritten, .int (nI 0), .int (nI 0), .ref knode, .int (nI 0), .int (nI 0), .int (nI 0), .int (nI 0)])), (know, .inl (ky 0, 373, .inl knowF)), (ksnaps, .inl (ky 0, 512, .inl ksnapsF)), (kpoured, .inl (ky 0, 36, .inl kpouredF))] H := hP
        have hD : va_D A [(o, .inr (12, [.int (nI 0), .ref ktape, .int (nI 0), .int (nI 0), .int (nI 0), .int (nI 0), .int (nI 0), .int (nI 0), .int (nI 0), .int (nI 0), .int (nI 0), .int (nI 0), .long 0, .int (nI 0), .ref know, .ref kread, .ref kkept, .ref ksnaps, .ref kaside, .ref kname, .ref kreadName, .ref kkeptName, .ref kisKept, .ref konces, .int (nI 0), .int (nI 0), .ref kpoured, .ref kfar, .ref ksides, .int (nI 0), .int (-1 : Int32), .int (nI 0), .ref klines, .ref kmet, .int (nI 0), .ref ksunk, .ref ktrying, .int (nI 0), .int (-1 : Int32), .int (-1 : Int32), .ref ktext, .int (nI 0), .int (nI 0), .ref kline, .ref kwritten, .int (nI 0), .int (nI 0), .ref knode, .int (nI 0), .int (nI 0), .int (nI 0), .int (nI 0)])), (know, .inl (ky 0, 373, .inl knowF)), (ksnaps, .inl (ky 0, 512, .inl ksnapsF)), (kpoured, .inl (ky 0, 36, .inl kpouredF))] := hD
        refine lv_aload_n hx hb dX12_stir_5 rfl (lv_at hl 0 rfl) ?_
        refine lv_iconst (v := nI 0) hx hb dX12_stir_6 (by decide) ?_
        refine lv_iload_n hx hb dX12_stir_7 rfl (lv_at hl 1 rfl) ?_
        refine lv_iload_n hx hb dX12_stir_8 rfl (lv_at hl 2 rfl) ?_
        refine lv_iload_n hx hb dX12_stir_9 rfl (lv_at hl 3 rfl) ?_
        refine vp_callSi (W.runS (As := [.int (nI 1), .int (nI yn), .int (nI 0)]) (rest := [.int (nI 0), .ref o]) ⟨hx, hb, hml, hown, hts⟩ (c_m_lineOfN l dC dI ky 1 yn 0 (by omega) (by omega) (by omega)) (va_cwS 3 hts gX12_stir_X12_lineOf rfl rfl rfl (by decide +kernel) ⟨(Nat.le_of_ble_eq_true rfl), (Nat.le_of_ble_eq_true rfl)⟩) (pre_PS hK hP [] rfl) rfl rfl hl.1 rfl (lv_room (Nat.le_of_ble_eq_true rfl)) dX12_stir_10 ⟨(Nat.le_of_ble_eq_true rfl), (Nat.le_of_ble_eq_true rfl)⟩) (fun r50 p51 => ?_)
        obtain ⟨k52, h53, rfl⟩ := p51
        refine lv_iconst (v := nI 0) hx hb dX12_stir_13 (by decide) ?_
        refine lv_iload_n hx hb dX12_stir_14 rfl (lv_at hl 1 rfl) ?_
        refine lv_iconst (v := nI 0) hx hb dX12_stir_15 (by decide) ?_
        refine lv_iconst (v := nI 1) hx hb dX12_stir_16 (by decide) ?_
        refine vp_callSi (W.runS (As := [.int (nI 1), .int (nI 0), .int (nI 1)]) (rest := [.int (nI 0), .int (nI k52), .int (nI 0), .ref o]) ⟨hx, hb, hml, hown, hts⟩ (c_isIn l dC dI ky (nI 1) (nI 0) (nI 1)) (va_cwS 3 hts gX12_stir_X12_isIn rfl rfl rfl (by decide +kernel) ⟨(Nat.le_of_ble_eq_true rfl), (Nat.le_of_ble_eq_true rfl)⟩) (pre_PS hK hP [] rfl) rfl rfl hl.1 rfl (lv_room (Nat.le_of_ble_eq_true rfl)) dX12_stir_17 ⟨(Nat.le_of_ble_eq_true rfl), (Nat.le_of_ble_eq_true rfl)⟩) (fun r54 p55 => ?_)
        refine lv_if_eq (tgt := 61) hx hb dX12_stir_20 (by decide) (fun c56 => ?_) (fun c56 => ?_)
        · refine lv_iconst (v := nI 0) hx hb dX12_stir_61 (by decide) ?_
          refine vp_callSi (W.runV (As := [.int (nI 0), .int (nI k52), .int (nI 0), .int (nI 0)]) (rest := []) ⟨hx, hb, hml, hown, hts⟩ (c_m_actNo l dC dI ky o (nI 0) ktape (nI 0) (nI 0) (nI 0) (nI 0) (nI 0) (nI 0) (nI 0) (nI 0) (nI 0) (nI 0) 0 (nI 0) know kread kkept ksnaps kaside kname kreadName kkeptName kisKept konces (nI 0) (nI 0) kpoured kfar ksides (nI 0) (-1 : Int32) (nI 0) klines kmet (nI 0) ksunk ktrying (nI 0) (-1 : Int32) (-1 : Int32) ktext (nI 0) (nI 0) kline kwritten (nI 0) (nI 0) knode (nI 0) (nI 0) (nI 0) (nI 0) (nI 0) (nI k52) (nI 0)) (cwV 4 hts gX12_stir_X12_act rfl rfl rfl (by decide +kernel) ⟨(Nat.le_of_ble_eq_true rfl), (Nat.le_of_ble_eq_true rfl)⟩) (pre_PV hK hP [0] rfl (ci := 12) (q0 := 0) rfl rfl) rfl rfl hl.1 rfl (lv_room (Nat.le_of_ble_eq_true rfl)) dX12_stir_62 ⟨(Nat.le_of_ble_eq_true rfl), (Nat.le_of_ble_eq_true rfl)⟩) (fun r57 p58 => ?_)
          subst p58
          have hP9 := hP.sub (ws' := []) [] rfl
          have hD9 := hD.sub (ws' := []) [] (by decide) rfl
          refine W.widen (k := 0) (n := 0) (Nat.le_of_ble_eq_true rfl) (Nat.le_of_ble_eq_true rfl) ?_
          exact W.iret (v := (-1 : Int32)) hx hb hr (fun t ht9 hW9 => ⟨⟨(-1 : Int32), (), rfl, (lf_m_stir_13 o ktape know kread kkept ksnaps kaside kname kreadName kkeptName kisKept konces kpoured kfar ksides klines kmet ksunk ktrying ktext kline kwritten knode knowF ksnapsF kpouredF yn k52 r54 hN hok h1 h53 p55 c56), by rw [ht9]; exact hP9, va_K.moved hW9.alike hK, hD9⟩, hS.F ht9⟩) hS.2.2 dX12_stir_65
        · refine lv_iload_n hx hb dX12_stir_23 rfl (lv_at hl 3 rfl) ?_
          refine lv_iconst (v := nI 0) hx hb dX12_stir_24 (by decide) ?_
          refine lv_iconst (v := nI 1) hx hb dX12_stir_25 (by decide) ?_
          refine vp_callSi (W.runS (As := [.int (nI 0), .int (nI 0), .int (nI 1)]) (rest := [.int (nI 0), .int (nI k52), .int (nI 0), .ref o]) ⟨hx, hb, hml, hown, hts⟩ (c_isIn l dC dI ky (nI 0) (nI 0) (nI 1)) (va_cwS 3 hts gX12_stir_X12_isIn rfl rfl rfl (by decide +kernel) ⟨(Nat.le_of_ble_eq_true rfl), (Nat.le_of_ble_eq_true rfl)⟩) (pre_PS hK hP [] rfl) rfl rfl hl.1 rfl (lv_room (Nat.le_of_ble_eq_true rfl)) dX12_stir_26 ⟨(Nat.le_of_ble_eq_true rfl), (Nat.le_of_ble_eq_true rfl)⟩) (fun r59 p60 => ?_)
          refine lv_if_eq (tgt := 61) hx hb dX12_stir_29 (by decide) (fun c61 => ?_) (fun c61 => ?_)
          · refine lv_iconst (v := nI 0) hx hb dX12_stir_61 (by decide) ?_
            refine vp_callSi (W.runV (As := [.int (nI 0), .int (nI k52), .int (nI 0), .int (nI 0)]) (rest := []) ⟨hx, hb, hml, hown, hts⟩ (c_m_actNo l dC dI ky o (nI 0) ktape (nI 0) (nI 0) (nI 0) (nI 0) (nI 0) (nI 0) (nI 0) (nI 0) (nI 0) (nI 0) 0 (nI 0) know kread kkept ksnaps kaside kname kreadName kkeptName kisKept konces (nI 0) (nI 0) kpoured kfar ksides (nI 0) (-1 : Int32) (nI 0) klines kmet (nI 0) ksunk ktrying (nI 0) (-1 : Int32) (-1 : Int32) ktext (nI 0) (nI 0) kline kwritten (nI 0) (nI 0) knode (nI 0) (nI 0) (nI 0) (nI 0) (nI 0) (nI k52) (nI 0)) (cwV 4 hts gX12_stir_X12_act rfl rfl rfl (by decide +kernel) ⟨(Nat.le_of_ble_eq_true rfl), (Nat.le_of_ble_eq_true rfl)⟩) (pre_PV hK hP [0] rfl (ci := 12) (q0 := 0) rfl rfl) rfl rfl hl.1 rfl (lv_room (Nat.le_of_ble_eq_true rfl)) dX12_stir_62 ⟨(Nat.le_of_ble_eq_true rfl), (Nat.le_of_ble_eq_true rfl)⟩) (fun r62 p63 => ?_)
            subst p63
            have hP9 := hP.sub (ws' := []) [] rfl
            have hD9 := hD.sub (ws' := []) [] (by decide) rfl
            refine W.widen (k := 0) (n := 0) (Nat.le_of_ble_eq_true rfl) (Nat.le_of_ble_eq_true rfl) ?_
            exact W.iret (v := (-1 : Int32)) hx hb hr (fun t ht9 hW9 => ⟨⟨(-1 : Int32), (), rfl, (lf_m_stir_14 o ktape know kread kkept ksnaps kaside kname kreadName kkeptName kisKept konces kpoured kfar ksides klines kmet ksunk ktrying ktext kline kwritten knode knowF ksnapsF kpouredF yn k52 r54 r59 hN hok h1 h53 p55 c56 p60 c61), by rw [ht9]; exact hP9, va_K.moved hW9.alike hK, hD9⟩, hS.F ht9⟩) hS.2.2 dX12_stir_65
          · refine lv_iload_n hx hb dX12_stir_32 rfl (lv_at hl 2 rfl) ?_
            refine lv_iconst (v := nI 0) hx hb dX12_stir_33 (by decide) ?_
            refine lv_aload_n hx hb dX12_stir_34 rfl (lv_at hl 0 rfl) ?_
            refine va_get (D := (dC, dI)) (ci := 12) (v := .ref know) (C := RX12) (T := TX12) (N := 52) hx hb hts hin12 hown hK hP 0 rfl rfl 14 (by decide) (hts (.fieldLink RX12 98 "PorridgeSeaModel" "now" "[I") (List.mem_of_getElem? (i := 2) rfl)) (fun _ h9 => h9) rfl dX12_stir_35 ?_
            refine lv_iload_n hx hb dX12_stir_38 rfl (lv_at hl 1 rfl) ?_
            refine lv_iconst (v := nI 1) hx hb dX12_stir_39 (by decide) ?_
            refine lv_icmp_ne (tgt := 47) hx hb dX12_stir_40 (by decide) (fun c64 => absurd c64 (by decide)) (fun c64 => ?_)
            refine lv_iconst (v := nI 0) hx hb dX12_stir_43 (by decide) ?_
            refine lv_goto (tgt := 48) hx hb dX12_stir_44 (by decide) ?_
            refine r_iald hx hb hK hP 1 rfl 0 (by decide) (by decide) (nI 4) (NowOk.b hN).1 dX12_stir_48 ?_
            refine lv_iconst (v := nI 1) hx hb dX12_stir_49 (by decide) ?_
            refine lv_isub hx hb dX12_stir_50 ?_
            refine r_ti (nI 3) (by decide) ?_
            refine vp_callSi (W.runS (As := [.int (nI yn), .int (nI 0), .int (nI 3)]) (rest := [.int (nI 0), .int (nI k52), .int (nI 0), .ref o]) ⟨hx, hb, hml, hown, hts⟩ (c_isIn l dC dI ky (nI yn) (nI 0) (nI 3)) (va_cwS 3 hts gX12_stir_X12_isIn rfl rfl rfl (by decide +kernel) ⟨(Nat.le_of_ble_eq_true rfl), (Nat.le_of_ble_eq_true rfl)⟩) (pre_PS hK hP [] rfl) rfl rfl hl.1 rfl (lv_room (Nat.le_of_ble_eq_true rfl)) dX12_stir_51 ⟨(Nat.le_of_ble_eq_true rfl), (Nat.le_of_ble_eq_true rfl)⟩) (fun r65 p66 => ?_)
            refine lv_if_eq (tgt := 61) hx hb dX12_stir_54 (by decide) (fun c67 => ?_) (fun c67 => ?_)
            · refine lv_iconst (v := nI 0) hx hb dX12_stir_61 (by decide) ?_
              refine vp_callSi (W.runV (As := [.int (nI 0), .int (nI k52), .int (nI 0), .int (nI 0)]) (rest := []) ⟨hx, hb, hml, hown, hts⟩ (c_m_actNo l dC dI ky o (nI 0) ktape (nI 0) (nI 0) (nI 0) (nI 0) (nI 0) (nI 0) (nI 0) (nI 0) (nI 0) (nI 0) 0 (nI 0) know kread kkept ksnaps kaside kname kreadName kkeptName kisKept konces (nI 0) (nI 0) kpoured kfar ksides (nI 0) (-1 : Int32) (nI 0) klines kmet (nI 0) ksunk ktrying (nI 0) (-1 : Int32) (-1 : Int32) ktext (nI 0) (nI 0) kline kwritten (nI 0) (nI 0) knode (nI 0) (nI 0) (nI 0) (nI 0) (nI 0) (nI k52) (nI 0)) (cwV 4 hts gX12_stir_X12_act rfl rfl rfl (by decide +kernel) ⟨(Nat.le_of_ble_eq_true rfl), (Nat.le_of_ble_eq_true rfl)⟩) (pre_PV hK hP [0] rfl (ci := 12) (q0 := 0) rfl rfl) rfl rfl hl.1 rfl (lv_room (Nat.le_of_ble_eq_true rfl)) dX12_stir_62 ⟨(Nat.le_of_ble_eq_true rfl), (Nat.le_of_ble_eq_true rfl)⟩) (fun r68 p69 => ?_)
              subst p69
              have hP9 := hP.sub (ws' := []) [] rfl
              have hD9 := hD.sub (ws' := []) [] (by decide) rfl
              refine W.widen (k := 0) (n := 0) (Nat.le_of_ble_eq_true rfl) (Nat.le_of_ble_eq_true rfl) ?_
              exact W.iret (v := (-1 : Int32)) hx hb hr (fun t ht9 hW9 => ⟨⟨(-1 : Int32), (), rfl, (lf_m_stir_15 o ktape know kread kkept ksnaps kaside kname kreadName kkeptName kisKept konces kpoured kfar ksides klines kmet ksunk ktrying ktext kline kwritten knode knowF ksnapsF kpouredF yn k52 r54 r59 r65 hN hok h1 h53 p55 c56 p60 c61 p66 c67), by rw [ht9]; exact hP9, va_K.moved hW9.alike hK, hD9⟩, hS.F ht9⟩) hS.2.2 dX12_stir_65
            · refine lv_iconst (v := nI 1) hx hb dX12_stir_57 (by decide) ?_
              refine lv_goto (tgt := 62) hx hb dX12_stir_58 (by decide) ?_
              refine r_call_i (wr := []) (va_runV (As := [.int (nI 0), .int (nI k52), .int (nI 0), .int (nI 1)]) (rest := []) ⟨hx, hb, hml, hown, hts⟩ (c_m_act0 l dC dI ky H.size o (nI 0) ktape (nI 0) (nI 0) (nI 0) (nI 0) (nI 0) (nI 0) (nI 0) (nI 0) (nI 0) (nI 0) 0 (nI 0) know kread kkept ksnaps kaside kname kreadName kkeptName kisKept konces (nI 0) kpoured kfar ksides (nI 0) (-1 : Int32) (nI 0) klines kmet (nI 0) ksunk ktrying (nI 0) (-1 : Int32) (-1 : Int32) ktext (nI 0) (nI 0) kline kwritten (nI 0) (nI 0) knode (nI 0) (nI 0) (nI 0) (nI 0) knowF ksnapsF kpouredF k52 (nI 0) hN (by omega)) (cwV 4 hts gX12_stir_X12_act rfl rfl rfl (by decide +kernel) ⟨(Nat.le_of_ble_eq_true rfl), (Nat.le_of_ble_eq_true rfl)⟩) (pre_UV hK hP hD [0, 1, 2, 3] (by decide) rfl (ci := 12) (q0 := 0) rfl rfl) rfl rfl hl.1 rfl (lv_room (Nat.le_of_ble_eq_true rfl)) dX12_stir_62 ⟨(Nat.le_of_ble_eq_true rfl), (Nat.le_of_ble_eq_true rfl)⟩) hP hD hS hA [0, 1, 2, 3] [] rfl rfl (by decide) (by decide) (fun r72 u70 H locs p71 hP hD hS => ?_)
              try dsimp only at p71
              have p73 := p71
              refine W.widen (k := 0) (n := 0) (Nat.le_of_ble_eq_true rfl) (Nat.le_of_ble_eq_true rfl) ?_
              have hP : va_P (dC, dI) vwCl [] H := hP
              have hD : va_D A [] := hD
              subst p73
              have hP9 := hP.sub (ws' := []) [] rfl
              have hD9 := hD.sub (ws' := []) [] (by decide) rfl
              refine W.widen (k := 0) (n := 0) (Nat.le_of_ble_eq_true rfl) (Nat.le_of_ble_eq_true rfl) ?_
              exact W.iret (v := nI 0) hx hb hr (fun t ht9 hW9 => ⟨⟨nI 0, (), rfl, (lf_m_stir_16 o ktape know kread kkept ksnaps kaside kname kreadName kkeptName kisKept konces kpoured kfar ksides klines kmet ksunk ktrying ktext kline kwritten knode knowF ksnapsF kpouredF yn k52 r54 r59 r65 hN hok h1 h53 p55 c56 p60 c61 p66 c67), by rw [ht9]; exact hP9, va_K.moved hW9.alike hK, hD9⟩, hS.F ht9⟩) hS.2.2 dX12_stir_65
      · refine lv_aload_n hx hb dX12_stir_0 rfl (lv_at hl 0 rfl) ?_
        refine lv_iconst (v := nI 0) hx hb dX12_stir_1 (by decide) ?_
        refine va_put (D := (dC, dI)) (ci := 12) (v := .int (nI 0)) (ty := .int) (C := RX12) (T := TX12) (N := 52) hx hb hts hin12 tyX12 tyX12_ok nmX12 hown hK hP hD hS 0 rfl rfl 0 (by decide) (hts (.fieldLink RX12 1 "PorridgeSeaModel" "thrown" "I") (List.mem_of_getElem? (i := 1) rfl)) (fun _ h9 => h9) rfl (by decide +kernel) rfl rfl (Nat.le_of_ble_eq_true rfl) dX12_stir_2 (fun H locs hP hD hS => ?_)
        have hP : va_P (dC, dI) vwCl [(o, .inr (12, [.int (nI 0), .ref ktape, .int (nI 0), .int (nI 0), .int (nI 0), .int (nI 0), .int (nI 0), .int (nI 0), .int (nI 0), .int (nI 0), .int (nI 0), .int (nI 0), .long 0, .int (nI 0), .ref know, .ref kread, .ref kkept, .ref ksnaps, .ref kaside, .ref kname, .ref kreadName, .ref kkeptName, .ref kisKept, .ref konces, .int (nI 0), .int (nI 0), .ref kpoured, .ref kfar, .ref ksides, .int (nI 0), .int (-1 : Int32), .int (nI 0), .ref klines, .ref kmet, .int (nI 0), .ref ksunk, .ref ktrying, .int (nI 0), .int (-1 : Int32), .int (-1 : Int32), .ref ktext, .int (nI 0), .int (nI 0), .ref kline, .ref kwritten, .int (nI 0), .int (nI 0), .ref knode, .int (nI 0), .int (nI 0), .int (nI 0), .int (nI 0)])), (know, .inl (ky 0, 373, .inl knowF)), (ksnaps, .inl (ky 0, 512, .inl ksnapsF)), (kpoured, .inl (ky 0, 36, .inl kpouredF))] H := hP
        have hD : va_D A [(o, .inr (12, [.int (nI 0), .ref ktape, .int (nI 0), .int (nI 0), .int (nI 0), .int (nI 0), .int (nI 0), .int (nI 0), .int (nI 0), .int (nI 0), .int (nI 0), .int (nI 0), .long 0, .int (nI 0), .ref know, .ref kread, .ref kkept, .ref ksnaps, .ref kaside, .ref kname, .ref kreadName, .ref kkeptName, .ref kisKept, .ref konces, .int (nI 0), .int (nI 0), .ref kpoured, .ref kfar, .ref ksides, .int (nI 0), .int (-1 : Int32), .int (nI 0), .ref klines, .ref kmet, .int (nI 0), .ref ksunk, .ref ktrying, .int (nI 0), .int (-1 : Int32), .int (-1 : Int32), .ref ktext, .int (nI 0), .int (nI 0), .ref kline, .ref kwritten, .int (nI 0), .int (nI 0), .ref knode, .int (nI 0), .int (nI 0), .int (nI 0), .int (nI 0)])), (know, .inl (ky 0, 373, .inl knowF)), (ksnaps, .inl (ky 0, 512, .inl ksnapsF)), (kpoured, .inl (ky 0, 36, .inl kpouredF))] := hD
        refine lv_aload_n hx hb dX12_stir_5 rfl (lv_at hl 0 rfl) ?_
        refine lv_iconst (v := nI 0) hx hb dX12_stir_6 (by decide) ?_
        refine lv_iload_n hx hb dX12_stir_7 rfl (lv_at hl 1 rfl) ?_
        refine lv_iload_n hx hb dX12_stir_8 rfl (lv_at hl 2 rfl) ?_
        refine lv_iload_n hx hb dX12_stir_9 rfl (lv_at hl 3 rfl) ?_
        refine vp_callSi (W.runS (As := [.int (nI 1), .int (nI yn), .int (nI 1)]) (rest := [.int (nI 0), .ref o]) ⟨hx, hb, hml, hown, hts⟩ (c_m_lineOfN l dC dI ky 1 yn 1 (by omega) (by omega) (by omega)) (va_cwS 3 hts gX12_stir_X12_lineOf rfl rfl rfl (by decide +kernel) ⟨(Nat.le_of_ble_eq_true rfl), (Nat.le_of_ble_eq_true rfl)⟩) (pre_PS hK hP [] rfl) rfl rfl hl.1 rfl (lv_room (Nat.le_of_ble_eq_true rfl)) dX12_stir_10 ⟨(Nat.le_of_ble_eq_true rfl), (Nat.le_of_ble_eq_true rfl)⟩) (fun r74 p75 => ?_)
        obtain ⟨k76, h77, rfl⟩ := p75
        refine lv_iconst (v := nI 0) hx hb dX12_stir_13 (by decide) ?_
        refine lv_iload_n hx hb dX12_stir_14 rfl (lv_at hl 1 rfl) ?_
        refine lv_iconst (v := nI 0) hx hb dX12_stir_15 (by decide) ?_
        refine lv_iconst (v := nI 1) hx hb dX12_stir_16 (by decide) ?_
        refine vp_callSi (W.runS (As := [.int (nI 1), .int (nI 0), .int (nI 1)]) (rest := [.int (nI 0), .int (nI k76), .int (nI 0), .ref o]) ⟨hx, hb, hml, hown, hts⟩ (c_isIn l dC dI ky (nI 1) (nI 0) (nI 1)) (va_cwS 3 hts gX12_stir_X12_isIn rfl rfl rfl (by decide +kernel) ⟨(Nat.le_of_ble_eq_true rfl), (Nat.le_of_ble_eq_true rfl)⟩) (pre_PS hK hP [] rfl) rfl rfl hl.1 rfl (lv_room (Nat.le_of_ble_eq_true rfl)) dX12_stir_17 ⟨(Nat.le_of_ble_eq_true rfl), (Nat.le_of_ble_eq_true rfl)⟩) (fun r78 p79 => ?_)
        refine lv_if_eq (tgt := 61) hx hb dX12_stir_20 (by decide) (fun c80 => ?_) (fun c80 => ?_)
        · refine lv_iconst (v := nI 0) hx hb dX12_stir_61 (by decide) ?_
          refine vp_callSi (W.runV (As := [.int (nI 0), .int (nI k76), .int (nI 0), .int (nI 0)]) (rest := []) ⟨hx, hb, hml, hown, hts⟩ (c_m_actNo l dC dI ky o (nI 0) ktape (nI 0) (nI 0) (nI 0) (nI 0) (nI 0) (nI 0) (nI 0) (nI 0) (nI 0) (nI 0) 0 (nI 0) know kread kkept ksnaps kaside kname kreadName kkeptName kisKept konces (nI 0) (nI 0) kpoured kfar ksides (nI 0) (-1 : Int32) (nI 0) klines kmet (nI 0) ksunk ktrying (nI 0) (-1 : Int32) (-1 : Int32) ktext (nI 0) (nI 0) kline kwritten (nI 0) (nI 0) knode (nI 0) (nI 0) (nI 0) (nI 0) (nI 0) (nI k76) (nI 0)) (cwV 4 hts gX12_stir_X12_act rfl rfl rfl (by decide +kernel) ⟨(Nat.le_of_ble_eq_true rfl), (Nat.le_of_ble_eq_true rfl)⟩) (pre_PV hK hP [0] rfl (ci := 12) (q0 := 0) rfl rfl) rfl rfl hl.1 rfl (lv_room (Nat.le_of_ble_eq_true rfl)) dX12_stir_62 ⟨(Nat.le_of_ble_eq_true rfl), (Nat.le_of_ble_eq_true rfl)⟩) (fun r81 p82 => ?_)
          subst p82
          have hP9 := hP.sub (ws' := []) [] rfl
          have hD9 := hD.sub (ws' := []) [] (by decide) rfl
          refine W.widen (k := 0) (n := 0) (Nat.le_of_ble_eq_true rfl) (Nat.le_of_ble_eq_true rfl) ?_
          exact W.iret (v := (-1 : Int32)) hx hb hr (fun t ht9 hW9 => ⟨⟨(-1 : Int32), (), rfl, (lf_m_stir_17 o ktape know kread kkept ksnaps kaside kname kreadName kkeptName kisKept konces kpoured kfar ksides klines kmet ksunk ktrying ktext kline kwritten knode knowF ksnapsF kpouredF yn k76 r78 hN hok h1 h77 p79 c80), by rw [ht9]; exact hP9, va_K.moved hW9.alike hK, hD9⟩, hS.F ht9⟩) hS.2.2 dX12_stir_65
        · refine lv_iload_n hx hb dX12_stir_23 rfl (lv_at hl 3 rfl) ?_
          refine lv_iconst (v := nI 0) hx hb dX12_stir_24 (by decide) ?_
          refine lv_iconst (v := nI 1) hx hb dX12_stir_25 (by decide) ?_
          refine vp_callSi (W.runS (As := [.int (nI 1), .int (nI 0), .int (nI 1)]) (rest := [.int (nI 0), .int (nI k76), .int (nI 0), .ref o]) ⟨hx, hb, hml, hown, hts⟩ (c_isIn l dC dI ky (nI 1) (nI 0) (nI 1)) (va_cwS 3 hts gX12_stir_X12_isIn rfl rfl rfl (by decide +kernel) ⟨(Nat.le_of_ble_eq_true rfl), (Nat.le_of_ble_eq_true rfl)⟩) (pre_PS hK hP [] rfl) rfl rfl hl.1 rfl (lv_room (Nat.le_of_ble_eq_true rfl)) dX12_stir_26 ⟨(Nat.le_of_ble_eq_true rfl), (Nat.le_of_ble_eq_true rfl)⟩) (fun r83 p84 => ?_)
          refine lv_if_eq (tgt := 61) hx hb dX12_stir_29 (by decide) (fun c85 => ?_) (fun c85 => ?_)
          · refine lv_iconst (v := nI 0) hx hb dX12_stir_61 (by decide) ?_
            refine vp_callSi (W.runV (As := [.int (nI 0), .int (nI k76), .int (nI 0), .int (nI 0)]) (rest := []) ⟨hx, hb, hml, hown, hts⟩ (c_m_actNo l dC dI ky o (nI 0) ktape (nI 0) (nI 0) (nI 0) (nI 0) (nI 0) (nI 0) (nI 0) (nI 0) (nI 0) (nI 0) 0 (nI 0) know kread kkept ksnaps kaside kname kreadName kkeptName kisKept konces (nI 0) (nI 0) kpoured kfar ksides (nI 0) (-1 : Int32) (nI 0) klines kmet (nI 0) ksunk ktrying (nI 0) (-1 : Int32) (-1 : Int32) ktext (nI 0) (nI 0) kline kwritten (nI 0) (nI 0) knode (nI 0) (nI 0) (nI 0) (nI 0) (nI 0) (nI k76) (nI 0)) (cwV 4 hts gX12_stir_X12_act rfl rfl rfl (by decide +kernel) ⟨(Nat.le_of_ble_eq_true rfl), (Nat.le_of_ble_eq_true rfl)⟩) (pre_PV hK hP [0] rfl (ci := 12) (q0 := 0) rfl rfl) rfl rfl hl.1 rfl (lv_room (Nat.le_of_ble_eq_true rfl)) dX12_stir_62 ⟨(Nat.le_of_ble_eq_true rfl), (Nat.le_of_ble_eq_true rfl)⟩) (fun r86 p87 => ?_)
            subst p87
            have hP9 := hP.sub (ws' := []) [] rfl
            have hD9 := hD.sub (ws' := []) [] (by decide) rfl
            refine W.widen (k := 0) (n := 0) (Nat.le_of_ble_eq_true rfl) (Nat.le_of_ble_eq_true rfl) ?_
            exact W.iret (v := (-1 : Int32)) hx hb hr (fun t ht9 hW9 => ⟨⟨(-1 : Int32), (), rfl, (lf_m_stir_18 o ktape know kread kkept ksnaps kaside kname kreadName kkeptName kisKept konces kpoured kfar ksides klines kmet ksunk ktrying ktext kline kwritten knode knowF ksnapsF kpouredF yn k76 r78 r83 hN hok h1 h77 p79 c80 p84 c85), by rw [ht9]; exact hP9, va_K.moved hW9.alike hK, hD9⟩, hS.F ht9⟩) hS.2.2 dX12_stir_65
          · refine lv_iload_n hx hb dX12_stir_32 rfl (lv_at hl 2 rfl) ?_
            refine lv_iconst (v := nI 0) hx hb dX12_stir_33 (by decide) ?_
            refine lv_aload_n hx hb dX12_stir_34 rfl (lv_at hl 0 rfl) ?_
            refine va_get (D := (dC, dI)) (ci := 12) (v := .ref know) (C := RX12) (T := TX12) (N := 52) hx hb hts hin12 hown hK hP 0 rfl rfl 14 (by decide) (hts (.fieldLink RX12 98 "PorridgeSeaModel" "now" "[I") (List.mem_of_getElem? (i := 2) rfl)) (fun _ h9 => h9) rfl dX12_stir_35 ?_
            refine lv_iload_n hx hb dX12_stir_38 rfl (lv_at hl 1 rfl) ?_
            refine lv_iconst (v := nI 1) hx hb dX12_stir_39 (by decide) ?_
            refine lv_icmp_ne (tgt := 47) hx hb dX12_stir_40 (by decide) (fun c88 => absurd c88 (by decide)) (fun c88 => ?_)
            refine lv_iconst (v := nI 0) hx hb dX12_stir_43 (by decide) ?_
            refine lv_goto (tgt := 48) hx hb dX12_stir_44 (by decide) ?_
            refine r_iald hx hb hK hP 1 rfl 0 (by decide) (by decide) (nI 4) (NowOk.b hN).1 dX12_stir_48 ?_
            refine lv_iconst (v := nI 1) hx hb dX12_stir_49 (by decide) ?_
            refine lv_isub hx hb dX12_stir_50 ?_
            refine r_ti (nI 3) (by decide) ?_
            refine vp_callSi (W.runS (As := [.int (nI yn), .int (nI 0), .int (nI 3)]) (rest := [.int (nI 0), .int (nI k76), .int (nI 0), .ref o]) ⟨hx, hb, hml, hown, hts⟩ (c_isIn l dC dI ky (nI yn) (nI 0) (nI 3)) (va_cwS 3 hts gX12_stir_X12_isIn rfl rfl rfl (by decide +kernel) ⟨(Nat.le_of_ble_eq_true rfl), (Nat.le_of_ble_eq_true rfl)⟩) (pre_PS hK hP [] rfl) rfl rfl hl.1 rfl (lv_room (Nat.le_of_ble_eq_true rfl)) dX12_stir_51 ⟨(Nat.le_of_ble_eq_true rfl), (Nat.le_of_ble_eq_true rfl)⟩) (fun r89 p90 => ?_)
            refine lv_if_eq (tgt := 61) hx hb dX12_stir_54 (by decide) (fun c91 => ?_) (fun c91 => ?_)
            · refine lv_iconst (v := nI 0) hx hb dX12_stir_61 (by decide) ?_
              refine vp_callSi (W.runV (As := [.int (nI 0), .int (nI k76), .int (nI 0), .int (nI 0)]) (rest := []) ⟨hx, hb, hml, hown, hts⟩ (c_m_actNo l dC dI ky o (nI 0) ktape (nI 0) (nI 0) (nI 0) (nI 0) (nI 0) (nI 0) (nI 0) (nI 0) (nI 0) (nI 0) 0 (nI 0) know kread kkept ksnaps kaside kname kreadName kkeptName kisKept konces (nI 0) (nI 0) kpoured kfar ksides (nI 0) (-1 : Int32) (nI 0) klines kmet (nI 0) ksunk ktrying (nI 0) (-1 : Int32) (-1 : Int32) ktext (nI 0) (nI 0) kline kwritten (nI 0) (nI 0) knode (nI 0) (nI 0) (nI 0) (nI 0) (nI 0) (nI k76) (nI 0)) (cwV 4 hts gX12_stir_X12_act rfl rfl rfl (by decide +kernel) ⟨(Nat.le_of_ble_eq_true rfl), (Nat.le_of_ble_eq_true rfl)⟩) (pre_PV hK hP [0] rfl (ci := 12) (q0 := 0) rfl rfl) rfl rfl hl.1 rfl (lv_room (Nat.le_of_ble_eq_true rfl)) dX12_stir_62 ⟨(Nat.le_of_ble_eq_true rfl), (Nat.le_of_ble_eq_true rfl)⟩) (fun r92 p93 => ?_)
              subst p93
              have hP9 := hP.sub (ws' := []) [] rfl
              have hD9 := hD.sub (ws' := []) [] (by decide) rfl
              refine W.widen (k := 0) (n := 0) (Nat.le_of_ble_eq_true rfl) (Nat.le_of_ble_eq_true rfl) ?_
              exact W.iret (v := (-1 : Int32)) hx hb hr (fun t ht9 hW9 => ⟨⟨(-1 : Int32), (), rfl, (lf_m_stir_19 o ktape know kread kkept ksnaps kaside kname kreadName kkeptName kisKept konces kpoured kfar ksides klines kmet ksunk ktrying ktext kline kwritten knode knowF ksnapsF kpouredF yn k76 r78 r83 r89 hN hok h1 h77 p79 c80 p84 c85 p90 c91), by rw [ht9]; exact hP9, va_K.moved hW9.alike hK, hD9⟩, hS.F ht9⟩) hS.2.2 dX12_stir_65
            · refine lv_iconst (v := nI 1) hx hb dX12_stir_57 (by decide) ?_
              refine lv_goto (tgt := 62) hx hb dX12_stir_58 (by decide) ?_
              refine r_call_i (wr := []) (va_runV (As := [.int (nI 0), .int (nI k76), .int (nI 0), .int (nI 1)]) (rest := []) ⟨hx, hb, hml, hown, hts⟩ (c_m_act0 l dC dI ky H.size o (nI 0) ktape (nI 0) (nI 0) (nI 0) (nI 0) (nI 0) (nI 0) (nI 0) (nI 0) (nI 0) (nI 0) 0 (nI 0) know kread kkept ksnaps kaside kname kreadName kkeptName kisKept konces (nI 0) kpoured kfar ksides (nI 0) (-1 : Int32) (nI 0) klines kmet (nI 0) ksunk ktrying (nI 0) (-1 : Int32) (-1 : Int32) ktext (nI 0) (nI 0) kline kwritten (nI 0) (nI 0) knode (nI 0) (nI 0) (nI 0) (nI 0) knowF ksnapsF kpouredF k76 (nI 0) hN (by omega)) (cwV 4 hts gX12_stir_X12_act rfl rfl rfl (by decide +kernel) ⟨(Nat.le_of_ble_eq_true rfl), (Nat.le_of_ble_eq_true rfl)⟩) (pre_UV hK hP hD [0, 1, 2, 3] (by decide) rfl (ci := 12) (q0 := 0) rfl rfl) rfl rfl hl.1 rfl (lv_room (Nat.le_of_ble_eq_true rfl)) dX12_stir_62 ⟨(Nat.le_of_ble_eq_true rfl), (Nat.le_of_ble_eq_true rfl)⟩) hP hD hS hA [0, 1, 2, 3] [] rfl rfl (by decide) (by decide) (fun r96 u94 H locs p95 hP hD hS => ?_)
              try dsimp only at p95
              have p97 := p95
              refine W.widen (k := 0) (n := 0) (Nat.le_of_ble_eq_true rfl) (Nat.le_of_ble_eq_true rfl) ?_
              have hP : va_P (dC, dI) vwCl [] H := hP
              have hD : va_D A [] := hD
              subst p97
              have hP9 := hP.sub (ws' := []) [] rfl
              have hD9 := hD.sub (ws' := []) [] (by decide) rfl
              refine W.widen (k := 0) (n := 0) (Nat.le_of_ble_eq_true rfl) (Nat.le_of_ble_eq_true rfl) ?_
              exact W.iret (v := nI 0) hx hb hr (fun t ht9 hW9 => ⟨⟨nI 0, (), rfl, (lf_m_stir_20 o ktape know kread kkept ksnaps kaside kname kreadName kkeptName kisKept konces kpoured kfar ksides klines kmet ksunk ktrying ktext kline kwritten knode knowF ksnapsF kpouredF yn k76 r78 r83 r89 hN hok h1 h77 p79 c80 p84 c85 p90 c91), by rw [ht9]; exact hP9, va_K.moved hW9.alike hK, hD9⟩, hS.F ht9⟩) hS.2.2 dX12_stir_65
  · refine lv_aload_n hx hb dX12_stir_0 rfl (lv_at hl 0 rfl) ?_
    refine lv_iconst (v := nI 0) hx hb dX12_stir_1 (by decide) ?_
    refine va_put (D := (dC, dI)) (ci := 12) (v := .int (nI 0)) (ty := .int) (C := RX12) (T := TX12) (N := 52) hx hb hts hin12 tyX12 tyX12_ok nmX12 hown hK hP hD hS 0 rfl rfl 0 (by decide) (hts (.fieldLink RX12 1 "PorridgeSeaModel" "thrown" "I") (List.mem_of_getElem? (i := 1) rfl)) (fun _ h9 => h9) rfl (by decide +kernel) rfl rfl (Nat.le_of_ble_eq_true rfl) dX12_stir_2 (fun H locs hP hD hS => ?_)
    have hP : va_P (dC, dI) vwCl [(o, .inr (12, [.int (nI 0), .ref ktape, .int (nI 0), .int (nI 0), .int (nI 0), .int (nI 0), .int (nI 0), .int (nI 0), .int (nI 0), .int (nI 0), .int (nI 0), .int (nI 0), .long 0, .int (nI 0), .ref know, .ref kread, .ref kkept, .ref ksnaps, .ref kaside, .ref kname, .ref kreadName, .ref kkeptName, .ref kisKept, .ref konces, .int (nI 0), .int (nI 0), .ref kpoured, .ref kfar, .ref ksides, .int (nI 0), .int (-1 : Int32), .int (nI 0), .ref klines, .ref kmet, .int (nI 0), .ref ksunk, .ref ktrying, .int (nI 0), .int (-1 : Int32), .int (-1 : Int32), .ref ktext, .int (nI 0), .int (nI 0), .ref kline, .ref kwritten, .int (nI 0), .int (nI 0), .ref knode, .int (nI 0), .int (nI 0), .int (nI 0), .int (nI 0)])), (know, .inl (ky 0, 373, .inl knowF)), (ksnaps, .inl (ky 0, 512, .inl ksnapsF)), (kpoured, .inl (ky 0, 36, .inl kpouredF))] H := hP
    have hD : va_D A [(o, .inr (12, [.int (nI 0), .ref ktape, .int (nI 0), .int (nI 0), .int (nI 0), .int (nI 0), .int (nI 0), .int (nI 0), .int (nI 0), .int (nI 0), .int (nI 0), .int (nI 0), .long 0, .int (nI 0), .ref know, .ref kread, .ref kkept, .ref ksnaps, .ref kaside, .ref kname, .ref kreadName, .ref kkeptName, .ref kisKept, .ref konces, .int (nI 0), .int (nI 0), .ref kpoured, .ref kfar, .ref ksides, .int (nI 0), .int (-1 : Int32), .int (nI 0), .ref klines, .ref kmet, .int (nI 0), .ref ksunk, .ref ktrying, .int (nI 0), .int (-1 : Int32), .int (-1 : Int32), .ref ktext, .int (nI 0), .int (nI 0), .ref kline, .ref kwritten, .int (nI 0), .int (nI 0), .ref knode, .int (nI 0), .int (nI 0), .int (nI 0), .int (nI 0)])), (know, .inl (ky 0, 373, .inl knowF)), (ksnaps, .inl (ky 0, 512, .inl ksnapsF)), (kpoured, .inl (ky 0, 36, .inl kpouredF))] := hD
    refine lv_aload_n hx hb dX12_stir_5 rfl (lv_at hl 0 rfl) ?_
    refine lv_iconst (v := nI 0) hx hb dX12_stir_6 (by decide) ?_
    refine lv_iload_n hx hb dX12_stir_7 rfl (lv_at hl 1 rfl) ?_
    refine lv_iload_n hx hb dX12_stir_8 rfl (lv_at hl 2 rfl) ?_
    refine lv_iload_n hx hb dX12_stir_9 rfl (lv_at hl 3 rfl) ?_
    refine vp_callSi (W.runS (As := [.int x, .int y, .int n]) (rest := [.int (nI 0), .ref o]) ⟨hx, hb, hml, hown, hts⟩ (c_m_lineOf l dC dI ky x y n) (va_cwS 3 hts gX12_stir_X12_lineOf rfl rfl rfl (by decide +kernel) ⟨(Nat.le_of_ble_eq_true rfl), (Nat.le_of_ble_eq_true rfl)⟩) (pre_PS hK hP [] rfl) rfl rfl hl.1 rfl (lv_room (Nat.le_of_ble_eq_true rfl)) dX12_stir_10 ⟨(Nat.le_of_ble_eq_true rfl), (Nat.le_of_ble_eq_true rfl)⟩) (fun r98 p99 => ?_)
    refine lv_iconst (v := nI 0) hx hb dX12_stir_13 (by decide) ?_
    refine lv_iload_n hx hb dX12_stir_14 rfl (lv_at hl 1 rfl) ?_
    refine lv_iconst (v := nI 0) hx hb dX12_stir_15 (by decide) ?_
    refine lv_iconst (v := nI 1) hx hb dX12_stir_16 (by decide) ?_
    refine vp_callSi (W.runS (As := [.int x, .int (nI 0), .int (nI 1)]) (rest := [.int (nI 0), .int r98, .int (nI 0), .ref o]) ⟨hx, hb, hml, hown, hts⟩ (c_isIn l dC dI ky x (nI 0) (nI 1)) (va_cwS 3 hts gX12_stir_X12_isIn rfl rfl rfl (by decide +kernel) ⟨(Nat.le_of_ble_eq_true rfl), (Nat.le_of_ble_eq_true rfl)⟩) (pre_PS hK hP [] rfl) rfl rfl hl.1 rfl (lv_room (Nat.le_of_ble_eq_true rfl)) dX12_stir_17 ⟨(Nat.le_of_ble_eq_true rfl), (Nat.le_of_ble_eq_true rfl)⟩) (fun r100 p101 => ?_)
    refine lv_if_eq (tgt := 61) hx hb dX12_stir_20 (by decide) (fun c102 => ?_) (fun c102 => ?_)
    · refine lv_iconst (v := nI 0) hx hb dX12_stir_61 (by decide) ?_
      refine vp_callSi (W.runV (As := [.int (nI 0), .int r98, .int (nI 0), .int (nI 0)]) (rest := []) ⟨hx, hb, hml, hown, hts⟩ (c_m_actNo l dC dI ky o (nI 0) ktape (nI 0) (nI 0) (nI 0) (nI 0) (nI 0) (nI 0) (nI 0) (nI 0) (nI 0) (nI 0) 0 (nI 0) know kread kkept ksnaps kaside kname kreadName kkeptName kisKept konces (nI 0) (nI 0) kpoured kfar ksides (nI 0) (-1 : Int32) (nI 0) klines kmet (nI 0) ksunk ktrying (nI 0) (-1 : Int32) (-1 : Int32) ktext (nI 0) (nI 0) kline kwritten (nI 0) (nI 0) knode (nI 0) (nI 0) (nI 0) (nI 0) (nI 0) r98 (nI 0)) (cwV 4 hts gX12_stir_X12_act rfl rfl rfl (by decide +kernel) ⟨(Nat.le_of_ble_eq_true rfl), (Nat.le_of_ble_eq_true rfl)⟩) (pre_PV hK hP [0] rfl (ci := 12) (q0 := 0) rfl rfl) rfl rfl hl.1 rfl (lv_room (Nat.le_of_ble_eq_true rfl)) dX12_stir_62 ⟨(Nat.le_of_ble_eq_true rfl), (Nat.le_of_ble_eq_true rfl)⟩) (fun r103 p104 => ?_)
      subst p104
      have hP9 := hP.sub (ws' := []) [] rfl
      have hD9 := hD.sub (ws' := []) [] (by decide) rfl
      refine W.widen (k := 0) (n := 0) (Nat.le_of_ble_eq_true rfl) (Nat.le_of_ble_eq_true rfl) ?_
      exact W.iret (v := (-1 : Int32)) hx hb hr (fun t ht9 hW9 => ⟨⟨(-1 : Int32), (), rfl, (lf_m_stir_21 o ktape know kread kkept ksnaps kaside kname kreadName kkeptName kisKept konces kpoured kfar ksides klines kmet ksunk ktrying ktext kline kwritten knode knowF ksnapsF kpouredF x y n r98 r100 hN hnok p99 p101 c102), by rw [ht9]; exact hP9, va_K.moved hW9.alike hK, hD9⟩, hS.F ht9⟩) hS.2.2 dX12_stir_65
    · refine lv_iload_n hx hb dX12_stir_23 rfl (lv_at hl 3 rfl) ?_
      refine lv_iconst (v := nI 0) hx hb dX12_stir_24 (by decide) ?_
      refine lv_iconst (v := nI 1) hx hb dX12_stir_25 (by decide) ?_
      refine vp_callSi (W.runS (As := [.int n, .int (nI 0), .int (nI 1)]) (rest := [.int (nI 0), .int r98, .int (nI 0), .ref o]) ⟨hx, hb, hml, hown, hts⟩ (c_isIn l dC dI ky n (nI 0) (nI 1)) (va_cwS 3 hts gX12_stir_X12_isIn rfl rfl rfl (by decide +kernel) ⟨(Nat.le_of_ble_eq_true rfl), (Nat.le_of_ble_eq_true rfl)⟩) (pre_PS hK hP [] rfl) rfl rfl hl.1 rfl (lv_room (Nat.le_of_ble_eq_true rfl)) dX12_stir_26 ⟨(Nat.le_of_ble_eq_true rfl), (Nat.le_of_ble_eq_true rfl)⟩) (fun r105 p106 => ?_)
      refine lv_if_eq (tgt := 61) hx hb dX12_stir_29 (by decide) (fun c107 => ?_) (fun c107 => ?_)
      · refine lv_iconst (v := nI 0) hx hb dX12_stir_61 (by decide) ?_
        refine vp_callSi (W.runV (As := [.int (nI 0), .int r98, .int (nI 0), .int (nI 0)]) (rest := []) ⟨hx, hb, hml, hown, hts⟩ (c_m_actNo l dC dI ky o (nI 0) ktape (nI 0) (nI 0) (nI 0) (nI 0) (nI 0) (nI 0) (nI 0) (nI 0) (nI 0) (nI 0) 0 (nI 0) know kread kkept ksnaps kaside kname kreadName kkeptName kisKept konces (nI 0) (nI 0) kpoured kfar ksides (nI 0) (-1 : Int32) (nI 0) klines kmet (nI 0) ksunk ktrying (nI 0) (-1 : Int32) (-1 : Int32) ktext (nI 0) (nI 0) kline kwritten (nI 0) (nI 0) knode (nI 0) (nI 0) (nI 0) (nI 0) (nI 0) r98 (nI 0)) (cwV 4 hts gX12_stir_X12_act rfl rfl rfl (by decide +kernel) ⟨(Nat.le_of_ble_eq_true rfl), (Nat.le_of_ble_eq_true rfl)⟩) (pre_PV hK hP [0] rfl (ci := 12) (q0 := 0) rfl rfl) rfl rfl hl.1 rfl (lv_room (Nat.le_of_ble_eq_true rfl)) dX12_stir_62 ⟨(Nat.le_of_ble_eq_true rfl), (Nat.le_of_ble_eq_true rfl)⟩) (fun r108 p109 => ?_)
        subst p109
        have hP9 := hP.sub (ws' := []) [] rfl
        have hD9 := hD.sub (ws' := []) [] (by decide) rfl
        refine W.widen (k := 0) (n := 0) (Nat.le_of_ble_eq_true rfl) (Nat.le_of_ble_eq_true rfl) ?_
        exact W.iret (v := (-1 : Int32)) hx hb hr (fun t ht9 hW9 => ⟨⟨(-1 : Int32), (), rfl, (lf_m_stir_22 o ktape know kread kkept ksnaps kaside kname kreadName kkeptName kisKept konces kpoured kfar ksides klines kmet ksunk ktrying ktext kline kwritten knode knowF ksnapsF kpouredF x y n r98 r100 r105 hN hnok p99 p101 c102 p106 c107), by rw [ht9]; exact hP9, va_K.moved hW9.alike hK, hD9⟩, hS.F ht9⟩) hS.2.2 dX12_stir_65
      · refine lv_iload_n hx hb dX12_stir_32 rfl (lv_at hl 2 rfl) ?_
        refine lv_iconst (v := nI 0) hx hb dX12_stir_33 (by decide) ?_
        refine lv_aload_n hx hb dX12_stir_34 rfl (lv_at hl 0 rfl) ?_
        refine va_get (D := (dC, dI)) (ci := 12) (v := .ref know) (C := RX12) (T := TX12) (N := 52) hx hb hts hin12 hown hK hP 0 rfl rfl 14 (by decide) (hts (.fieldLink RX12 98 "PorridgeSeaModel" "now" "[I") (List.mem_of_getElem? (i := 2) rfl)) (fun _ h9 => h9) rfl dX12_stir_35 ?_
        refine lv_iload_n hx hb dX12_stir_38 rfl (lv_at hl 1 rfl) ?_
        refine lv_iconst (v := nI 1) hx hb dX12_stir_39 (by decide) ?_
        refine lv_icmp_ne (tgt := 47) hx hb dX12_stir_40 (by decide) (fun c110 => ?_) (fun c110 => ?_)
        · refine lv_iconst (v := nI 1) hx hb dX12_stir_47 (by decide) ?_
          refine r_iald hx hb hK hP 1 rfl 1 (by decide) (by decide) (nI 4) (NowOk.b hN).2.1 dX12_stir_48 ?_
          refine lv_iconst (v := nI 1) hx hb dX12_stir_49 (by decide) ?_
          refine lv_isub hx hb dX12_stir_50 ?_
          refine r_ti (nI 3) (by decide) ?_
          refine vp_callSi (W.runS (As := [.int y, .int (nI 0), .int (nI 3)]) (rest := [.int (nI 0), .int r98, .int (nI 0), .ref o]) ⟨hx, hb, hml, hown, hts⟩ (c_isIn l dC dI ky y (nI 0) (nI 3)) (va_cwS 3 hts gX12_stir_X12_isIn rfl rfl rfl (by decide +kernel) ⟨(Nat.le_of_ble_eq_true rfl), (Nat.le_of_ble_eq_true rfl)⟩) (pre_PS hK hP [] rfl) rfl rfl hl.1 rfl (lv_room (Nat.le_of_ble_eq_true rfl)) dX12_stir_51 ⟨(Nat.le_of_ble_eq_true rfl), (Nat.le_of_ble_eq_true rfl)⟩) (fun r111 p112 => ?_)
          refine lv_if_eq (tgt := 61) hx hb dX12_stir_54 (by decide) (fun c113 => ?_) (fun c113 => ?_)
          · refine lv_iconst (v := nI 0) hx hb dX12_stir_61 (by decide) ?_
            refine vp_callSi (W.runV (As := [.int (nI 0), .int r98, .int (nI 0), .int (nI 0)]) (rest := []) ⟨hx, hb, hml, hown, hts⟩ (c_m_actNo l dC dI ky o (nI 0) ktape (nI 0) (nI 0) (nI 0) (nI 0) (nI 0) (nI 0) (nI 0) (nI 0) (nI 0) (nI 0) 0 (nI 0) know kread kkept ksnaps kaside kname kreadName kkeptName kisKept konces (nI 0) (nI 0) kpoured kfar ksides (nI 0) (-1 : Int32) (nI 0) klines kmet (nI 0) ksunk ktrying (nI 0) (-1 : Int32) (-1 : Int32) ktext (nI 0) (nI 0) kline kwritten (nI 0) (nI 0) knode (nI 0) (nI 0) (nI 0) (nI 0) (nI 0) r98 (nI 0)) (cwV 4 hts gX12_stir_X12_act rfl rfl rfl (by decide +kernel) ⟨(Nat.le_of_ble_eq_true rfl), (Nat.le_of_ble_eq_true rfl)⟩) (pre_PV hK hP [0] rfl (ci := 12) (q0 := 0) rfl rfl) rfl rfl hl.1 rfl (lv_room (Nat.le_of_ble_eq_true rfl)) dX12_stir_62 ⟨(Nat.le_of_ble_eq_true rfl), (Nat.le_of_ble_eq_true rfl)⟩) (fun r114 p115 => ?_)
            subst p115
            have hP9 := hP.sub (ws' := []) [] rfl
            have hD9 := hD.sub (ws' := []) [] (by decide) rfl
            refine W.widen (k := 0) (n := 0) (Nat.le_of_ble_eq_true rfl) (Nat.le_of_ble_eq_true rfl) ?_
            exact W.iret (v := (-1 : Int32)) hx hb hr (fun t ht9 hW9 => ⟨⟨(-1 : Int32), (), rfl, (lf_m_stir_23 o ktape know kread kkept ksnaps kaside kname kreadName kkeptName kisKept konces kpoured kfar ksides klines kmet ksunk ktrying ktext kline kwritten knode knowF ksnapsF kpouredF x y n r98 r100 r105 r111 hN hnok p99 p101 c102 p106 c107 c110 p112 c113), by rw [ht9]; exact hP9, va_K.moved hW9.alike hK, hD9⟩, hS.F ht9⟩) hS.2.2 dX12_stir_65
          · exact ((lf_m_stir_24 o ktape know kread kkept ksnaps kaside kname kreadName kkeptName kisKept konces kpoured kfar ksides klines kmet ksunk ktrying ktext kline kwritten knode knowF ksnapsF kpouredF x y n r98 r100 r105 r111 hN hnok p99 p101 c102 p106 c107 c110 p112 c113)).elim
        · refine lv_iconst (v := nI 0) hx hb dX12_stir_43 (by decide) ?_
          refine lv_goto (tgt := 48) hx hb dX12_stir_44 (by decide) ?_
          refine r_iald hx hb hK hP 1 rfl 0 (by decide) (by decide) (nI 4) (NowOk.b hN).1 dX12_stir_48 ?_
          refine lv_iconst (v := nI 1) hx hb dX12_stir_49 (by decide) ?_
          refine lv_isub hx hb dX12_stir_50 ?_
          refine r_ti (nI 3) (by decide) ?_
          refine vp_callSi (W.runS (As := [.int y, .int (nI 0), .int (nI 3)]) (rest := [.int (nI 0), .int r98, .int (nI 0), .ref o]) ⟨hx, hb, hml, hown, hts⟩ (c_isIn l dC dI ky y (nI 0) (nI 3)) (va_cwS 3 hts gX12_stir_X12_isIn rfl rfl rfl (by decide +kernel) ⟨(Nat.le_of_ble_eq_true rfl), (Nat.le_of_ble_eq_true rfl)⟩) (pre_PS hK hP [] rfl) rfl rfl hl.1 rfl (lv_room (Nat.le_of_ble_eq_true rfl)) dX12_stir_51 ⟨(Nat.le_of_ble_eq_true rfl), (Nat.le_of_ble_eq_true rfl)⟩) (fun r116 p117 => ?_)
          refine lv_if_eq (tgt := 61) hx hb dX12_stir_54 (by decide) (fun c118 => ?_) (fun c118 => ?_)
          · refine lv_iconst (v := nI 0) hx hb dX12_stir_61 (by decide) ?_
            refine vp_callSi (W.runV (As := [.int (nI 0), .int r98, .int (nI 0), .int (nI 0)]) (rest := []) ⟨hx, hb, hml, hown, hts⟩ (c_m_actNo l dC dI ky o (nI 0) ktape (nI 0) (nI 0) (nI 0) (nI 0) (nI 0) (nI 0) (nI 0) (nI 0) (nI 0) (nI 0) 0 (nI 0) know kread kkept ksnaps kaside kname kreadName kkeptName kisKept konces (nI 0) (nI 0) kpoured kfar ksides (nI 0) (-1 : Int32) (nI 0) klines kmet (nI 0) ksunk ktrying (nI 0) (-1 : Int32) (-1 : Int32) ktext (nI 0) (nI 0) kline kwritten (nI 0) (nI 0) knode (nI 0) (nI 0) (nI 0) (nI 0) (nI 0) r98 (nI 0)) (cwV 4 hts gX12_stir_X12_act rfl rfl rfl (by decide +kernel) ⟨(Nat.le_of_ble_eq_true rfl), (Nat.le_of_ble_eq_true rfl)⟩) (pre_PV hK hP [0] rfl (ci := 12) (q0 := 0) rfl rfl) rfl rfl hl.1 rfl (lv_room (Nat.le_of_ble_eq_true rfl)) dX12_stir_62 ⟨(Nat.le_of_ble_eq_true rfl), (Nat.le_of_ble_eq_true rfl)⟩) (fun r119 p120 => ?_)
            subst p120
            have hP9 := hP.sub (ws' := []) [] rfl
            have hD9 := hD.sub (ws' := []) [] (by decide) rfl
            refine W.widen (k := 0) (n := 0) (Nat.le_of_ble_eq_true rfl) (Nat.le_of_ble_eq_true rfl) ?_
            exact W.iret (v := (-1 : Int32)) hx hb hr (fun t ht9 hW9 => ⟨⟨(-1 : Int32), (), rfl, (lf_m_stir_25 o ktape know kread kkept ksnaps kaside kname kreadName kkeptName kisKept konces kpoured kfar ksides klines kmet ksunk ktrying ktext kline kwritten knode knowF ksnapsF kpouredF x y n r98 r100 r105 r116 hN hnok p99 p101 c102 p106 c107 c110 p117 c118), by rw [ht9]; exact hP9, va_K.moved hW9.alike hK, hD9⟩, hS.F ht9⟩) hS.2.2 dX12_stir_65
          · exact ((lf_m_stir_26 o ktape know kread kkept ksnaps kaside kname kreadName kkeptName kisKept konces kpoured kfar ksides klines kmet ksunk ktrying ktext kline kwritten knode knowF ksnapsF kpouredF x y n r98 r100 r105 r116 hN hnok p99 p101 c102 p106 c107 c110 p117 c118)).elim
