set_option maxRecDepth 20000 in
theorem lf_q_restoreMT0_1  (t3 : (nI 0).toInt ≤ (nI 0).toInt) (t4 : (nI 0).toInt ≤ (nI 1).toInt) : (nI 1) = nI 1 := by
  try have k_0 := ia_n 0 (by first | decide | omega)
  try have k_1 := ia_n 1 (by first | decide | omega)
  try simp only [ia_lt, ia_le, ia_eq, ia_m1, ia_0, ia_1, ne_eq, true_and, and_true, false_and, and_false, or_false, false_or, or_true, true_or, not_true_eq_false, not_false_eq_true] at *
  all_goals omega
set_option maxRecDepth 20000 in
theorem lf_q_restoreMT0_2  (t3 : (nI 0).toInt ≤ (nI 0).toInt) (t4 : (nI 0).toInt ≤ (nI 1).toInt) : 0 ≤ 8 := by
  try have k_0 := ia_n 0 (by first | decide | omega)
  try have k_1 := ia_n 1 (by first | decide | omega)
  try simp only [ia_lt, ia_le, ia_eq, ia_m1, ia_0, ia_1, ne_eq, true_and, and_true, false_and, and_false, or_false, false_or, or_true, true_or, not_true_eq_false, not_false_eq_true] at *
  all_goals omega
set_option maxRecDepth 20000 in
theorem lf_q_restoreMT0_3 (kkeptF : Nat → Int32) (kisKeptF : Nat → Int32) (hw : Nat → Int32) (y7 : Int32) (k16 : Nat) (f17 : Nat → Int32) (n20 : Nat) (kb0 : KBf kkeptF kisKeptF 0) (kb1 : KBf kkeptF kisKeptF 1) (hvk : ¬ kisKeptF 0 = 0) (qi : HMk hw kkeptF 0) (t3 : (nI 0).toInt ≤ (nI 0).toInt) (t4 : (nI 0).toInt ≤ (nI 1).toInt) (e8 : y7 = kisKeptF 0) (j18 : k16 ≤ 373) (hpre : ∀ j9, j9 < k16 → f17 j9 = kkeptF (0 + j9)) (hm22 : 373 - k16 < n20 + 1) (c23 : 373 ≤ k16) : NB f17 := by
  exact NB_ext (f := fun j => kkeptF (373 * 0 + j)) (fun j h => (hpre j (by omega)).trans (congrArg kkeptF (by omega))) (kb0 (by assumption)).1
set_option maxRecDepth 20000 in
theorem lf_q_restoreMT0_4 (kkeptF : Nat → Int32) (kisKeptF : Nat → Int32) (hw : Nat → Int32) (y7 : Int32) (k16 : Nat) (f17 : Nat → Int32) (n20 : Nat) (kb0 : KBf kkeptF kisKeptF 0) (kb1 : KBf kkeptF kisKeptF 1) (hvk : ¬ kisKeptF 0 = 0) (qi : HMk hw kkeptF 0) (t3 : (nI 0).toInt ≤ (nI 0).toInt) (t4 : (nI 0).toInt ≤ (nI 1).toInt) (e8 : y7 = kisKeptF 0) (j18 : k16 ≤ 373) (hpre : ∀ j9, j9 < k16 → f17 j9 = kkeptF (0 + j9)) (hm22 : 373 - k16 < n20 + 1) (c23 : 373 ≤ k16) : SB f17 := by
  exact SB_ext (f := fun j => kkeptF (373 * 0 + j)) (fun j h => (hpre j (by omega)).trans (congrArg kkeptF (by omega))) (kb0 (by assumption)).2
set_option maxRecDepth 20000 in
theorem lf_q_restoreMT0_5 (kkeptF : Nat → Int32) (kisKeptF : Nat → Int32) (hw : Nat → Int32) (y7 : Int32) (k16 : Nat) (f17 : Nat → Int32) (n20 : Nat) (kb0 : KBf kkeptF kisKeptF 0) (kb1 : KBf kkeptF kisKeptF 1) (hvk : ¬ kisKeptF 0 = 0) (qi : HMk hw kkeptF 0) (t3 : (nI 0).toInt ≤ (nI 0).toInt) (t4 : (nI 0).toInt ≤ (nI 1).toInt) (e8 : y7 = kisKeptF 0) (j18 : k16 ≤ 373) (hpre : ∀ j9, j9 < k16 → f17 j9 = kkeptF (0 + j9)) (hm22 : 373 - k16 < n20 + 1) (c23 : 373 ≤ k16) : HMo hw f17 := by
  exact HMo_re qi (fun j h => hpre j (by omega))
set_option maxRecDepth 20000 in
theorem lf_q_restoreMT0_6 (kkeptNameF : Nat → Int64) (k30 : Nat) (n34 : Nat) (y38 : Int64) (t3 : (nI 0).toInt ≤ (nI 0).toInt) (t4 : (nI 0).toInt ≤ (nI 1).toInt) (j32 : k30 ≤ 12) (hm36 : 12 - k30 < n34 + 1) (c37 : k30 < 12) (e39 : y38 = kkeptNameF (0 + k30)) : (0 + k30) < 24 := by
  have b_y38 := Int64.toInt_lt y38
  try have k_0 := ia_n 0 (by first | decide | omega)
  try have k_1 := ia_n 1 (by first | decide | omega)
  try simp only [ia_lt, ia_le, ia_eq, ia_m1, ia_0, ia_1, ne_eq, true_and, and_true, false_and, and_false, or_false, false_or, or_true, true_or, not_true_eq_false, not_false_eq_true] at *
  all_goals omega
set_option maxRecDepth 20000 in
theorem lf_q_restoreMT0_7 (kkeptNameF : Nat → Int64) (k30 : Nat) (n34 : Nat) (y38 : Int64) (t3 : (nI 0).toInt ≤ (nI 0).toInt) (t4 : (nI 0).toInt ≤ (nI 1).toInt) (j32 : k30 ≤ 12) (hm36 : 12 - k30 < n34 + 1) (c37 : k30 < 12) (e39 : y38 = kkeptNameF (0 + k30)) : k30 < 12 := by
  have b_y38 := Int64.toInt_lt y38
  try have k_0 := ia_n 0 (by first | decide | omega)
  try have k_1 := ia_n 1 (by first | decide | omega)
  try simp only [ia_lt, ia_le, ia_eq, ia_m1, ia_0, ia_1, ne_eq, true_and, and_true, false_and, and_false, or_false, false_or, or_true, true_or, not_true_eq_false, not_false_eq_true] at *
  all_goals omega
set_option maxRecDepth 20000 in
theorem lf_q_restoreMT0_8 (kkeptNameF : Nat → Int64) (k30 : Nat) (n34 : Nat) (y38 : Int64) (t3 : (nI 0).toInt ≤ (nI 0).toInt) (t4 : (nI 0).toInt ≤ (nI 1).toInt) (j32 : k30 ≤ 12) (hm36 : 12 - k30 < n34 + 1) (c37 : k30 < 12) (e39 : y38 = kkeptNameF (0 + k30)) : (k30 + 1) ≤ 12 := by
  have b_y38 := Int64.toInt_lt y38
  try have k_0 := ia_n 0 (by first | decide | omega)
  try have k_1 := ia_n 1 (by first | decide | omega)
  try simp only [ia_lt, ia_le, ia_eq, ia_m1, ia_0, ia_1, ne_eq, true_and, and_true, false_and, and_false, or_false, false_or, or_true, true_or, not_true_eq_false, not_false_eq_true] at *
  all_goals omega
set_option maxRecDepth 20000 in
theorem lf_q_restoreMT0_9 (kkeptNameF : Nat → Int64) (k30 : Nat) (n34 : Nat) (y38 : Int64) (t3 : (nI 0).toInt ≤ (nI 0).toInt) (t4 : (nI 0).toInt ≤ (nI 1).toInt) (j32 : k30 ≤ 12) (hm36 : 12 - k30 < n34 + 1) (c37 : k30 < 12) (e39 : y38 = kkeptNameF (0 + k30)) : 12 - (k30 + 1) < n34 := by
  have b_y38 := Int64.toInt_lt y38
  try have k_0 := ia_n 0 (by first | decide | omega)
  try have k_1 := ia_n 1 (by first | decide | omega)
  try simp only [ia_lt, ia_le, ia_eq, ia_m1, ia_0, ia_1, ne_eq, true_and, and_true, false_and, and_false, or_false, false_or, or_true, true_or, not_true_eq_false, not_false_eq_true] at *
  all_goals omega
set_option maxRecDepth 20000 in
theorem lf_q_restoreMT0_10  (t3 : (nI 0).toInt ≤ (nI 0).toInt) (t4 : (nI 0).toInt ≤ (nI 1).toInt) : 0 ≤ 12 := by
  try have k_0 := ia_n 0 (by first | decide | omega)
  try have k_1 := ia_n 1 (by first | decide | omega)
  try simp only [ia_lt, ia_le, ia_eq, ia_m1, ia_0, ia_1, ne_eq, true_and, and_true, false_and, and_false, or_false, false_or, or_true, true_or, not_true_eq_false, not_false_eq_true] at *
  all_goals omega
set_option maxRecDepth 20000 in
theorem lf_q_restoreMT0_11 (kkeptF : Nat → Int32) (kisKeptF : Nat → Int32) (hw : Nat → Int32) (y7 : Int32) (k16 : Nat) (f17 : Nat → Int32) (n20 : Nat) (y42 : Int32) (kb0 : KBf kkeptF kisKeptF 0) (kb1 : KBf kkeptF kisKeptF 1) (hvk : ¬ kisKeptF 0 = 0) (qi : HMk hw kkeptF 0) (t3 : (nI 0).toInt ≤ (nI 0).toInt) (t4 : (nI 0).toInt ≤ (nI 1).toInt) (e8 : y7 = kisKeptF 0) (j18 : k16 ≤ 373) (hpre : ∀ j9, j9 < k16 → f17 j9 = kkeptF (0 + j9)) (hm22 : 373 - k16 < n20 + 1) (c23 : k16 < 373) (e43 : y42 = kkeptF (0 + k16)) : (0 + k16) < 746 := by
  have b_y7 := ia_b y7
  have b_y42 := ia_b y42
  try have k_0 := ia_n 0 (by first | decide | omega)
  try have k_1 := ia_n 1 (by first | decide | omega)
  try simp only [ia_lt, ia_le, ia_eq, ia_m1, ia_0, ia_1, ne_eq, true_and, and_true, false_and, and_false, or_false, false_or, or_true, true_or, not_true_eq_false, not_false_eq_true] at *
  all_goals omega
set_option maxRecDepth 20000 in
theorem lf_q_restoreMT0_12 (kkeptF : Nat → Int32) (kisKeptF : Nat → Int32) (hw : Nat → Int32) (y7 : Int32) (k16 : Nat) (f17 : Nat → Int32) (n20 : Nat) (y42 : Int32) (kb0 : KBf kkeptF kisKeptF 0) (kb1 : KBf kkeptF kisKeptF 1) (hvk : ¬ kisKeptF 0 = 0) (qi : HMk hw kkeptF 0) (t3 : (nI 0).toInt ≤ (nI 0).toInt) (t4 : (nI 0).toInt ≤ (nI 1).toInt) (e8 : y7 = kisKeptF 0) (j18 : k16 ≤ 373) (hpre : ∀ j9, j9 < k16 → f17 j9 = kkeptF (0 + j9)) (hm22 : 373 - k16 < n20 + 1) (c23 : k16 < 373) (e43 : y42 = kkeptF (0 + k16)) : k16 < 373 := by
  have b_y7 := ia_b y7
  have b_y42 := ia_b y42
  try have k_0 := ia_n 0 (by first | decide | omega)
  try have k_1 := ia_n 1 (by first | decide | omega)
  try simp only [ia_lt, ia_le, ia_eq, ia_m1, ia_0, ia_1, ne_eq, true_and, and_true, false_and, and_false, or_false, false_or, or_true, true_or, not_true_eq_false, not_false_eq_true] at *
  all_goals omega
set_option maxRecDepth 20000 in
theorem lf_q_restoreMT0_13 (kkeptF : Nat → Int32) (kisKeptF : Nat → Int32) (hw : Nat → Int32) (y7 : Int32) (k16 : Nat) (f17 : Nat → Int32) (n20 : Nat) (y42 : Int32) (g44 : Nat → Int32) (kb0 : KBf kkeptF kisKeptF 0) (kb1 : KBf kkeptF kisKeptF 1) (hvk : ¬ kisKeptF 0 = 0) (qi : HMk hw kkeptF 0) (t3 : (nI 0).toInt ≤ (nI 0).toInt) (t4 : (nI 0).toInt ≤ (nI 1).toInt) (e8 : y7 = kisKeptF 0) (j18 : k16 ≤ 373) (hpre : ∀ j9, j9 < k16 → f17 j9 = kkeptF (0 + j9)) (hm22 : 373 - k16 < n20 + 1) (c23 : k16 < 373) (e43 : y42 = kkeptF (0 + k16)) (e45 : g44 = upd f17 k16 y42) : (k16 + 1) ≤ 373 := by
  have b_y7 := ia_b y7
  have b_y42 := ia_b y42
  try have k_0 := ia_n 0 (by first | decide | omega)
  try have k_1 := ia_n 1 (by first | decide | omega)
  try simp only [ia_lt, ia_le, ia_eq, ia_m1, ia_0, ia_1, ne_eq, true_and, and_true, false_and, and_false, or_false, false_or, or_true, true_or, not_true_eq_false, not_false_eq_true] at *
  all_goals omega
set_option maxRecDepth 20000 in
theorem lf_q_restoreMT0_14 (kkeptF : Nat → Int32) (kisKeptF : Nat → Int32) (hw : Nat → Int32) (y7 : Int32) (k16 : Nat) (f17 : Nat → Int32) (n20 : Nat) (y42 : Int32) (g44 : Nat → Int32) (kb0 : KBf kkeptF kisKeptF 0) (kb1 : KBf kkeptF kisKeptF 1) (hvk : ¬ kisKeptF 0 = 0) (qi : HMk hw kkeptF 0) (t3 : (nI 0).toInt ≤ (nI 0).toInt) (t4 : (nI 0).toInt ≤ (nI 1).toInt) (e8 : y7 = kisKeptF 0) (j18 : k16 ≤ 373) (hpre : ∀ j9, j9 < k16 → f17 j9 = kkeptF (0 + j9)) (hm22 : 373 - k16 < n20 + 1) (c23 : k16 < 373) (e43 : y42 = kkeptF (0 + k16)) (e45 : g44 = upd f17 k16 y42) : ∀ j9, j9 < (k16 + 1) → g44 j9 = kkeptF (0 + j9) := by
  intro j9 hj9
  by_cases h9 : j9 = k16
  · rw [h9, e45, upd_eq]; exact e43
  · rw [e45, upd_ne (by omega)]; exact hpre j9 (by omega)
set_option maxRecDepth 20000 in
theorem lf_q_restoreMT0_15 (kkeptF : Nat → Int32) (kisKeptF : Nat → Int32) (hw : Nat → Int32) (y7 : Int32) (k16 : Nat) (f17 : Nat → Int32) (n20 : Nat) (y42 : Int32) (g44 : Nat → Int32) (kb0 : KBf kkeptF kisKeptF 0) (kb1 : KBf kkeptF kisKeptF 1) (hvk : ¬ kisKeptF 0 = 0) (qi : HMk hw kkeptF 0) (t3 : (nI 0).toInt ≤ (nI 0).toInt) (t4 : (nI 0).toInt ≤ (nI 1).toInt) (e8 : y7 = kisKeptF 0) (j18 : k16 ≤ 373) (hpre : ∀ j9, j9 < k16 → f17 j9 = kkeptF (0 + j9)) (hm22 : 373 - k16 < n20 + 1) (c23 : k16 < 373) (e43 : y42 = kkeptF (0 + k16)) (e45 : g44 = upd f17 k16 y42) : 373 - (k16 + 1) < n20 := by
  have b_y7 := ia_b y7
  have b_y42 := ia_b y42
  try have k_0 := ia_n 0 (by first | decide | omega)
  try have k_1 := ia_n 1 (by first | decide | omega)
  try simp only [ia_lt, ia_le, ia_eq, ia_m1, ia_0, ia_1, ne_eq, true_and, and_true, false_and, and_false, or_false, false_or, or_true, true_or, not_true_eq_false, not_false_eq_true] at *
  all_goals omega
set_option maxRecDepth 20000 in
theorem lf_q_restoreMT0_16  (t3 : (nI 0).toInt ≤ (nI 0).toInt) (t4 : (nI 0).toInt ≤ (nI 1).toInt) : 0 ≤ 373 := by
  try have k_0 := ia_n 0 (by first | decide | omega)
  try have k_1 := ia_n 1 (by first | decide | omega)
  try simp only [ia_lt, ia_le, ia_eq, ia_m1, ia_0, ia_1, ne_eq, true_and, and_true, false_and, and_false, or_false, false_or, or_true, true_or, not_true_eq_false, not_false_eq_true] at *
  all_goals omega
set_option maxRecDepth 20000 in
theorem lf_q_restoreMT0_17 (knowF : Nat → Int32) (kkeptF : Nat → Int32) (kisKeptF : Nat → Int32) (hw : Nat → Int32) (y7 : Int32) (ab_now : NB knowF) (sb_now : SB knowF) (kb0 : KBf kkeptF kisKeptF 0) (kb1 : KBf kkeptF kisKeptF 1) (hvk : ¬ kisKeptF 0 = 0) (qi : HMk hw kkeptF 0) (t3 : (nI 0).toInt ≤ (nI 0).toInt) (t4 : (nI 0).toInt ≤ (nI 1).toInt) (e8 : y7 = kisKeptF 0) : ∀ j9, j9 < 0 → knowF j9 = kkeptF (0 + j9) := by
  intro j9 hj9
  omega
set_option maxRecDepth 20000 in
theorem lf_q_restoreMT0_18  (t5 : ¬ ((nI 0).toInt ≤ (nI 0).toInt ∧ (nI 0).toInt ≤ (nI 1).toInt)) : (nI 0) = nI 1 := by
  try have k_0 := ia_n 0 (by first | decide | omega)
  try have k_1 := ia_n 1 (by first | decide | omega)
  try simp only [ia_lt, ia_le, ia_eq, ia_m1, ia_0, ia_1, ne_eq, true_and, and_true, false_and, and_false, or_false, false_or, or_true, true_or, not_true_eq_false, not_false_eq_true] at *
  all_goals omega
set_option maxRecDepth 20000 in
theorem lf_q_restoreMT0_19 (knowF : Nat → Int32) (kkeptF : Nat → Int32) (kisKeptF : Nat → Int32) (hw : Nat → Int32) (ab_now : NB knowF) (sb_now : SB knowF) (kb0 : KBf kkeptF kisKeptF 0) (kb1 : KBf kkeptF kisKeptF 1) (hvk : ¬ kisKeptF 0 = 0) (qi : HMk hw kkeptF 0) (t5 : ¬ ((nI 0).toInt ≤ (nI 0).toInt ∧ (nI 0).toInt ≤ (nI 1).toInt)) : HMo hw knowF := by
  exfalso
  try have k_0 := ia_n 0 (by first | decide | omega)
  try have k_1 := ia_n 1 (by first | decide | omega)
  try simp only [ia_lt, ia_le, ia_eq, ia_m1, ia_0, ia_1, ne_eq, true_and, and_true, false_and, and_false, or_false, false_or, or_true, true_or, not_true_eq_false, not_false_eq_true] at *
  all_goals omega
set_option maxHeartbeats 4000000 in
set_option maxRecDepth 100000 in
theorem c_q_restoreMT0 (l : Launch) (dC : Nat → ClassId) (dI : Nat → Nat → Nat) (ky : Nat → ClassId) (sz : Nat) (o : Nat) (kthrown : Int32) (ktape : Nat) (ktaped : Nat) (ksize : Nat) (klimit : Nat) (kto : Nat) (kfrom : Nat) (kkind : Int32) (knumber : Int32) (ksign : Int32) (kfault : Int32) (kplace : Int32) (kword : Int64) (ktold : Int32) (know : Nat) (kread : Nat) (kkept : Nat) (ksnaps : Nat) (kaside : Nat) (kname : Nat) (kreadName : Nat) (kkeptName : Nat) (kisKept : Nat) (konces : Nat) (ksnapMany : Nat) (khasCells : Int32) (kpoured : Nat) (kfar : Nat) (ksides : Nat) (ksideMany : Nat) (kwayDays : Int32) (khasWay : Int32) (klines : Nat) (kmet : Nat) (kmetMany : Nat) (ksunk : Nat) (ktrying : Nat) (ksunkMany : Nat) (ksending : Int32) (kfleets : Int32) (ktext : Nat) (ktexts : Nat) (kseed : Int32) (kline : Nat) (kwritten : Nat) (klineMany : Nat) (khasWritten : Int32) (knode : Nat) (knodes : Nat) (konesMany : Nat) (kwithin : Nat) (ktop : Nat) (knowF : Nat → Int32) (knameF : Nat → Int64) (kkeptF : Nat → Int32) (kkeptNameF : Nat → Int64) (kisKeptF : Nat → Int32) (hw : Nat → Int32) (iv_ko_0 : ktaped ≤ 940) (iv_ko_1 : ksize ≤ 940) (iv_ko_2 : klimit ≤ 900) (iv_ko_3 : kto ≤ ksize) (iv_ko_4 : kfrom ≤ 940) (iv_ko_5 : ksnapMany ≤ 8) (iv_ko_6 : ksideMany ≤ 36) (iv_ko_7 : kmetMany ≤ 3) (iv_ko_8 : ksunkMany ≤ 36) (iv_ko_9 : ktexts ≤ 64) (iv_ko_10 : klineMany ≤ 40) (iv_ko_11 : knodes ≤ 60) (iv_ko_12 : konesMany ≤ 20) (iv_ko_13 : kwithin ≤ 8) (iv_ko_14 : ktop ≤ 59) (ab_now : NB knowF) (sb_now : SB knowF) (kb0 : KBf kkeptF kisKeptF 0) (kb1 : KBf kkeptF kisKeptF 1) (hvk : ¬ kisKeptF 0 = 0) (qi : HMk hw kkeptF 0) : Met l yX12_restore wsX12_restore ({ frames := 1, cells := 0, slots := 0, locals := 22 }) (PcU dC dI ky [.ref o, .int (nI 0)] [(o, .inr (12, [.int kthrown, .ref ktape, .int (nI ktaped), .int (nI ksize), .int (nI klimit), .int (nI kto), .int (nI kfrom), .int kkind, .int knumber, .int ksign, .int kfault, .int kplace, .long kword, .int ktold, .ref know, .ref kread, .ref kkept, .ref ksnaps, .ref kaside, .ref kname, .ref kreadName, .ref kkeptName, .ref kisKept, .ref konces, .int (nI ksnapMany), .int khasCells, .ref kpoured, .ref kfar, .ref ksides, .int (nI ksideMany), .int kwayDays, .int khasWay, .ref klines, .ref kmet, .int (nI kmetMany), .ref ksunk, .ref ktrying, .int (nI ksunkMany), .int ksending, .int kfleets, .ref ktext, .int (nI ktexts), .int kseed, .ref kline, .ref kwritten, .int (nI klineMany), .int khasWritten, .ref knode, .int (nI knodes), .int (nI konesMany), .int (nI kwithin), .int (nI ktop)])), (know, .inl (ky 0, 373, .inl knowF)), (kname, .inl (ky 1, 12, .inr (.inl knameF))), (kkept, .inl (ky 0, 746, .inl kkeptF)), (kkeptName, .inl (ky 1, 24, .inr (.inl kkeptNameF))), (kisKept, .inl (ky 3, 2, .inl kisKeptF))] sz) (va_Qi (fun (r : Int32) (u : Int32 × Nat × (Nat → Int32) × (Nat → Int64)) => match u with | (kthrownG, ksnapManyG, knowG, knameG) => (r = nI 1) ∧ (ksnapManyG ≤ 8) ∧ (NB knowG) ∧ (SB knowG) ∧ (HMo hw knowG)) (BU dC dI ky (fun (u : Int32 × Nat × (Nat → Int32) × (Nat → Int64)) => match u with | (kthrownG, ksnapManyG, knowG, knameG) => [(o, .inr (12, [.int kthrownG, .ref ktape, .int (nI ktaped), .int (nI ksize), .int (nI klimit), .int (nI kto), .int (nI kfrom), .int kkind, .int knumber, .int ksign, .int kfault, .int kplace, .long kword, .int ktold, .ref know, .ref kread, .ref kkept, .ref ksnaps, .ref kaside, .ref kname, .ref kreadName, .ref kkeptName, .ref kisKept, .ref konces, .int (nI ksnapManyG), .int khasCells, .ref kpoured, .ref kfar, .ref ksides, .int (nI ksideMany), .int kwayDays, .int khasWay, .ref klines, .ref kmet, .int (nI kmetMany), .ref ksunk, .ref ktrying, .int (nI ksunkMany), .int ksending, .int kfleets, .ref ktext, .int (nI ktexts), .int kseed, .ref kline, .ref kwritten, .int (nI klineMany), .int khasWritten, .ref knode, .int (nI knodes), .int (nI konesMany), .int (nI kwithin), .int (nI ktop)])), (know, .inl (ky 0, 373, .inl knowG)), (kname, .inl (ky 1, 12, .inr (.inl knameG))), (kkept, .inl (ky 0, 746, .inl kkeptF)), (kkeptName, .inl (ky 1, 24, .inr (.inl kkeptNameF))), (kisKept, .inl (ky 3, 2, .inl kisKeptF))]) (va_A [(o, .inr (12, [.int kthrown, .ref ktape, .int (nI ktaped), .int (nI ksize), .int (nI klimit), .int (nI kto), .int (nI kfrom), .int kkind, .int knumber, .int ksign, .int kfault, .int kplace, .long kword, .int ktold, .ref know, .ref kread, .ref kkept, .ref ksnaps, .ref kaside, .ref kname, .ref kreadName, .ref kkeptName, .ref kisKept, .ref konces, .int (nI ksnapMany), .int khasCells, .ref kpoured, .ref kfar, .ref ksides, .int (nI ksideMany), .int kwayDays, .int khasWay, .ref klines, .ref kmet, .int (nI kmetMany), .ref ksunk, .ref ktrying, .int (nI ksunkMany), .int ksending, .int kfleets, .ref ktext, .int (nI ktexts), .int kseed, .ref kline, .ref kwritten, .int (nI klineMany), .int khasWritten, .ref knode, .int (nI knodes), .int (nI konesMany), .int (nI kwithin), .int (nI ktop)])), (know, .inl (ky 0, 373, .inl knowF)), (kname, .inl (ky 1, 12, .inr (.inl knameF))), (kkept, .inl (ky 0, 746, .inl kkeptF)), (kkeptName, .inl (ky 1, 24, .inr (.inl kkeptNameF))), (kisKept, .inl (ky 3, 2, .inl kisKeptF))] sz)) (va_A [(o, .inr (12, [.int kthrown, .ref ktape, .int (nI ktaped), .int (nI ksize), .int (nI klimit), .int (nI kto), .int (nI kfrom), .int kkind, .int knumber, .int ksign, .int kfault, .int kplace, .long kword, .int ktold, .ref know, .ref kread, .ref kkept, .ref ksnaps, .ref kaside, .ref kname, .ref kreadName, .ref kkeptName, .ref kisKept, .ref konces, .int (nI ksnapMany), .int khasCells, .ref kpoured, .ref kfar, .ref ksides, .int (nI ksideMany), .int kwayDays, .int khasWay, .ref klines, .ref kmet, .int (nI kmetMany), .ref ksunk, .ref ktrying, .int (nI ksunkMany), .int ksending, .int kfleets, .ref ktext, .int (nI ktexts), .int kseed, .ref kline, .ref kwritten, .int (nI klineMany), .int khasWritten, .ref knode, .int (nI knodes), .int (nI konesMany), .int (nI kwithin), .int (nI ktop)])), (know, .inl (ky 0, 373, .inl knowF)), (kname, .inl (ky 1, 12, .inr (.inl knameF))), (kkept, .inl (ky 0, 746, .inl kkeptF)), (kkeptName, .inl (ky 1, 24, .inr (.inl kkeptNameF))), (kisKept, .inl (ky 3, 2, .inl kisKeptF))] sz)) 0 0 (va_A [(o, .inr (12, [.int kthrown, .ref ktape, .int (nI ktaped), .int (nI ksize), .int (nI klimit), .int (nI kto), .int (nI kfrom), .int kkind, .int knumber, .int ksign, .int kfault, .int kplace, .long kword, .int ktold, .ref know, .ref kread, .ref kkept, .ref ksnaps, .ref kaside, .ref kname, .ref kreadName, .ref kkeptName, .ref kisKept, .ref konces, .int (nI ksnapMany), .int khasCells, .ref kpoured, .ref kfar, .ref ksides, .int (nI ksideMany), .int kwayDays, .int khasWay, .ref klines, .ref kmet, .int (nI kmetMany), .ref ksunk, .ref ktrying, .int (nI ksunkMany), .int ksending, .int kfleets, .ref ktext, .int (nI ktexts), .int kseed, .ref kline, .ref kwritten, .int (nI klineMany), .int khasWritten, .ref knode, .int (nI knodes), .int (nI konesMany), .int (nI kwithin), .int (nI ktop)])), (know, .inl (ky 0, 373, .inl knowF)), (kname, .inl (ky 1, 12, .inr (.inl knameF))), (kkept, .inl (ky 0, 746, .inl kkeptF)), (kkeptName, .inl (ky 1, 24, .inr (.inl kkeptNameF))), (kisKept, .inl (ky 3, 2, .inl kisKeptF))] sz) := by
  refine Met.ofW (cc := cX12_restore) (maxL := 3) (ret := (some .boolean)) (by decide) rfl ?_
  intro p e s m args below meth c s₁ B hml hv
  obtain ⟨rfl, hsz, hP, hK, hD0⟩ := hv
  have hx := B.exec
  have hb := B.bytes
  have hr := B.returns
  have hts := atoms_spec (ws := wsX12_restore) B.pre
  have hown : s.vm.findClass RX12 = some m.cls := findClass_of_methodNamed B.named
  have hlocks := B.notSynchronized
  have hin12 : ∀ w ∈ u_ws RX12 TX12 52, w ∈ wsX12_restore := by decide +kernel
  subst hsz
  have hD := hD0.self (sz := s.heap.size)
  generalize hAe : va_A [(o, .inr (12, [.int kthrown, .ref ktape, .int (nI ktaped), .int (nI ksize), .int (nI klimit), .int (nI kto), .int (nI kfrom), .int kkind, .int knumber, .int ksign, .int kfault, .int kplace, .long kword, .int ktold, .ref know, .ref kread, .ref kkept, .ref ksnaps, .ref kaside, .ref kname, .ref kreadName, .ref kkeptName, .ref kisKept, .ref konces, .int (nI ksnapMany), .int khasCells, .ref kpoured, .ref kfar, .ref ksides, .int (nI ksideMany), .int kwayDays, .int khasWay, .ref klines, .ref kmet, .int (nI kmetMany), .ref ksunk, .ref ktrying, .int (nI ksunkMany), .int ksending, .int kfleets, .ref ktext, .int (nI ktexts), .int kseed, .ref kline, .ref kwritten, .int (nI klineMany), .int khasWritten, .ref knode, .int (nI knodes), .int (nI konesMany), .int (nI kwithin), .int (nI ktop)])), (know, .inl (ky 0, 373, .inl knowF)), (kname, .inl (ky 1, 12, .inr (.inl knameF))), (kkept, .inl (ky 0, 746, .inl kkeptF)), (kkeptName, .inl (ky 1, 24, .inr (.inl kkeptNameF))), (kisKept, .inl (ky 3, 2, .inl kisKeptF))] s.heap.size = A at hD ⊢
  have hA : ∀ q : Nat, s.heap.size ≤ q → A q := fun q h => by rw [← hAe]; exact Or.inr h
  have hS : va_S A s.heap s.heap [] := va_S.rf
  have hl := lv_entry ([.ref o, .int (nI 0)]) (n := 3) (Nat.le_of_ble_eq_true rfl)
  rw [lg_entry_eq]
  generalize (lg_sl ([.ref o, .int (nI 0)]) ++ List.replicate (3 - (lg_sl ([.ref o, .int (nI 0)])).length) Slot.unset).toArray = ls at hl ⊢
  have hl : lv_has ls 3 [(0, .ref o), (1, .int (nI 0))] := hl
  refine q_name (fun Q hQ => ?_)
  generalize ([.ref o, .int (nI 0)] : List Value).toArray = args at hts hQ ⊢
  refine lv_aload_n hx hb dX12_restore_0 rfl (lv_at hl 0 rfl) ?_
  refine lv_iconst (v := nI 0) hx hb dX12_restore_1 (by decide) ?_
  refine va_put (D := (dC, dI)) (ci := 12) (v := .int (nI 0)) (ty := .int) (C := RX12) (T := TX12) (N := 52) hx hb hts hin12 tyX12 tyX12_ok nmX12 hown hK hP hD hS 0 rfl rfl 0 (by decide) (hts (.fieldLink RX12 1 "PorridgeSeaModel" "thrown" "I") (List.mem_of_getElem? (i := 1) rfl)) (fun _ h9 => h9) rfl (by decide +kernel) rfl rfl (Nat.le_of_ble_eq_true rfl) dX12_restore_2 (fun H locs hP hD hS => ?_)
  have hP : va_P (dC, dI) vwCl [(o, .inr (12, [.int (nI 0), .ref ktape, .int (nI ktaped), .int (nI ksize), .int (nI klimit), .int (nI kto), .int (nI kfrom), .int kkind, .int knumber, .int ksign, .int kfault, .int kplace, .long kword, .int ktold, .ref know, .ref kread, .ref kkept, .ref ksnaps, .ref kaside, .ref kname, .ref kreadName, .ref kkeptName, .ref kisKept, .ref konces, .int (nI ksnapMany), .int khasCells, .ref kpoured, .ref kfar, .ref ksides, .int (nI ksideMany), .int kwayDays, .int khasWay, .ref klines, .ref kmet, .int (nI kmetMany), .ref ksunk, .ref ktrying, .int (nI ksunkMany), .int ksending, .int kfleets, .ref ktext, .int (nI ktexts), .int kseed, .ref kline, .ref kwritten, .int (nI klineMany), .int khasWritten, .ref knode, .int (nI knodes), .int (nI konesMany), .int (nI kwithin), .int (nI ktop)])), (know, .inl (ky 0, 373, .inl knowF)), (kname, .inl (ky 1, 12, .inr (.inl knameF))), (kkept, .inl (ky 0, 746, .inl kkeptF)), (kkeptName, .inl (ky 1, 24, .inr (.inl kkeptNameF))), (kisKept, .inl (ky 3, 2, .inl kisKeptF))] H := hP
  have hD : va_D A [(o, .inr (12, [.int (nI 0), .ref ktape, .int (nI ktaped), .int (nI ksize), .int (nI klimit), .int (nI kto), .int (nI kfrom), .int kkind, .int knumber, .int ksign, .int kfault, .int kplace, .long kword, .int ktold, .ref know, .ref kread, .ref kkept, .ref ksnaps, .ref kaside, .ref kname, .ref kreadName, .ref kkeptName, .ref kisKept, .ref konces, .int (nI ksnapMany), .int khasCells, .ref kpoured, .ref kfar, .ref ksides, .int (nI ksideMany), .int kwayDays, .int khasWay, .ref klines, .ref kmet, .int (nI kmetMany), .ref ksunk, .ref ktrying, .int (nI ksunkMany), .int ksending, .int kfleets, .ref ktext, .int (nI ktexts), .int kseed, .ref kline, .ref kwritten, .int (nI klineMany), .int khasWritten, .ref knode, .int (nI knodes), .int (nI konesMany), .int (nI kwithin), .int (nI ktop)])), (know, .inl (ky 0, 373, .inl knowF)), (kname, .inl (ky 1, 12, .inr (.inl knameF))), (kkept, .inl (ky 0, 746, .inl kkeptF)), (kkeptName, .inl (ky 1, 24, .inr (.inl kkeptNameF))), (kisKept, .inl (ky 3, 2, .inl kisKeptF))] := hD
  refine lv_iload_n hx hb dX12_restore_5 rfl (lv_at hl 1 rfl) ?_
  refine lv_iconst (v := nI 0) hx hb dX12_restore_6 (by decide) ?_
  refine lv_iconst (v := nI 1) hx hb dX12_restore_7 (by decide) ?_
  refine vp_callSi (W.runS (As := [.int (nI 0), .int (nI 0), .int (nI 1)]) (rest := []) ⟨hx, hb, hml, hown, hts⟩ (c_x_isIn l dC dI ky (nI 0) (nI 0) (nI 1)) (va_cwS 3 hts gX12_restore_X12_isIn rfl rfl rfl (by decide +kernel) ⟨(Nat.le_of_ble_eq_true rfl), (Nat.le_of_ble_eq_true rfl)⟩) (pre_PS hK hP [] rfl) rfl rfl hl.1 rfl (lv_room (Nat.le_of_ble_eq_true rfl)) dX12_restore_8 ⟨(Nat.le_of_ble_eq_true rfl), (Nat.le_of_ble_eq_true rfl)⟩) (fun r1 p2 => ?_)
  rcases p2 with ⟨rfl, t3, t4⟩ | ⟨rfl, t5⟩
  · refine lv_if_eq (tgt := 23) hx hb dX12_restore_11 (by decide) (fun c6 => absurd c6 (by decide)) (fun c6 => ?_)
    refine lv_aload_n hx hb dX12_restore_14 rfl (lv_at hl 0 rfl) ?_
    refine va_get (D := (dC, dI)) (ci := 12) (v := .ref kisKept) (C := RX12) (T := TX12) (N := 52) hx hb hts hin12 hown hK hP 0 rfl rfl 22 (by decide) (hts (.fieldLink RX12 123 "PorridgeSeaModel" "isKept" "[Z") (List.mem_of_getElem? (i := 2) rfl)) (fun _ h9 => h9) rfl dX12_restore_15 ?_
    refine lv_iload_n hx hb dX12_restore_18 rfl (lv_at hl 1 rfl) ?_
    obtain ⟨y7, e8⟩ : ∃ z9, z9 = kisKeptF 0 := ⟨_, rfl⟩
    refine r_zald hx hb hK hP 5 rfl 0 (by decide) (by decide) y7 e8.symm dX12_restore_19 ?_
    refine lv_if_ne (tgt := 25) hx hb dX12_restore_20 (by decide) (fun c9 => ?_) (fun c9 => absurd (e8.symm.trans c9) hvk)
    refine lv_iconst (v := nI 0) hx hb dX12_restore_25 (by decide) ?_
    refine lv_istore_n (lv' := [(2, .int (nI 0)), (0, .ref o), (1, .int (nI 0))]) hx hb dX12_restore_26 rfl hl (by decide) rfl (fun ls hl => ?_)
    have hL19 : ∀ (n20 : Nat) (k16 : Nat) (f17 : Nat → Int32), (k16 ≤ 373) → (∀ j9, j9 < k16 → f17 j9 = kkeptF (0 + j9)) → 373 - k16 < n20 → ∀ (H : Heap) (locs : List Loc) (ls : Array Slot), va_P (dC, dI) vwCl [(o, .inr (12, [.int (nI 0), .ref ktape, .int (nI ktaped), .int (nI ksize), .int (nI klimit), .int (nI kto), .int (nI kfrom), .int kkind, .int knumber, .int ksign, .int kfault, .int kplace, .long kword, .int ktold, .ref know, .ref kread, .ref kkept, .ref ksnaps, .ref kaside, .ref kname, .ref kreadName, .ref kkeptName, .ref kisKept, .ref konces, .int (nI ksnapMany), .int khasCells, .ref kpoured, .ref kfar, .ref ksides, .int (nI ksideMany), .int kwayDays, .int khasWay, .ref klines, .ref kmet, .int (nI kmetMany), .ref ksunk, .ref ktrying, .int (nI ksunkMany), .int ksending, .int kfleets, .ref ktext, .int (nI ktexts), .int kseed, .ref kline, .ref kwritten, .int (nI klineMany), .int khasWritten, .ref knode, .int (nI knodes), .int (nI konesMany), .int (nI kwithin), .int (nI ktop)])), (know, .inl (ky 0, 373, .inl f17)), (kname, .inl (ky 1, 12, .inr (.inl knameF))), (kkept, .inl (ky 0, 746, .inl kkeptF)), (kkeptName, .inl (ky 1, 24, .inr (.inl kkeptNameF))), (kisKept, .inl (ky 3, 2, .inl kisKeptF))] H → va_D A [(o, .inr (12, [.int (nI 0), .ref ktape, .int (nI ktaped), .int (nI ksize), .int (nI klimit), .int (nI kto), .int (nI kfrom), .int kkind, .int knumber, .int ksign, .int kfault, .int kplace, .long kword, .int ktold, .ref know, .ref kread, .ref kkept, .ref ksnaps, .ref kaside, .ref kname, .ref kreadName, .ref kkeptName, .ref kisKept, .ref konces, .int (nI ksnapMany), .int khasCells, .ref kpoured, .ref kfar, .ref ksides, .int (nI ksideMany), .int kwayDays, .int khasWay, .ref klines, .ref kmet, .int (nI kmetMany), .ref ksunk, .ref ktrying, .int (nI ksunkMany), .int ksending, .int kfleets, .ref ktext, .int (nI ktexts), .int kseed, .ref kline, .ref kwritten, .int (nI klineMany), .int khasWritten, .ref knode, .int (nI knodes), .int (nI konesMany), .int (nI kwithin), .int (nI ktop)])), (know, .inl (ky 0, 373, .inl f17)), (kname, .inl (ky 1, 12, .inr (.inl knameF))), (kkept, .inl (ky 0, 746, .inl kkeptF)), (kkeptName, .inl (ky 1, 24, .inr (.inl kkeptNameF))), (kisKept, .inl (ky 3, 2, .inl kisKeptF))] → va_S A s.heap H locs → lv_has ls 3 [(2, .int (nI k16)), (0, .ref o), (1, .int (nI 0))] → W p l e (headSpec wsX12_restore ({ frames := 1, cells := 0, slots := 0, locals := 22 })).room s m args below meth c H locs 0 0 Q (F0 m 27 ls []) := by
      intro n20
      induction n20 with
      | zero => intro k16 f17 _ _ h9; exact absurd h9 (Nat.not_lt_zero _)
      | succ n20 ih21 =>
        intro k16 f17 j18 hpre hm22 H locs ls hP hD hS hl
        refine lv_iload_n hx hb dX12_restore_27 rfl (lv_at hl 0 rfl) ?_
        refine lv_sipush (v := nI 373) hx hb dX12_restore_28 (by decide) ?_
        refine n_icmp_ge (x := k16) (y := 373) (tgt := 58) hx hb (by omega) (by omega) dX12_restore_31 (by decide) (fun c23 => ?_) (fun c23 => ?_)
        · refine lv_iconst (v := nI 0) hx hb dX12_restore_58 (by decide) ?_
          refine lv_istore_n (lv' := [(2, .int (nI 0)), (0, .ref o), (1, .int (nI 0))]) hx hb dX12_restore_59 rfl hl (by decide) rfl (fun ls hl => ?_)
          have hL33 : ∀ (n34 : Nat) (k30 : Nat) (f31 : Nat → Int64), (k30 ≤ 12) → 12 - k30 < n34 → ∀ (H : Heap) (locs : List Loc) (ls : Array Slot), va_P (dC, dI) vwCl [(o, .inr (12, [.int (nI 0), .ref ktape, .int (nI ktaped), .int (nI ksize), .int (nI klimit), .int (nI kto), .int (nI kfrom), .int kkind, .int knumber, .int ksign, .int kfault, .int kplace, .long kword, .int ktold, .ref know, .ref kread, .ref kkept, .ref ksnaps, .ref kaside, .ref kname, .ref kreadName, .ref kkeptName, .ref kisKept, .ref konces, .int (nI ksnapMany), .int khasCells, .ref kpoured, .ref kfar, .ref ksides, .int (nI ksideMany), .int kwayDays, .int khasWay, .ref klines, .ref kmet, .int (nI kmetMany), .ref ksunk, .ref ktrying, .int (nI ksunkMany), .int ksending, .int kfleets, .ref ktext, .int (nI ktexts), .int kseed, .ref kline, .ref kwritten, .int (nI klineMany), .int khasWritten, .ref knode, .int (nI knodes), .int (nI konesMany), .int (nI kwithin), .int (nI ktop)])), (know, .inl (ky 0, 373, .inl f17)), (kname, .inl (ky 1, 12, .inr (.inl f31))), (kkept, .inl (ky 0, 746, .inl kkeptF)), (kkeptName, .inl (ky 1, 24, .inr (.inl kkeptNameF))), (kisKept, .inl (ky 3, 2, .inl kisKeptF))] H → va_D A [(o, .inr (12, [.int (nI 0), .ref ktape, .int (nI ktaped), .int (nI ksize), .int (nI klimit), .int (nI kto), .int (nI kfrom), .int kkind, .int knumber, .int ksign, .int kfault, .int kplace, .long kword, .int ktold, .ref know, .ref kread, .ref kkept, .ref ksnaps, .ref kaside, .ref kname, .ref kreadName, .ref kkeptName, .ref kisKept, .ref konces, .int (nI ksnapMany), .int khasCells, .ref kpoured, .ref kfar, .ref ksides, .int (nI ksideMany), .int kwayDays, .int khasWay, .ref klines, .ref kmet, .int (nI kmetMany), .ref ksunk, .ref ktrying, .int (nI ksunkMany), .int ksending, .int kfleets, .ref ktext, .int (nI ktexts), .int kseed, .ref kline, .ref kwritten, .int (nI klineMany), .int khasWritten, .ref knode, .int (nI knodes), .int (nI konesMany), .int (nI kwithin), .int (nI ktop)])), (know, .inl (ky 0, 373, .inl f17)), (kname, .inl (ky 1, 12, .inr (.inl f31))), (kkept, .inl (ky 0, 746, .inl kkeptF)), (kkeptName, .inl (ky 1, 24, .inr (.inl kkeptNameF))), (kisKept, .inl (ky 3, 2, .inl kisKeptF))] → va_S A s.heap H locs → lv_has ls 3 [(2, .int (nI k30)), (0, .ref o), (1, .int (nI 0))] → W p l e (headSpec wsX12_restore ({ frames := 1, cells := 0, slots := 0, locals := 22 })).room s m args below meth c H locs 0 0 Q (F0 m 60 ls []) := by
            intro n34
            induction n34 with
            | zero => intro k30 f31 _ h9; exact absurd h9 (Nat.not_lt_zero _)
            | succ n34 ih35 =>
              intro k30 f31 j32 hm36 H locs ls hP hD hS hl
              refine lv_iload_n hx hb dX12_restore_60 rfl (lv_at hl 0 rfl) ?_
              refine lv_bipush (v := nI 12) hx hb dX12_restore_61 (by decide) ?_
              refine n_icmp_ge (x := k30) (y := 12) (tgt := 89) hx hb (by omega) (by omega) dX12_restore_63 (by decide) (fun c37 => ?_) (fun c37 => ?_)
              · refine lv_aload_n hx hb dX12_restore_89 rfl (lv_at hl 1 rfl) ?_
                refine lv_iconst (v := nI 0) hx hb dX12_restore_90 (by decide) ?_
                refine va_put (D := (dC, dI)) (ci := 12) (v := .int (nI 0)) (ty := .int) (C := RX12) (T := TX12) (N := 52) hx hb hts hin12 tyX12 tyX12_ok nmX12 hown hK hP hD hS 0 rfl rfl 24 (by decide) (hts (.fieldLink RX12 237 "PorridgeSeaModel" "snapMany" "I") (List.mem_of_getElem? (i := 7) rfl)) (fun _ h9 => h9) rfl (by decide +kernel) rfl rfl (Nat.le_of_ble_eq_true rfl) dX12_restore_91 (fun H locs hP hD hS => ?_)
                have hP : va_P (dC, dI) vwCl [(o, .inr (12, [.int (nI 0), .ref ktape, .int (nI ktaped), .int (nI ksize), .int (nI klimit), .int (nI kto), .int (nI kfrom), .int kkind, .int knumber, .int ksign, .int kfault, .int kplace, .long kword, .int ktold, .ref know, .ref kread, .ref kkept, .ref ksnaps, .ref kaside, .ref kname, .ref kreadName, .ref kkeptName, .ref kisKept, .ref konces, .int (nI 0), .int khasCells, .ref kpoured, .ref kfar, .ref ksides, .int (nI ksideMany), .int kwayDays, .int khasWay, .ref klines, .ref kmet, .int (nI kmetMany), .ref ksunk, .ref ktrying, .int (nI ksunkMany), .int ksending, .int kfleets, .ref ktext, .int (nI ktexts), .int kseed, .ref kline, .ref kwritten, .int (nI klineMany), .int khasWritten, .ref knode, .int (nI knodes), .int (nI konesMany), .int (nI kwithin), .int (nI ktop)])), (know, .inl (ky 0, 373, .inl f17)), (kname, .inl (ky 1, 12, .inr (.inl f31))), (kkept, .inl (ky 0, 746, .inl kkeptF)), (kkeptName, .inl (ky 1, 24, .inr (.inl kkeptNameF))), (kisKept, .inl (ky 3, 2, .inl kisKeptF))] H := hP
                have hD : va_D A [(o, .inr (12, [.int (nI 0), .ref ktape, .int (nI ktaped), .int (nI ksize), .int (nI klimit), .int (nI kto), .int (nI kfrom), .int kkind, .int knumber, .int ksign, .int kfault, .int kplace, .long kword, .int ktold, .ref know, .ref kread, .ref kkept, .ref ksnaps, .ref kaside, .ref kname, .ref kreadName, .ref kkeptName, .ref kisKept, .ref konces, .int (nI 0), .int khasCells, .ref kpoured, .ref kfar, .ref ksides, .int (nI ksideMany), .int kwayDays, .int khasWay, .ref klines, .ref kmet, .int (nI kmetMany), .ref ksunk, .ref ktrying, .int (nI ksunkMany), .int ksending, .int kfleets, .ref ktext, .int (nI ktexts), .int kseed, .ref kline, .ref kwritten, .int (nI klineMany), .int khasWritten, .ref knode, .int (nI knodes), .int (nI konesMany), .int (nI kwithin), .int (nI ktop)])), (know, .inl (ky 0, 373, .inl f17)), (kname, .inl (ky 1, 12, .inr (.inl f31))), (kkept, .inl (ky 0, 746, .inl kkeptF)), (kkeptName, .inl (ky 1, 24, .inr (.inl kkeptNameF))), (kisKept, .inl (ky 3, 2, .inl kisKeptF))] := hD
                refine lv_iconst (v := nI 1) hx hb dX12_restore_94 (by decide) ?_
                rw [hQ]
                exact W.zret (v := nI 1) hx hb hr (by decide) (fun t9 ht9 hW9 => ⟨⟨nI 1, (nI 0, 0, f17, f31), rfl, ⟨(lf_q_restoreMT0_1 t3 t4), (lf_q_restoreMT0_2 t3 t4), (lf_q_restoreMT0_3 kkeptF kisKeptF hw y7 k16 f17 n20 kb0 kb1 hvk qi t3 t4 e8 j18 hpre hm22 c23), (lf_q_restoreMT0_4 kkeptF kisKeptF hw y7 k16 f17 n20 kb0 kb1 hvk qi t3 t4 e8 j18 hpre hm22 c23), (lf_q_restoreMT0_5 kkeptF kisKeptF hw y7 k16 f17 n20 kb0 kb1 hvk qi t3 t4 e8 j18 hpre hm22 c23)⟩, by rw [ht9]; exact hP, va_K.moved hW9.alike hK, hD⟩, hS.F ht9⟩) hS.2.2 dX12_restore_95
              · refine lv_aload_n hx hb dX12_restore_66 rfl (lv_at hl 1 rfl) ?_
                refine va_get (D := (dC, dI)) (ci := 12) (v := .ref kname) (C := RX12) (T := TX12) (N := 52) hx hb hts hin12 hown hK hP 0 rfl rfl 19 (by decide) (hts (.fieldLink RX12 113 "PorridgeSeaModel" "name" "[J") (List.mem_of_getElem? (i := 5) rfl)) (fun _ h9 => h9) rfl dX12_restore_67 ?_
                refine lv_iload_n hx hb dX12_restore_70 rfl (lv_at hl 0 rfl) ?_
                refine lv_aload_n hx hb dX12_restore_71 rfl (lv_at hl 1 rfl) ?_
                refine va_get (D := (dC, dI)) (ci := 12) (v := .ref kkeptName) (C := RX12) (T := TX12) (N := 52) hx hb hts hin12 hown hK hP 0 rfl rfl 21 (by decide) (hts (.fieldLink RX12 120 "PorridgeSeaModel" "keptName" "[J") (List.mem_of_getElem? (i := 6) rfl)) (fun _ h9 => h9) rfl dX12_restore_72 ?_
                refine lv_bipush (v := nI 12) hx hb dX12_restore_75 (by decide) ?_
                refine lv_iload_n hx hb dX12_restore_77 rfl (lv_at hl 2 rfl) ?_
                refine lv_imul hx hb dX12_restore_78 ?_
                refine r_ti (nI 0) (by decide) ?_
                refine lv_iload_n hx hb dX12_restore_79 rfl (lv_at hl 0 rfl) ?_
                refine lv_iadd hx hb dX12_restore_80 ?_
                refine r_ti (nI (0 + k30)) (nI_add _ _) ?_
                obtain ⟨y38, e39⟩ : ∃ z9, z9 = kkeptNameF (0 + k30) := ⟨_, rfl⟩
                refine r_lald hx hb hK hP 4 rfl (0 + k30) (lf_q_restoreMT0_6 kkeptNameF k30 n34 y38 t3 t4 j32 hm36 c37 e39) (by decide) y38 e39.symm dX12_restore_81 ?_
                refine r_last (x := y38) hx hb hK hP hD hS 2 rfl k30 (lf_q_restoreMT0_7 kkeptNameF k30 n34 y38 t3 t4 j32 hm36 c37 e39) (by decide) dX12_restore_82 (fun H locs hP hD hS => ?_)
                obtain ⟨g40, e41⟩ : ∃ z9, z9 = vp_updL f31 k30 y38 := ⟨_, rfl⟩
                rw [← e41] at hP hD
                have hP : va_P (dC, dI) vwCl [(o, .inr (12, [.int (nI 0), .ref ktape, .int (nI ktaped), .int (nI ksize), .int (nI klimit), .int (nI kto), .int (nI kfrom), .int kkind, .int knumber, .int ksign, .int kfault, .int kplace, .long kword, .int ktold, .ref know, .ref kread, .ref kkept, .ref ksnaps, .ref kaside, .ref kname, .ref kreadName, .ref kkeptName, .ref kisKept, .ref konces, .int (nI ksnapMany), .int khasCells, .ref kpoured, .ref kfar, .ref ksides, .int (nI ksideMany), .int kwayDays, .int khasWay, .ref klines, .ref kmet, .int (nI kmetMany), .ref ksunk, .ref ktrying, .int (nI ksunkMany), .int ksending, .int kfleets, .ref ktext, .int (nI ktexts), .int kseed, .ref kline, .ref kwritten, .int (nI klineMany), .int khasWritten, .ref knode, .int (nI knodes), .int (nI konesMany), .int (nI kwithin), .int (nI ktop)])), (know, .inl (ky 0, 373, .inl f17)), (kname, .inl (ky 1, 12, .inr (.inl g40))), (kkept, .inl (ky 0, 746, .inl kkeptF)), (kkeptName, .inl (ky 1, 24, .inr (.inl kkeptNameF))), (kisKept, .inl (ky 3, 2, .inl kisKeptF))] H := hP
                have hD : va_D A [(o, .inr (12, [.int (nI 0), .ref ktape, .int (nI ktaped), .int (nI ksize), .int (nI klimit), .int (nI kto), .int (nI kfrom), .int kkind, .int knumber, .int ksign, .int kfault, .int kplace, .long kword, .int ktold, .ref know, .ref kread, .ref kkept, .ref ksnaps, .ref kaside, .ref kname, .ref kreadName, .ref kkeptName, .ref kisKept, .ref konces, .int (nI ksnapMany), .int khasCells, .ref kpoured, .ref kfar, .ref ksides, .int (nI ksideMany), .int kwayDays, .int khasWay, .ref klines, .ref kmet, .int (nI kmetMany), .ref ksunk, .ref ktrying, .int (nI ksunkMany), .int ksending, .int kfleets, .ref ktext, .int (nI ktexts), .int kseed, .ref kline, .ref kwritten, .int (nI klineMany), .int khasWritten, .ref knode, .int (nI knodes), .int (nI konesMany), .int (nI kwithin), .int (nI ktop)])), (know, .inl (ky 0, 373, .inl f17)), (kname, .inl (ky 1, 12, .inr (.inl g40))), (kkept, .inl (ky 0, 746, .inl kkeptF)), (kkeptName, .inl (ky 1, 24, .inr (.inl kkeptNameF))), (kisKept, .inl (ky 3, 2, .inl kisKeptF))] := hD
                refine lv_iinc (v := nI (k30 + 1)) (lv' := [(2, .int (nI (k30 + 1))), (0, .ref o), (1, .int (nI 0))]) hx hb dX12_restore_83 hl (k := 0) rfl (show nI k30 + nI 1 = nI (k30 + 1) from nI_add _ _) (by decide) rfl (fun ls hl => ?_)
                refine lv_goto (tgt := 60) hx hb dX12_restore_86 (by decide) ?_
                exact ih35 (k30 + 1) g40 (lf_q_restoreMT0_8 kkeptNameF k30 n34 y38 t3 t4 j32 hm36 c37 e39) (lf_q_restoreMT0_9 kkeptNameF k30 n34 y38 t3 t4 j32 hm36 c37 e39) _ _ _ hP hD hS (lv_sub hl [0, 1, 2] rfl)
          exact hL33 ((12 - 0) + 1) 0 knameF (lf_q_restoreMT0_10 t3 t4) (Nat.lt_succ_self _) _ _ _ hP hD hS (lv_sub hl [0, 1, 2] rfl)
        · refine lv_aload_n hx hb dX12_restore_34 rfl (lv_at hl 1 rfl) ?_
          refine va_get (D := (dC, dI)) (ci := 12) (v := .ref know) (C := RX12) (T := TX12) (N := 52) hx hb hts hin12 hown hK hP 0 rfl rfl 14 (by decide) (hts (.fieldLink RX12 98 "PorridgeSeaModel" "now" "[I") (List.mem_of_getElem? (i := 3) rfl)) (fun _ h9 => h9) rfl dX12_restore_35 ?_
          refine lv_iload_n hx hb dX12_restore_38 rfl (lv_at hl 0 rfl) ?_
          refine lv_aload_n hx hb dX12_restore_39 rfl (lv_at hl 1 rfl) ?_
          refine va_get (D := (dC, dI)) (ci := 12) (v := .ref kkept) (C := RX12) (T := TX12) (N := 52) hx hb hts hin12 hown hK hP 0 rfl rfl 16 (by decide) (hts (.fieldLink RX12 104 "PorridgeSeaModel" "kept" "[I") (List.mem_of_getElem? (i := 4) rfl)) (fun _ h9 => h9) rfl dX12_restore_40 ?_
          refine lv_sipush (v := nI 373) hx hb dX12_restore_43 (by decide) ?_
          refine lv_iload_n hx hb dX12_restore_46 rfl (lv_at hl 2 rfl) ?_
          refine lv_imul hx hb dX12_restore_47 ?_
          refine r_ti (nI 0) (by decide) ?_
          refine lv_iload_n hx hb dX12_restore_48 rfl (lv_at hl 0 rfl) ?_
          refine lv_iadd hx hb dX12_restore_49 ?_
          refine r_ti (nI (0 + k16)) (nI_add _ _) ?_
          obtain ⟨y42, e43⟩ : ∃ z9, z9 = kkeptF (0 + k16) := ⟨_, rfl⟩
          refine r_iald hx hb hK hP 3 rfl (0 + k16) (lf_q_restoreMT0_11 kkeptF kisKeptF hw y7 k16 f17 n20 y42 kb0 kb1 hvk qi t3 t4 e8 j18 hpre hm22 c23 e43) (by decide) y42 e43.symm dX12_restore_50 ?_
          refine r_iast (x := y42) hx hb hK hP hD hS 1 rfl k16 (lf_q_restoreMT0_12 kkeptF kisKeptF hw y7 k16 f17 n20 y42 kb0 kb1 hvk qi t3 t4 e8 j18 hpre hm22 c23 e43) (by decide) dX12_restore_51 (fun H locs hP hD hS => ?_)
          obtain ⟨g44, e45⟩ : ∃ z9, z9 = upd f17 k16 y42 := ⟨_, rfl⟩
          rw [← e45] at hP hD
          have hP : va_P (dC, dI) vwCl [(o, .inr (12, [.int (nI 0), .ref ktape, .int (nI ktaped), .int (nI ksize), .int (nI klimit), .int (nI kto), .int (nI kfrom), .int kkind, .int knumber, .int ksign, .int kfault, .int kplace, .long kword, .int ktold, .ref know, .ref kread, .ref kkept, .ref ksnaps, .ref kaside, .ref kname, .ref kreadName, .ref kkeptName, .ref kisKept, .ref konces, .int (nI ksnapMany), .int khasCells, .ref kpoured, .ref kfar, .ref ksides, .int (nI ksideMany), .int kwayDays, .int khasWay, .ref klines, .ref kmet, .int (nI kmetMany), .ref ksunk, .ref ktrying, .int (nI ksunkMany), .int ksending, .int kfleets, .ref ktext, .int (nI ktexts), .int kseed, .ref kline, .ref kwritten, .int (nI klineMany), .int khasWritten, .ref knode, .int (nI knodes), .int (nI konesMany), .int (nI kwithin), .int (nI ktop)])), (know, .inl (ky 0, 373, .inl g44)), (kname, .inl (ky 1, 12, .inr (.inl knameF))), (kkept, .inl (ky 0, 746, .inl kkeptF)), (kkeptName, .inl (ky 1, 24, .inr (.inl kkeptNameF))), (kisKept, .inl (ky 3, 2, .inl kisKeptF))] H := hP
          have hD : va_D A [(o, .inr (12, [.int (nI 0), .ref ktape, .int (nI ktaped), .int (nI ksize), .int (nI klimit), .int (nI kto), .int (nI kfrom), .int kkind, .int knumber, .int ksign, .int kfault, .int kplace, .long kword, .int ktold, .ref know, .ref kread, .ref kkept, .ref ksnaps, .ref kaside, .ref kname, .ref kreadName, .ref kkeptName, .ref kisKept, .ref konces, .int (nI ksnapMany), .int khasCells, .ref kpoured, .ref kfar, .ref ksides, .int (nI ksideMany), .int kwayDays, .int khasWay, .ref klines, .ref kmet, .int (nI kmetMany), .ref ksunk, .ref ktrying, .int (nI ksunkMany), .int ksending, .int kfleets, .ref ktext, .int (nI ktexts), .int kseed, .ref kline, .ref kwritten, .int (nI klineMany), .int khasWritten, .ref knode, .int (nI knodes), .int (nI konesMany), .int (nI kwithin), .int (nI ktop)])), (know, .inl (ky 0, 373, .inl g44)), (kname, .inl (ky 1, 12, .inr (.inl knameF))), (kkept, .inl (ky 0, 746, .inl kkeptF)), (kkeptName, .inl (ky 1, 24, .inr (.inl kkeptNameF))), (kisKept, .inl (ky 3, 2, .inl kisKeptF))] := hD
          refine lv_iinc (v := nI (k16 + 1)) (lv' := [(2, .int (nI (k16 + 1))), (0, .ref o), (1, .int (nI 0))]) hx hb dX12_restore_52 hl (k := 0) rfl (show nI k16 + nI 1 = nI (k16 + 1) from nI_add _ _) (by decide) rfl (fun ls hl => ?_)
          refine lv_goto (tgt := 27) hx hb dX12_restore_55 (by decide) ?_
          exact ih21 (k16 + 1) g44 (lf_q_restoreMT0_13 kkeptF kisKeptF hw y7 k16 f17 n20 y42 g44 kb0 kb1 hvk qi t3 t4 e8 j18 hpre hm22 c23 e43 e45) (lf_q_restoreMT0_14 kkeptF kisKeptF hw y7 k16 f17 n20 y42 g44 kb0 kb1 hvk qi t3 t4 e8 j18 hpre hm22 c23 e43 e45) (lf_q_restoreMT0_15 kkeptF kisKeptF hw y7 k16 f17 n20 y42 g44 kb0 kb1 hvk qi t3 t4 e8 j18 hpre hm22 c23 e43 e45) _ _ _ hP hD hS (lv_sub hl [0, 1, 2] rfl)
    exact hL19 ((373 - 0) + 1) 0 knowF (lf_q_restoreMT0_16 t3 t4) (lf_q_restoreMT0_17 knowF kkeptF kisKeptF hw y7 ab_now sb_now kb0 kb1 hvk qi t3 t4 e8) (Nat.lt_succ_self _) _ _ _ hP hD hS (lv_sub hl [0, 1, 2] rfl)
  · refine lv_if_eq (tgt := 23) hx hb dX12_restore_11 (by decide) (fun c46 => ?_) (fun c46 => absurd (by decide) c46)
    refine lv_iconst (v := nI 0) hx hb dX12_restore_23 (by decide) ?_
    rw [hQ]
    exact W.zret (v := nI 0) hx hb hr (by decide) (fun t9 ht9 hW9 => ⟨⟨nI 0, (nI 0, ksnapMany, knowF, knameF), rfl, ⟨(lf_q_restoreMT0_18 t5), iv_ko_5, ab_now, sb_now, (lf_q_restoreMT0_19 knowF kkeptF kisKeptF hw ab_now sb_now kb0 kb1 hvk qi t5)⟩, by rw [ht9]; exact hP, va_K.moved hW9.alike hK, hD⟩, hS.F ht9⟩) hS.2.2 dX12_restore_24
set_option maxRecDepth 20000 in
theorem lf_q_restoreMF0_1  (t3 : (nI 0).toInt ≤ (nI 0).toInt) (t4 : (nI 0).toInt ≤ (nI 1).toInt) : (nI 0) = nI 0 := by
  try have k_0 := ia_n 0 (by first | decide | omega)
  try have k_1 := ia_n 1 (by first | decide | omega)
  try simp only [ia_lt, ia_le, ia_eq, ia_m1, ia_0, ia_1, ne_eq, true_and, and_true, false_and, and_false, or_false, false_or, or_true, true_or, not_true_eq_false, not_false_eq_true] at *
  all_goals omega
set_option maxRecDepth 20000 in
theorem lf_q_restoreMF0_2  (t5 : ¬ ((nI 0).toInt ≤ (nI 0).toInt ∧ (nI 0).toInt ≤ (nI 1).toInt)) : (nI 0) = nI 0 := by
  try have k_0 := ia_n 0 (by first | decide | omega)
  try have k_1 := ia_n 1 (by first | decide | omega)
  try simp only [ia_lt, ia_le, ia_eq, ia_m1, ia_0, ia_1, ne_eq, true_and, and_true, false_and, and_false, or_false, false_or, or_true, true_or, not_true_eq_false, not_false_eq_true] at *
  all_goals omega
set_option maxHeartbeats 4000000 in
set_option maxRecDepth 100000 in
theorem c_q_restoreMF0 (l : Launch) (dC : Nat → ClassId) (dI : Nat → Nat → Nat) (ky : Nat → ClassId) (sz : Nat) (o : Nat) (kthrown : Int32) (ktape : Nat) (ktaped : Nat) (ksize : Nat) (klimit : Nat) (kto : Nat) (kfrom : Nat) (kkind : Int32) (knumber : Int32) (ksign : Int32) (kfault : Int32) (kplace : Int32) (kword : Int64) (ktold : Int32) (know : Nat) (kread : Nat) (kkept : Nat) (ksnaps : Nat) (kaside : Nat) (kname : Nat) (kreadName : Nat) (kkeptName : Nat) (kisKept : Nat) (konces : Nat) (ksnapMany : Nat) (khasCells : Int32) (kpoured : Nat) (kfar : Nat) (ksides : Nat) (ksideMany : Nat) (kwayDays : Int32) (khasWay : Int32) (klines : Nat) (kmet : Nat) (kmetMany : Nat) (ksunk : Nat) (ktrying : Nat) (ksunkMany : Nat) (ksending : Int32) (kfleets : Int32) (ktext : Nat) (ktexts : Nat) (kseed : Int32) (kline : Nat) (kwritten : Nat) (klineMany : Nat) (khasWritten : Int32) (knode : Nat) (knodes : Nat) (konesMany : Nat) (kwithin : Nat) (ktop : Nat) (kisKeptF : Nat → Int32) (iv_ko_0 : ktaped ≤ 940) (iv_ko_1 : ksize ≤ 940) (iv_ko_2 : klimit ≤ 900) (iv_ko_3 : kto ≤ ksize) (iv_ko_4 : kfrom ≤ 940) (iv_ko_5 : ksnapMany ≤ 8) (iv_ko_6 : ksideMany ≤ 36) (iv_ko_7 : kmetMany ≤ 3) (iv_ko_8 : ksunkMany ≤ 36) (iv_ko_9 : ktexts ≤ 64) (iv_ko_10 : klineMany ≤ 40) (iv_ko_11 : knodes ≤ 60) (iv_ko_12 : konesMany ≤ 20) (iv_ko_13 : kwithin ≤ 8) (iv_ko_14 : ktop ≤ 59) (hvk : kisKeptF 0 = 0) : Met l yX12_restore wsX12_restore ({ frames := 1, cells := 0, slots := 0, locals := 22 }) (PcU dC dI ky [.ref o, .int (nI 0)] [(o, .inr (12, [.int kthrown, .ref ktape, .int (nI ktaped), .int (nI ksize), .int (nI klimit), .int (nI kto), .int (nI kfrom), .int kkind, .int knumber, .int ksign, .int kfault, .int kplace, .long kword, .int ktold, .ref know, .ref kread, .ref kkept, .ref ksnaps, .ref kaside, .ref kname, .ref kreadName, .ref kkeptName, .ref kisKept, .ref konces, .int (nI ksnapMany), .int khasCells, .ref kpoured, .ref kfar, .ref ksides, .int (nI ksideMany), .int kwayDays, .int khasWay, .ref klines, .ref kmet, .int (nI kmetMany), .ref ksunk, .ref ktrying, .int (nI ksunkMany), .int ksending, .int kfleets, .ref ktext, .int (nI ktexts), .int kseed, .ref kline, .ref kwritten, .int (nI klineMany), .int khasWritten, .ref knode, .int (nI knodes), .int (nI konesMany), .int (nI kwithin), .int (nI ktop)])), (kisKept, .inl (ky 3, 2, .inl kisKeptF))] sz) (va_Qi (fun (r : Int32) (kthrownG : Int32) => r = nI 0) (BU dC dI ky (fun (kthrownG : Int32) => [(o, .inr (12, [.int kthrownG, .ref ktape, .int (nI ktaped), .int (nI ksize), .int (nI klimit), .int (nI kto), .int (nI kfrom), .int kkind, .int knumber, .int ksign, .int kfault, .int kplace, .long kword, .int ktold, .ref know, .ref kread, .ref kkept, .ref ksnaps, .ref kaside, .ref kname, .ref kreadName, .ref kkeptName, .ref kisKept, .ref konces, .int (nI ksnapMany), .int khasCells, .ref kpoured, .ref kfar, .ref ksides, .int (nI ksideMany), .int kwayDays, .int khasWay, .ref klines, .ref kmet, .int (nI kmetMany), .ref ksunk, .ref ktrying, .int (nI ksunkMany), .int ksending, .int kfleets, .ref ktext, .int (nI ktexts), .int kseed, .ref kline, .ref kwritten, .int (nI klineMany), .int khasWritten, .ref knode, .int (nI knodes), .int (nI konesMany), .int (nI kwithin), .int (nI ktop)])), (kisKept, .inl (ky 3, 2, .inl kisKeptF))]) (va_A [(o, .inr (12, [.int kthrown, .ref ktape, .int (nI ktaped), .int (nI ksize), .int (nI klimit), .int (nI kto), .int (nI kfrom), .int kkind, .int knumber, .int ksign, .int kfault, .int kplace, .long kword, .int ktold, .ref know, .ref kread, .ref kkept, .ref ksnaps, .ref kaside, .ref kname, .ref kreadName, .ref kkeptName, .ref kisKept, .ref konces, .int (nI ksnapMany), .int khasCells, .ref kpoured, .ref kfar, .ref ksides, .int (nI ksideMany), .int kwayDays, .int khasWay, .ref klines, .ref kmet, .int (nI kmetMany), .ref ksunk, .ref ktrying, .int (nI ksunkMany), .int ksending, .int kfleets, .ref ktext, .int (nI ktexts), .int kseed, .ref kline, .ref kwritten, .int (nI klineMany), .int khasWritten, .ref knode, .int (nI knodes), .int (nI konesMany), .int (nI kwithin), .int (nI ktop)])), (kisKept, .inl (ky 3, 2, .inl kisKeptF))] sz)) (va_A [(o, .inr (12, [.int kthrown, .ref ktape, .int (nI ktaped), .int (nI ksize), .int (nI klimit), .int (nI kto), .int (nI kfrom), .int kkind, .int knumber, .int ksign, .int kfault, .int kplace, .long kword, .int ktold, .ref know, .ref kread, .ref kkept, .ref ksnaps, .ref kaside, .ref kname, .ref kreadName, .ref kkeptName, .ref kisKept, .ref konces, .int (nI ksnapMany), .int khasCells, .ref kpoured, .ref kfar, .ref ksides, .int (nI ksideMany), .int kwayDays, .int khasWay, .ref klines, .ref kmet, .int (nI kmetMany), .ref ksunk, .ref ktrying, .int (nI ksunkMany), .int ksending, .int kfleets, .ref ktext, .int (nI ktexts), .int kseed, .ref kline, .ref kwritten, .int (nI klineMany), .int khasWritten, .ref knode, .int (nI knodes), .int (nI konesMany), .int (nI kwithin), .int (nI ktop)])), (kisKept, .inl (ky 3, 2, .inl kisKeptF))] sz)) 0 0 (va_A [(o, .inr (12, [.int kthrown, .ref ktape, .int (nI ktaped), .int (nI ksize), .int (nI klimit), .int (nI kto), .int (nI kfrom), .int kkind, .int knumber, .int ksign, .int kfault, .int kplace, .long kword, .int ktold, .ref know, .ref kread, .ref kkept, .ref ksnaps, .ref kaside, .ref kname, .ref kreadName, .ref kkeptName, .ref kisKept, .ref konces, .int (nI ksnapMany), .int khasCells, .ref kpoured, .ref kfar, .ref ksides, .int (nI ksideMany), .int kwayDays, .int khasWay, .ref klines, .ref kmet, .int (nI kmetMany), .ref ksunk, .ref ktrying, .int (nI ksunkMany), .int ksending, .int kfleets, .ref ktext, .int (nI ktexts), .int kseed, .ref kline, .ref kwritten, .int (nI klineMany), .int khasWritten, .ref knode, .int (nI knodes), .int (nI konesMany), .int (nI kwithin), .int (nI ktop)])), (kisKept, .inl (ky 3, 2, .inl kisKeptF))] sz) := by
  refine Met.ofW (cc := cX12_restore) (maxL := 3) (ret := (some .boolean)) (by decide) rfl ?_
  intro p e s m args below meth c s₁ B hml hv
  obtain ⟨rfl, hsz, hP, hK, hD0⟩ := hv
  have hx := B.exec
  have hb := B.bytes
  have hr := B.returns
  have hts := atoms_spec (ws := wsX12_restore) B.pre
  have hown : s.vm.findClass RX12 = some m.cls := findClass_of_methodNamed B.named
  have hlocks := B.notSynchronized
  have hin12 : ∀ w ∈ u_ws RX12 TX12 52, w ∈ wsX12_restore := by decide +kernel
  subst hsz
  have hD := hD0.self (sz := s.heap.size)
  generalize hAe : va_A [(o, .inr (12, [.int kthrown, .ref ktape, .int (nI ktaped), .int (nI ksize), .int (nI klimit), .int (nI kto), .int (nI kfrom), .int kkind, .int knumber, .int ksign, .int kfault, .int kplace, .long kword, .int ktold, .ref know, .ref kread, .ref kkept, .ref ksnaps, .ref kaside, .ref kname, .ref kreadName, .ref kkeptName, .ref kisKept, .ref konces, .int (nI ksnapMany), .int khasCells, .ref kpoured, .ref kfar, .ref ksides, .int (nI ksideMany), .int kwayDays, .int khasWay, .ref klines, .ref kmet, .int (nI kmetMany), .ref ksunk, .ref ktrying, .int (nI ksunkMany), .int ksending, .int kfleets, .ref ktext, .int (nI ktexts), .int kseed, .ref kline, .ref kwritten, .int (nI klineMany), .int khasWritten, .ref knode, .int (nI knodes), .int (nI konesMany), .int (nI kwithin), .int (nI ktop)])), (kisKept, .inl (ky 3, 2, .inl kisKeptF))] s.heap.size = A at hD ⊢
  have hA : ∀ q : Nat, s.heap.size ≤ q → A q := fun q h => by rw [← hAe]; exact Or.inr h
  have hS : va_S A s.heap s.heap [] := va_S.rf
  have hl := lv_entry ([.ref o, .int (nI 0)]) (n := 3) (Nat.le_of_ble_eq_true rfl)
  rw [lg_entry_eq]
  generalize (lg_sl ([.ref o, .int (nI 0)]) ++ List.replicate (3 - (lg_sl ([.ref o, .int (nI 0)])).length) Slot.unset).toArray = ls at hl ⊢
  have hl : lv_has ls 3 [(0, .ref o), (1, .int (nI 0))] := hl
  refine q_name (fun Q hQ => ?_)
  generalize ([.ref o, .int (nI 0)] : List Value).toArray = args at hts hQ ⊢
  refine lv_aload_n hx hb dX12_restore_0 rfl (lv_at hl 0 rfl) ?_
  refine lv_iconst (v := nI 0) hx hb dX12_restore_1 (by decide) ?_
  refine va_put (D := (dC, dI)) (ci := 12) (v := .int (nI 0)) (ty := .int) (C := RX12) (T := TX12) (N := 52) hx hb hts hin12 tyX12 tyX12_ok nmX12 hown hK hP hD hS 0 rfl rfl 0 (by decide) (hts (.fieldLink RX12 1 "PorridgeSeaModel" "thrown" "I") (List.mem_of_getElem? (i := 1) rfl)) (fun _ h9 => h9) rfl (by decide +kernel) rfl rfl (Nat.le_of_ble_eq_true rfl) dX12_restore_2 (fun H locs hP hD hS => ?_)
  have hP : va_P (dC, dI) vwCl [(o, .inr (12, [.int (nI 0), .ref ktape, .int (nI ktaped), .int (nI ksize), .int (nI klimit), .int (nI kto), .int (nI kfrom), .int kkind, .int knumber, .int ksign, .int kfault, .int kplace, .long kword, .int ktold, .ref know, .ref kread, .ref kkept, .ref ksnaps, .ref kaside, .ref kname, .ref kreadName, .ref kkeptName, .ref kisKept, .ref konces, .int (nI ksnapMany), .int khasCells, .ref kpoured, .ref kfar, .ref ksides, .int (nI ksideMany), .int kwayDays, .int khasWay, .ref klines, .ref kmet, .int (nI kmetMany), .ref ksunk, .ref ktrying, .int (nI ksunkMany), .int ksending, .int kfleets, .ref ktext, .int (nI ktexts), .int kseed, .ref kline, .ref kwritten, .int (nI klineMany), .int khasWritten, .ref knode, .int (nI knodes), .int (nI konesMany), .int (nI kwithin), .int (nI ktop)])), (kisKept, .inl (ky 3, 2, .inl kisKeptF))] H := hP
  have hD : va_D A [(o, .inr (12, [.int (nI 0), .ref ktape, .int (nI ktaped), .int (nI ksize), .int (nI klimit), .int (nI kto), .int (nI kfrom), .int kkind, .int knumber, .int ksign, .int kfault, .int kplace, .long kword, .int ktold, .ref know, .ref kread, .ref kkept, .ref ksnaps, .ref kaside, .ref kname, .ref kreadName, .ref kkeptName, .ref kisKept, .ref konces, .int (nI ksnapMany), .int khasCells, .ref kpoured, .ref kfar, .ref ksides, .int (nI ksideMany), .int kwayDays, .int khasWay, .ref klines, .ref kmet, .int (nI kmetMany), .ref ksunk, .ref ktrying, .int (nI ksunkMany), .int ksending, .int kfleets, .ref ktext, .int (nI ktexts), .int kseed, .ref kline, .ref kwritten, .int (nI klineMany), .int khasWritten, .ref knode, .int (nI knodes), .int (nI konesMany), .int (nI kwithin), .int (nI ktop)])), (kisKept, .inl (ky 3, 2, .inl kisKeptF))] := hD
  refine lv_iload_n hx hb dX12_restore_5 rfl (lv_at hl 1 rfl) ?_
  refine lv_iconst (v := nI 0) hx hb dX12_restore_6 (by decide) ?_
  refine lv_iconst (v := nI 1) hx hb dX12_restore_7 (by decide) ?_
  refine vp_callSi (W.runS (As := [.int (nI 0), .int (nI 0), .int (nI 1)]) (rest := []) ⟨hx, hb, hml, hown, hts⟩ (c_x_isIn l dC dI ky (nI 0) (nI 0) (nI 1)) (va_cwS 3 hts gX12_restore_X12_isIn rfl rfl rfl (by decide +kernel) ⟨(Nat.le_of_ble_eq_true rfl), (Nat.le_of_ble_eq_true rfl)⟩) (pre_PS hK hP [] rfl) rfl rfl hl.1 rfl (lv_room (Nat.le_of_ble_eq_true rfl)) dX12_restore_8 ⟨(Nat.le_of_ble_eq_true rfl), (Nat.le_of_ble_eq_true rfl)⟩) (fun r1 p2 => ?_)
  rcases p2 with ⟨rfl, t3, t4⟩ | ⟨rfl, t5⟩
  · refine lv_if_eq (tgt := 23) hx hb dX12_restore_11 (by decide) (fun c6 => absurd c6 (by decide)) (fun c6 => ?_)
    refine lv_aload_n hx hb dX12_restore_14 rfl (lv_at hl 0 rfl) ?_
    refine va_get (D := (dC, dI)) (ci := 12) (v := .ref kisKept) (C := RX12) (T := TX12) (N := 52) hx hb hts hin12 hown hK hP 0 rfl rfl 22 (by decide) (hts (.fieldLink RX12 123 "PorridgeSeaModel" "isKept" "[Z") (List.mem_of_getElem? (i := 2) rfl)) (fun _ h9 => h9) rfl dX12_restore_15 ?_
    refine lv_iload_n hx hb dX12_restore_18 rfl (lv_at hl 1 rfl) ?_
    obtain ⟨y7, e8⟩ : ∃ z9, z9 = kisKeptF 0 := ⟨_, rfl⟩
    refine r_zald hx hb hK hP 1 rfl 0 (by decide) (by decide) y7 e8.symm dX12_restore_19 ?_
    refine lv_if_ne (tgt := 25) hx hb dX12_restore_20 (by decide) (fun c9 => absurd (e8.trans hvk) c9) (fun c9 => ?_)
    refine lv_iconst (v := nI 0) hx hb dX12_restore_23 (by decide) ?_
    rw [hQ]
    exact W.zret (v := nI 0) hx hb hr (by decide) (fun t9 ht9 hW9 => ⟨⟨nI 0, (nI 0), rfl, (lf_q_restoreMF0_1 t3 t4), by rw [ht9]; exact hP, va_K.moved hW9.alike hK, hD⟩, hS.F ht9⟩) hS.2.2 dX12_restore_24
  · refine lv_if_eq (tgt := 23) hx hb dX12_restore_11 (by decide) (fun c10 => ?_) (fun c10 => absurd (by decide) c10)
    refine lv_iconst (v := nI 0) hx hb dX12_restore_23 (by decide) ?_
    rw [hQ]
    exact W.zret (v := nI 0) hx hb hr (by decide) (fun t9 ht9 hW9 => ⟨⟨nI 0, (nI 0), rfl, (lf_q_restoreMF0_2 t5), by rw [ht9]; exact hP, va_K.moved hW9.alike hK, hD⟩, hS.F ht9⟩) hS.2.2 dX12_restore_24
set_option maxRecDepth 20000 in
theorem lf_q_restoreMT1_1  (t3 : (nI 0).toInt ≤ (nI 1).toInt) (t4 : (nI 1).toInt ≤ (nI 1).toInt) : (nI 1) = nI 1 := by
  try have k_0 := ia_n 0 (by first | decide | omega)
  try have k_1 := ia_n 1 (by first | decide | omega)
  try simp only [ia_lt, ia_le, ia_eq, ia_m1, ia_0, ia_1, ne_eq, true_and, and_true, false_and, and_false, or_false, false_or, or_true, true_or, not_true_eq_false, not_false_eq_true] at *
  all_goals omega
set_option maxRecDepth 20000 in
theorem lf_q_restoreMT1_2  (t3 : (nI 0).toInt ≤ (nI 1).toInt) (t4 : (nI 1).toInt ≤ (nI 1).toInt) : 0 ≤ 8 := by
  try have k_0 := ia_n 0 (by first | decide | omega)
  try have k_1 := ia_n 1 (by first | decide | omega)
  try simp only [ia_lt, ia_le, ia_eq, ia_m1, ia_0, ia_1, ne_eq, true_and, and_true, false_and, and_false, or_false, false_or, or_true, true_or, not_true_eq_false, not_false_eq_true] at *
  all_goals omega
set_option maxRecDepth 20000 in
theorem lf_q_restoreMT1_3 (kkeptF : Nat → Int32) (kisKeptF : Nat → Int32) (hw : Nat → Int32) (y7 : Int32) (k16 : Nat) (f17 : Nat → Int32) (n20 : Nat) (kb0 : KBf kkeptF kisKeptF 0) (kb1 : KBf kkeptF kisKeptF 1) (hvk : ¬ kisKeptF 1 = 0) (qi : HMk hw kkeptF 373) (t3 : (nI 0).toInt ≤ (nI 1).toInt) (t4 : (nI 1).toInt ≤ (nI 1).toInt) (e8 : y7 = kisKeptF 1) (j18 : k16 ≤ 373) (hpre : ∀ j9, j9 < k16 → f17 j9 = kkeptF (373 + j9)) (hm22 : 373 - k16 < n20 + 1) (c23 : 373 ≤ k16) : NB f17 := by
  exact NB_ext (f := fun j => kkeptF (373 * 1 + j)) (fun j h => (hpre j (by omega)).trans (congrArg kkeptF (by omega))) (kb1 (by assumption)).1
set_option maxRecDepth 20000 in
theorem lf_q_restoreMT1_4 (kkeptF : Nat → Int32) (kisKeptF : Nat → Int32) (hw : Nat → Int32) (y7 : Int32) (k16 : Nat) (f17 : Nat → Int32) (n20 : Nat) (kb0 : KBf kkeptF kisKeptF 0) (kb1 : KBf kkeptF kisKeptF 1) (hvk : ¬ kisKeptF 1 = 0) (qi : HMk hw kkeptF 373) (t3 : (nI 0).toInt ≤ (nI 1).toInt) (t4 : (nI 1).toInt ≤ (nI 1).toInt) (e8 : y7 = kisKeptF 1) (j18 : k16 ≤ 373) (hpre : ∀ j9, j9 < k16 → f17 j9 = kkeptF (373 + j9)) (hm22 : 373 - k16 < n20 + 1) (c23 : 373 ≤ k16) : SB f17 := by
  exact SB_ext (f := fun j => kkeptF (373 * 1 + j)) (fun j h => (hpre j (by omega)).trans (congrArg kkeptF (by omega))) (kb1 (by assumption)).2
set_option maxRecDepth 20000 in
theorem lf_q_restoreMT1_5 (kkeptF : Nat → Int32) (kisKeptF : Nat → Int32) (hw : Nat → Int32) (y7 : Int32) (k16 : Nat) (f17 : Nat → Int32) (n20 : Nat) (kb0 : KBf kkeptF kisKeptF 0) (kb1 : KBf kkeptF kisKeptF 1) (hvk : ¬ kisKeptF 1 = 0) (qi : HMk hw kkeptF 373) (t3 : (nI 0).toInt ≤ (nI 1).toInt) (t4 : (nI 1).toInt ≤ (nI 1).toInt) (e8 : y7 = kisKeptF 1) (j18 : k16 ≤ 373) (hpre : ∀ j9, j9 < k16 → f17 j9 = kkeptF (373 + j9)) (hm22 : 373 - k16 < n20 + 1) (c23 : 373 ≤ k16) : HMo hw f17 := by
  exact HMo_re qi (fun j h => hpre j (by omega))
set_option maxRecDepth 20000 in
theorem lf_q_restoreMT1_6 (kkeptNameF : Nat → Int64) (k30 : Nat) (n34 : Nat) (y38 : Int64) (t3 : (nI 0).toInt ≤ (nI 1).toInt) (t4 : (nI 1).toInt ≤ (nI 1).toInt) (j32 : k30 ≤ 12) (hm36 : 12 - k30 < n34 + 1) (c37 : k30 < 12) (e39 : y38 = kkeptNameF (12 + k30)) : (12 + k30) < 24 := by
  have b_y38 := Int64.toInt_lt y38
  try have k_0 := ia_n 0 (by first | decide | omega)
  try have k_1 := ia_n 1 (by first | decide | omega)
  try simp only [ia_lt, ia_le, ia_eq, ia_m1, ia_0, ia_1, ne_eq, true_and, and_true, false_and, and_false, or_false, false_or, or_true, true_or, not_true_eq_false, not_false_eq_true] at *
  all_goals omega
set_option maxRecDepth 20000 in
theorem lf_q_restoreMT1_7 (kkeptNameF : Nat → Int64) (k30 : Nat) (n34 : Nat) (y38 : Int64) (t3 : (nI 0).toInt ≤ (nI 1).toInt) (t4 : (nI 1).toInt ≤ (nI 1).toInt) (j32 : k30 ≤ 12) (hm36 : 12 - k30 < n34 + 1) (c37 : k30 < 12) (e39 : y38 = kkeptNameF (12 + k30)) : k30 < 12 := by
  have b_y38 := Int64.toInt_lt y38
  try have k_0 := ia_n 0 (by first | decide | omega)
  try have k_1 := ia_n 1 (by first | decide | omega)
  try simp only [ia_lt, ia_le, ia_eq, ia_m1, ia_0, ia_1, ne_eq, true_and, and_true, false_and, and_false, or_false, false_or, or_true, true_or, not_true_eq_false, not_false_eq_true] at *
  all_goals omega
set_option maxRecDepth 20000 in
theorem lf_q_restoreMT1_8 (kkeptNameF : Nat → Int64) (k30 : Nat) (n34 : Nat) (y38 : Int64) (t3 : (nI 0).toInt ≤ (nI 1).toInt) (t4 : (nI 1).toInt ≤ (nI 1).toInt) (j32 : k30 ≤ 12) (hm36 : 12 - k30 < n34 + 1) (c37 : k30 < 12) (e39 : y38 = kkeptNameF (12 + k30)) : (k30 + 1) ≤ 12 := by
  have b_y38 := Int64.toInt_lt y38
  try have k_0 := ia_n 0 (by first | decide | omega)
  try have k_1 := ia_n 1 (by first | decide | omega)
  try simp only [ia_lt, ia_le, ia_eq, ia_m1, ia_0, ia_1, ne_eq, true_and, and_true, false_and, and_false, or_false, false_or, or_true, true_or, not_true_eq_false, not_false_eq_true] at *
  all_goals omega
set_option maxRecDepth 20000 in
theorem lf_q_restoreMT1_9 (kkeptNameF : Nat → Int64) (k30 : Nat) (n34 : Nat) (y38 : Int64) (t3 : (nI 0).toInt ≤ (nI 1).toInt) (t4 : (nI 1).toInt ≤ (nI 1).toInt) (j32 : k30 ≤ 12) (hm36 : 12 - k30 < n34 + 1) (c37 : k30 < 12) (e39 : y38 = kkeptNameF (12 + k30)) : 12 - (k30 + 1) < n34 := by
  have b_y38 := Int64.toInt_lt y38
  try have k_0 := ia_n 0 (by first | decide | omega)
  try have k_1 := ia_n 1 (by first | decide | omega)
  try simp only [ia_lt, ia_le, ia_eq, ia_m1, ia_0, ia_1, ne_eq, true_and, and_true, false_and, and_false, or_false, false_or, or_true, true_or, not_true_eq_false, not_false_eq_true] at *
  all_goals omega
set_option maxRecDepth 20000 in
theorem lf_q_restoreMT1_10  (t3 : (nI 0).toInt ≤ (nI 1).toInt) (t4 : (nI 1).toInt ≤ (nI 1).toInt) : 0 ≤ 12 := by
  try have k_0 := ia_n 0 (by first | decide | omega)
  try have k_1 := ia_n 1 (by first | decide | omega)
  try simp only [ia_lt, ia_le, ia_eq, ia_m1, ia_0, ia_1, ne_eq, true_and, and_true, false_and, and_false, or_false, false_or, or_true, true_or, not_true_eq_false, not_false_eq_true] at *
  all_goals omega
set_option maxRecDepth 20000 in
theorem lf_q_restoreMT1_11 (kkeptF : Nat → Int32) (kisKeptF : Nat → Int32) (hw : Nat → Int32) (y7 : Int32) (k16 : Nat) (f17 : Nat → Int32) (n20 : Nat) (y42 : Int32) (kb0 : KBf kkeptF kisKeptF 0) (kb1 : KBf kkeptF kisKeptF 1) (hvk : ¬ kisKeptF 1 = 0) (qi : HMk hw kkeptF 373) (t3 : (nI 0).toInt ≤ (nI 1).toInt) (t4 : (nI 1).toInt ≤ (nI 1).toInt) (e8 : y7 = kisKeptF 1) (j18 : k16 ≤ 373) (hpre : ∀ j9, j9 < k16 → f17 j9 = kkeptF (373 + j9)) (hm22 : 373 - k16 < n20 + 1) (c23 : k16 < 373) (e43 : y42 = kkeptF (373 + k16)) : (373 + k16) < 746 := by
  have b_y7 := ia_b y7
  have b_y42 := ia_b y42
  try have k_0 := ia_n 0 (by first | decide | omega)
  try have k_1 := ia_n 1 (by first | decide | omega)
  try simp only [ia_lt, ia_le, ia_eq, ia_m1, ia_0, ia_1, ne_eq, true_and, and_true, false_and, and_false, or_false, false_or, or_true, true_or, not_true_eq_false, not_false_eq_true] at *
  all_goals omega
set_option maxRecDepth 20000 in
theorem lf_q_restoreMT1_12 (kkeptF : Nat → Int32) (kisKeptF : Nat → Int32) (hw : Nat → Int32) (y7 : Int32) (k16 : Nat) (f17 : Nat → Int32) (n20 : Nat) (y42 : Int32) (kb0 : KBf kkeptF kisKeptF 0) (kb1 : KBf kkeptF kisKeptF 1) (hvk : ¬ kisKeptF 1 = 0) (qi : HMk hw kkeptF 373) (t3 : (nI 0).toInt ≤ (nI 1).toInt) (t4 : (nI 1).toInt ≤ (nI 1).toInt) (e8 : y7 = kisKeptF 1) (j18 : k16 ≤ 373) (hpre : ∀ j9, j9 < k16 → f17 j9 = kkeptF (373 + j9)) (hm22 : 373 - k16 < n20 + 1) (c23 : k16 < 373) (e43 : y42 = kkeptF (373 + k16)) : k16 < 373 := by
  have b_y7 := ia_b y7
  have b_y42 := ia_b y42
  try have k_0 := ia_n 0 (by first | decide | omega)
  try have k_1 := ia_n 1 (by first | decide | omega)
  try simp only [ia_lt, ia_le, ia_eq, ia_m1, ia_0, ia_1, ne_eq, true_and, and_true, false_and, and_false, or_false, false_or, or_true, true_or, not_true_eq_false, not_false_eq_true] at *
  all_goals omega
set_option maxRecDepth 20000 in
theorem lf_q_restoreMT1_13 (kkeptF : Nat → Int32) (kisKeptF : Nat → Int32) (hw : Nat → Int32) (y7 : Int32) (k16 : Nat) (f17 : Nat → Int32) (n20 : Nat) (y42 : Int32) (g44 : Nat → Int32) (kb0 : KBf kkeptF kisKeptF 0) (kb1 : KBf kkeptF kisKeptF 1) (hvk : ¬ kisKeptF 1 = 0) (qi : HMk hw kkeptF 373) (t3 : (nI 0).toInt ≤ (nI 1).toInt) (t4 : (nI 1).toInt ≤ (nI 1).toInt) (e8 : y7 = kisKeptF 1) (j18 : k16 ≤ 373) (hpre : ∀ j9, j9 < k16 → f17 j9 = kkeptF (373 + j9)) (hm22 : 373 - k16 < n20 + 1) (c23 : k16 < 373) (e43 : y42 = kkeptF (373 + k16)) (e45 : g44 = upd f17 k16 y42) : (k16 + 1) ≤ 373 := by
  have b_y7 := ia_b y7
  have b_y42 := ia_b y42
  try have k_0 := ia_n 0 (by first | decide | omega)
  try have k_1 := ia_n 1 (by first | decide | omega)
  try simp only [ia_lt, ia_le, ia_eq, ia_m1, ia_0, ia_1, ne_eq, true_and, and_true, false_and, and_false, or_false, false_or, or_true, true_or, not_true_eq_false, not_false_eq_true] at *
  all_goals omega
set_option maxRecDepth 20000 in
theorem lf_q_restoreMT1_14 (kkeptF : Nat → Int32) (kisKeptF : Nat → Int32) (hw : Nat → Int32) (y7 : Int32) (k16 : Nat) (f17 : Nat → Int32) (n20 : Nat) (y42 : Int32) (g44 : Nat → Int32) (kb0 : KBf kkeptF kisKeptF 0) (kb1 : KBf kkeptF kisKeptF 1) (hvk : ¬ kisKeptF 1 = 0) (qi : HMk hw kkeptF 373) (t3 : (nI 0).toInt ≤ (nI 1).toInt) (t4 : (nI 1).toInt ≤ (nI 1).toInt) (e8 : y7 = kisKeptF 1) (j18 : k16 ≤ 373) (hpre : ∀ j9, j9 < k16 → f17 j9 = kkeptF (373 + j9)) (hm22 : 373 - k16 < n20 + 1) (c23 : k16 < 373) (e43 : y42 = kkeptF (373 + k16)) (e45 : g44 = upd f17 k16 y42) : ∀ j9, j9 < (k16 + 1) → g44 j9 = kkeptF (373 + j9) := by
  intro j9 hj9
  by_cases h9 : j9 = k16
  · rw [h9, e45, upd_eq]; exact e43
  · rw [e45, upd_ne (by omega)]; exact hpre j9 (by omega)
set_option maxRecDepth 20000 in
theorem lf_q_restoreMT1_15 (kkeptF : Nat → Int32) (kisKeptF : Nat → Int32) (hw : Nat → Int32) (y7 : Int32) (k16 : Nat) (f17 : Nat → Int32) (n20 : Nat) (y42 : Int32) (g44 : Nat → Int32) (kb0 : KBf kkeptF kisKeptF 0) (kb1 : KBf kkeptF kisKeptF 1) (hvk : ¬ kisKeptF 1 = 0) (qi : HMk hw kkeptF 373) (t3 : (nI 0).toInt ≤ (nI 1).toInt) (t4 : (nI 1).toInt ≤ (nI 1).toInt) (e8 : y7 = kisKeptF 1) (j18 : k16 ≤ 373) (hpre : ∀ j9, j9 < k16 → f17 j9 = kkeptF (373 + j9)) (hm22 : 373 - k16 < n20 + 1) (c23 : k16 < 373) (e43 : y42 = kkeptF (373 + k16)) (e45 : g44 = upd f17 k16 y42) : 373 - (k16 + 1) < n20 := by
  have b_y7 := ia_b y7
  have b_y42 := ia_b y42
  try have k_0 := ia_n 0 (by first | decide | omega)
  try have k_1 := ia_n 1 (by first | decide | omega)
  try simp only [ia_lt, ia_le, ia_eq, ia_m1, ia_0, ia_1, ne_eq, true_and, and_true, false_and, and_false, or_false, false_or, or_true, true_or, not_true_eq_false, not_false_eq_true] at *
  all_goals omega
set_option maxRecDepth 20000 in
theorem lf_q_restoreMT1_16  (t3 : (nI 0).toInt ≤ (nI 1).toInt) (t4 : (nI 1).toInt ≤ (nI 1).toInt) : 0 ≤ 373 := by
  try have k_0 := ia_n 0 (by first | decide | omega)
  try have k_1 := ia_n 1 (by first | decide | omega)
  try simp only [ia_lt, ia_le, ia_eq, ia_m1, ia_0, ia_1, ne_eq, true_and, and_true, false_and, and_false, or_false, false_or, or_true, true_or, not_true_eq_false, not_false_eq_true] at *
  all_goals omega
set_option maxRecDepth 20000 in
theorem lf_q_restoreMT1_17 (knowF : Nat → Int32) (kkeptF : Nat → Int32) (kisKeptF : Nat → Int32) (hw : Nat → Int32) (y7 : Int32) (ab_now : NB knowF) (sb_now : SB knowF) (kb0 : KBf kkeptF kisKeptF 0) (kb1 : KBf kkeptF kisKeptF 1) (hvk : ¬ kisKeptF 1 = 0) (qi : HMk hw kkeptF 373) (t3 : (nI 0).toInt ≤ (nI 1).toInt) (t4 : (nI 1).toInt ≤ (nI 1).toInt) (e8 : y7 = kisKeptF 1) : ∀ j9, j9 < 0 → knowF j9 = kkeptF (373 + j9) := by
  intro j9 hj9
  omega
set_option maxRecDepth 20000 in
theorem lf_q_restoreMT1_18  (t5 : ¬ ((nI 0).toInt ≤ (nI 1).toInt ∧ (nI 1).toInt ≤ (nI 1).toInt)) : (nI 0) = nI 1 := by
  try have k_0 := ia_n 0 (by first | decide | omega)
  try have k_1 := ia_n 1 (by first | decide | omega)
  try simp only [ia_lt, ia_le, ia_eq, ia_m1, ia_0, ia_1, ne_eq, true_and, and_true, false_and, and_false, or_false, false_or, or_true, true_or, not_true_eq_false, not_false_eq_true] at *
  all_goals omega
set_option maxRecDepth 20000 in
theorem lf_q_restoreMT1_19 (knowF : Nat → Int32) (kkeptF : Nat → Int32) (kisKeptF : Nat → Int32) (hw : Nat → Int32) (ab_now : NB knowF) (sb_now : SB knowF) (kb0 : KBf kkeptF kisKeptF 0) (kb1 : KBf kkeptF kisKeptF 1) (hvk : ¬ kisKeptF 1 = 0) (qi : HMk hw kkeptF 373) (t5 : ¬ ((nI 0).toInt ≤ (nI 1).toInt ∧ (nI 1).toInt ≤ (nI 1).toInt)) : HMo hw knowF := by
  exfalso
  try have k_0 := ia_n 0 (by first | decide | omega)
  try have k_1 := ia_n 1 (by first | decide | omega)
  try simp only [ia_lt, ia_le, ia_eq, ia_m1, ia_0, ia_1, ne_eq, true_and, and_true, false_and, and_false, or_false, false_or, or_true, true_or, not_true_eq_false, not_false_eq_true] at *
  all_goals omega
set_option maxHeartbeats 4000000 in
set_option maxRecDepth 100000 in
theorem c_q_restoreMT1 (l : Launch) (dC : Nat → ClassId) (dI : Nat → Nat → Nat) (ky : Nat → ClassId) (sz : Nat) (o : Nat) (kthrown : Int32) (ktape : Nat) (ktaped : Nat) (ksize : Nat) (klimit : Nat) (kto : Nat) (kfrom : Nat) (kkind : Int32) (knumber : Int32) (ksign : Int32) (kfault : Int32) (kplace : Int32) (kword : Int64) (ktold : Int32) (know : Nat) (kread : Nat) (kkept : Nat) (ksnaps : Nat) (kaside : Nat) (kname : Nat) (kreadName : Nat) (kkeptName : Nat) (kisKept : Nat) (konces : Nat) (ksnapMany : Nat) (khasCells : Int32) (kpoured : Nat) (kfar : Nat) (ksides : Nat) (ksideMany : Nat) (kwayDays : Int32) (khasWay : Int32) (klines : Nat) (kmet : Nat) (kmetMany : Nat) (ksunk : Nat) (ktrying : Nat) (ksunkMany : Nat) (ksending : Int32) (kfleets : Int32) (ktext : Nat) (ktexts : Nat) (kseed : Int32) (kline : Nat) (kwritten : Nat) (klineMany : Nat) (khasWritten : Int32) (knode : Nat) (knodes : Nat) (konesMany : Nat) (kwithin : Nat) (ktop : Nat) (knowF : Nat → Int32) (knameF : Nat → Int64) (kkeptF : Nat → Int32) (kkeptNameF : Nat → Int64) (kisKeptF : Nat → Int32) (hw : Nat → Int32) (iv_ko_0 : ktaped ≤ 940) (iv_ko_1 : ksize ≤ 940) (iv_ko_2 : klimit ≤ 900) (iv_ko_3 : kto ≤ ksize) (iv_ko_4 : kfrom ≤ 940) (iv_ko_5 : ksnapMany ≤ 8) (iv_ko_6 : ksideMany ≤ 36) (iv_ko_7 : kmetMany ≤ 3) (iv_ko_8 : ksunkMany ≤ 36) (iv_ko_9 : ktexts ≤ 64) (iv_ko_10 : klineMany ≤ 40) (iv_ko_11 : knodes ≤ 60) (iv_ko_12 : konesMany ≤ 20) (iv_ko_13 : kwithin ≤ 8) (iv_ko_14 : ktop ≤ 59) (ab_now : NB knowF) (sb_now : SB knowF) (kb0 : KBf kkeptF kisKeptF 0) (kb1 : KBf kkeptF kisKeptF 1) (hvk : ¬ kisKeptF 1 = 0) (qi : HMk hw kkeptF 373) : Met l yX12_restore wsX12_restore ({ frames := 1, cells := 0, slots := 0, locals := 22 }) (PcU dC dI ky [.ref o, .int (nI 1)] [(o, .inr (12, [.int kthrown, .ref ktape, .int (nI ktaped), .int (nI ksize), .int (nI klimit), .int (nI kto), .int (nI kfrom), .int kkind, .int knumber, .int ksign, .int kfault, .int kplace, .long kword, .int ktold, .ref know, .ref kread, .ref kkept, .ref ksnaps, .ref kaside, .ref kname, .ref kreadName, .ref kkeptName, .ref kisKept, .ref konces, .int (nI ksnapMany), .int khasCells, .ref kpoured, .ref kfar, .ref ksides, .int (nI ksideMany), .int kwayDays, .int khasWay, .ref klines, .ref kmet, .int (nI kmetMany), .ref ksunk, .ref ktrying, .int (nI ksunkMany), .int ksending, .int kfleets, .ref ktext, .int (nI ktexts), .int kseed, .ref kline, .ref kwritten, .int (nI klineMany), .int khasWritten, .ref knode, .int (nI knodes), .int (nI konesMany), .int (nI kwithin), .int (nI ktop)])), (know, .inl (ky 0, 373, .inl knowF)), (kname, .inl (ky 1, 12, .inr (.inl knameF))), (kkept, .inl (ky 0, 746, .inl kkeptF)), (kkeptName, .inl (ky 1, 24, .inr (.inl kkeptNameF))), (kisKept, .inl (ky 3, 2, .inl kisKeptF))] sz) (va_Qi (fun (r : Int32) (u : Int32 × Nat × (Nat → Int32) × (Nat → Int64)) => match u with | (kthrownG, ksnapManyG, knowG, knameG) => (r = nI 1) ∧ (ksnapManyG ≤ 8) ∧ (NB knowG) ∧ (SB knowG) ∧ (HMo hw knowG)) (BU dC dI ky (fun (u : Int32 × Nat × (Nat → Int32) × (Nat → Int64)) => match u with | (kthrownG, ksnapManyG, knowG, knameG) => [(o, .inr (12, [.int kthrownG, .ref ktape, .int (nI ktaped), .int (nI ksize), .int (nI klimit), .int (nI kto), .int (nI kfrom), .int kkind, .int knumber, .int ksign, .int kfault, .int kplace, .long kword, .int ktold, .ref know, .ref kread, .ref kkept, .ref ksnaps, .ref kaside, .ref kname, .ref kreadName, .ref kkeptName, .ref kisKept, .ref konces, .int (nI ksnapManyG), .int khasCells, .ref kpoured, .ref kfar, .ref ksides, .int (nI ksideMany), .int kwayDays, .int khasWay, .ref klines, .ref kmet, .int (nI kmetMany), .ref ksunk, .ref ktrying, .int (nI ksunkMany), .int ksending, .int kfleets, .ref ktext, .int (nI ktexts), .int kseed, .ref kline, .ref kwritten, .int (nI klineMany), .int khasWritten, .ref knode, .int (nI knodes), .int (nI konesMany), .int (nI kwithin), .int (nI ktop)])), (know, .inl (ky 0, 373, .inl knowG)), (kname, .inl (ky 1, 12, .inr (.inl knameG))), (kkept, .inl (ky 0, 746, .inl kkeptF)), (kkeptName, .inl (ky 1, 24, .inr (.inl kkeptNameF))), (kisKept, .inl (ky 3, 2, .inl kisKeptF))]) (va_A [(o, .inr (12, [.int kthrown, .ref ktape, .int (nI ktaped), .int (nI ksize), .int (nI klimit), .int (nI kto), .int (nI kfrom), .int kkind, .int knumber, .int ksign, .int kfault, .int kplace, .long kword, .int ktold, .ref know, .ref kread, .ref kkept, .ref ksnaps, .ref kaside, .ref kname, .ref kreadName, .ref kkeptName, .ref kisKept, .ref konces, .int (nI ksnapMany), .int khasCells, .ref kpoured, .ref kfar, .ref ksides, .int (nI ksideMany), .int kwayDays, .int khasWay, .ref klines, .ref kmet, .int (nI kmetMany), .ref ksunk, .ref ktrying, .int (nI ksunkMany), .int ksending, .int kfleets, .ref ktext, .int (nI ktexts), .int kseed, .ref kline, .ref kwritten, .int (nI klineMany), .int khasWritten, .ref knode, .int (nI knodes), .int (nI konesMany), .int (nI kwithin), .int (nI ktop)])), (know, .inl (ky 0, 373, .inl knowF)), (kname, .inl (ky 1, 12, .inr (.inl knameF))), (kkept, .inl (ky 0, 746, .inl kkeptF)), (kkeptName, .inl (ky 1, 24, .inr (.inl kkeptNameF))), (kisKept, .inl (ky 3, 2, .inl kisKeptF))] sz)) (va_A [(o, .inr (12, [.int kthrown, .ref ktape, .int (nI ktaped), .int (nI ksize), .int (nI klimit), .int (nI kto), .int (nI kfrom), .int kkind, .int knumber, .int ksign, .int kfault, .int kplace, .long kword, .int ktold, .ref know, .ref kread, .ref kkept, .ref ksnaps, .ref kaside, .ref kname, .ref kreadName, .ref kkeptName, .ref kisKept, .ref konces, .int (nI ksnapMany), .int khasCells, .ref kpoured, .ref kfar, .ref ksides, .int (nI ksideMany), .int kwayDays, .int khasWay, .ref klines, .ref kmet, .int (nI kmetMany), .ref ksunk, .ref ktrying, .int (nI ksunkMany), .int ksending, .int kfleets, .ref ktext, .int (nI ktexts), .int kseed, .ref kline, .ref kwritten, .int (nI klineMany), .int khasWritten, .ref knode, .int (nI knodes), .int (nI konesMany), .int (nI kwithin), .int (nI ktop)])), (know, .inl (ky 0, 373, .inl knowF)), (kname, .inl (ky 1, 12, .inr (.inl knameF))), (kkept, .inl (ky 0, 746, .inl kkeptF)), (kkeptName, .inl (ky 1, 24, .inr (.inl kkeptNameF))), (kisKept, .inl (ky 3, 2, .inl kisKeptF))] sz)) 0 0 (va_A [(o, .inr (12, [.int kthrown, .ref ktape, .int (nI ktaped), .int (nI ksize), .int (nI klimit), .int (nI kto), .int (nI kfrom), .int kkind, .int knumber, .int ksign, .int kfault, .int kplace, .long kword, .int ktold, .ref know, .ref kread, .ref kkept, .ref ksnaps, .ref kaside, .ref kname, .ref kreadName, .ref kkeptName, .ref kisKept, .ref konces, .int (nI ksnapMany), .int khasCells, .ref kpoured, .ref kfar, .ref ksides, .int (nI ksideMany), .int kwayDays, .int khasWay, .ref klines, .ref kmet, .int (nI kmetMany), .ref ksunk, .ref ktrying, .int (nI ksunkMany), .int ksending, .int kfleets, .ref ktext, .int (nI ktexts), .int kseed, .ref kline, .ref kwritten, .int (nI klineMany), .int khasWritten, .ref knode, .int (nI knodes), .int (nI konesMany), .int (nI kwithin), .int (nI ktop)])), (know, .inl (ky 0, 373, .inl knowF)), (kname, .inl (ky 1, 12, .inr (.inl knameF))), (kkept, .inl (ky 0, 746, .inl kkeptF)), (kkeptName, .inl (ky 1, 24, .inr (.inl kkeptNameF))), (kisKept, .inl (ky 3, 2, .inl kisKeptF))] sz) := by
  refine Met.ofW (cc := cX12_restore) (maxL := 3) (ret := (some .boolean)) (by decide) rfl ?_
  intro p e s m args below meth c s₁ B hml hv
  obtain ⟨rfl, hsz, hP, hK, hD0⟩ := hv
  have hx := B.exec
  have hb := B.bytes
  have hr := B.returns
  have hts := atoms_spec (ws := wsX12_restore) B.pre
  have hown : s.vm.findClass RX12 = some m.cls := findClass_of_methodNamed B.named
  have hlocks := B.notSynchronized
  have hin12 : ∀ w ∈ u_ws RX12 TX12 52, w ∈ wsX12_restore := by decide +kernel
  subst hsz
  have hD := hD0.self (sz := s.heap.size)
  generalize hAe : va_A [(o, .inr (12, [.int kthrown, .ref ktape, .int (nI ktaped), .int (nI ksize), .int (nI klimit), .int (nI kto), .int (nI kfrom), .int kkind, .int knumber, .int ksign, .int kfault, .int kplace, .long kword, .int ktold, .ref know, .ref kread, .ref kkept, .ref ksnaps, .ref kaside, .ref kname, .ref kreadName, .ref kkeptName, .ref kisKept, .ref konces, .int (nI ksnapMany), .int khasCells, .ref kpoured, .ref kfar, .ref ksides, .int (nI ksideMany), .int kwayDays, .int khasWay, .ref klines, .ref kmet, .int (nI kmetMany), .ref ksunk, .ref ktrying, .int (nI ksunkMany), .int ksending, .int kfleets, .ref ktext, .int (nI ktexts), .int kseed, .ref kline, .ref kwritten, .int (nI klineMany), .int khasWritten, .ref knode, .int (nI knodes), .int (nI konesMany), .int (nI kwithin), .int (nI ktop)])), (know, .inl (ky 0, 373, .inl knowF)), (kname, .inl (ky 1, 12, .inr (.inl knameF))), (kkept, .inl (ky 0, 746, .inl kkeptF)), (kkeptName, .inl (ky 1, 24, .inr (.inl kkeptNameF))), (kisKept, .inl (ky 3, 2, .inl kisKeptF))] s.heap.size = A at hD ⊢
  have hA : ∀ q : Nat, s.heap.size ≤ q → A q := fun q h => by rw [← hAe]; exact Or.inr h
  have hS : va_S A s.heap s.heap [] := va_S.rf
  have hl := lv_entry ([.ref o, .int (nI 1)]) (n := 3) (Nat.le_of_ble_eq_true rfl)
  rw [lg_entry_eq]
  generalize (lg_sl ([.ref o, .int (nI 1)]) ++ List.replicate (3 - (lg_sl ([.ref o, .int (nI 1)])).length) Slot.unset).toArray = ls at hl ⊢
  have hl : lv_has ls 3 [(0, .ref o), (1, .int (nI 1))] := hl
  refine q_name (fun Q hQ => ?_)
  generalize ([.ref o, .int (nI 1)] : List Value).toArray = args at hts hQ ⊢
  refine lv_aload_n hx hb dX12_restore_0 rfl (lv_at hl 0 rfl) ?_
  refine lv_iconst (v := nI 0) hx hb dX12_restore_1 (by decide) ?_
  refine va_put (D := (dC, dI)) (ci := 12) (v := .int (nI 0)) (ty := .int) (C := RX12) (T := TX12) (N := 52) hx hb hts hin12 tyX12 tyX12_ok nmX12 hown hK hP hD hS 0 rfl rfl 0 (by decide) (hts (.fieldLink RX12 1 "PorridgeSeaModel" "thrown" "I") (List.mem_of_getElem? (i := 1) rfl)) (fun _ h9 => h9) rfl (by decide +kernel) rfl rfl (Nat.le_of_ble_eq_true rfl) dX12_restore_2 (fun H locs hP hD hS => ?_)
  have hP : va_P (dC, dI) vwCl [(o, .inr (12, [.int (nI 0), .ref ktape, .int (nI ktaped), .int (nI ksize), .int (nI klimit), .int (nI kto), .int (nI kfrom), .int kkind, .int knumber, .int ksign, .int kfault, .int kplace, .long kword, .int ktold, .ref know, .ref kread, .ref kkept, .ref ksnaps, .ref kaside, .ref kname, .ref kreadName, .ref kkeptName, .ref kisKept, .ref konces, .int (nI ksnapMany), .int khasCells, .ref kpoured, .ref kfar, .ref ksides, .int (nI ksideMany), .int kwayDays, .int khasWay, .ref klines, .ref kmet, .int (nI kmetMany), .ref ksunk, .ref ktrying, .int (nI ksunkMany), .int ksending, .int kfleets, .ref ktext, .int (nI ktexts), .int kseed, .ref kline, .ref kwritten, .int (nI klineMany), .int khasWritten, .ref knode, .int (nI knodes), .int (nI konesMany), .int (nI kwithin), .int (nI ktop)])), (know, .inl (ky 0, 373, .inl knowF)), (kname, .inl (ky 1, 12, .inr (.inl knameF))), (kkept, .inl (ky 0, 746, .inl kkeptF)), (kkeptName, .inl (ky 1, 24, .inr (.inl kkeptNameF))), (kisKept, .inl (ky 3, 2, .inl kisKeptF))] H := hP
  have hD : va_D A [(o, .inr (12, [.int (nI 0), .ref ktape, .int (nI ktaped), .int (nI ksize), .int (nI klimit), .int (nI kto), .int (nI kfrom), .int kkind, .int knumber, .int ksign, .int kfault, .int kplace, .long kword, .int ktold, .ref know, .ref kread, .ref kkept, .ref ksnaps, .ref kaside, .ref kname, .ref kreadName, .ref kkeptName, .ref kisKept, .ref konces, .int (nI ksnapMany), .int khasCells, .ref kpoured, .ref kfar, .ref ksides, .int (nI ksideMany), .int kwayDays, .int khasWay, .ref klines, .ref kmet, .int (nI kmetMany), .ref ksunk, .ref ktrying, .int (nI ksunkMany), .int ksending, .int kfleets, .ref ktext, .int (nI ktexts), .int kseed, .ref kline, .ref kwritten, .int (nI klineMany), .int khasWritten, .ref knode, .int (nI knodes), .int (nI konesMany), .int (nI kwithin), .int (nI ktop)])), (know, .inl (ky 0, 373, .inl knowF)), (kname, .inl (ky 1, 12, .inr (.inl knameF))), (kkept, .inl (ky 0, 746, .inl kkeptF)), (kkeptName, .inl (ky 1, 24, .inr (.inl kkeptNameF))), (kisKept, .inl (ky 3, 2, .inl kisKeptF))] := hD
  refine lv_iload_n hx hb dX12_restore_5 rfl (lv_at hl 1 rfl) ?_
  refine lv_iconst (v := nI 0) hx hb dX12_restore_6 (by decide) ?_
  refine lv_iconst (v := nI 1) hx hb dX12_restore_7 (by decide) ?_
  refine vp_callSi (W.runS (As := [.int (nI 1), .int (nI 0), .int (nI 1)]) (rest := []) ⟨hx, hb, hml, hown, hts⟩ (c_x_isIn l dC dI ky (nI 1) (nI 0) (nI 1)) (va_cwS 3 hts gX12_restore_X12_isIn rfl rfl rfl (by decide +kernel) ⟨(Nat.le_of_ble_eq_true rfl), (Nat.le_of_ble_eq_true rfl)⟩) (pre_PS hK hP [] rfl) rfl rfl hl.1 rfl (lv_room (Nat.le_of_ble_eq_true rfl)) dX12_restore_8 ⟨(Nat.le_of_ble_eq_true rfl), (Nat.le_of_ble_eq_true rfl)⟩) (fun r1 p2 => ?_)
  rcases p2 with ⟨rfl, t3, t4⟩ | ⟨rfl, t5⟩
  · refine lv_if_eq (tgt := 23) hx hb dX12_restore_11 (by decide) (fun c6 => absurd c6 (by decide)) (fun c6 => ?_)
    refine lv_aload_n hx hb dX12_restore_14 rfl (lv_at hl 0 rfl) ?_
    refine va_get (D := (dC, dI)) (ci := 12) (v := .ref kisKept) (C := RX12) (T := TX12) (N := 52) hx hb hts hin12 hown hK hP 0 rfl rfl 22 (by decide) (hts (.fieldLink RX12 123 "PorridgeSeaModel" "isKept" "[Z") (List.mem_of_getElem? (i := 2) rfl)) (fun _ h9 => h9) rfl dX12_restore_15 ?_
    refine lv_iload_n hx hb dX12_restore_18 rfl (lv_at hl 1 rfl) ?_
    obtain ⟨y7, e8⟩ : ∃ z9, z9 = kisKeptF 1 := ⟨_, rfl⟩
    refine r_zald hx hb hK hP 5 rfl 1 (by decide) (by decide) y7 e8.symm dX12_restore_19 ?_
    refine lv_if_ne (tgt := 25) hx hb dX12_restore_20 (by decide) (fun c9 => ?_) (fun c9 => absurd (e8.symm.trans c9) hvk)
    refine lv_iconst (v := nI 0) hx hb dX12_restore_25 (by decide) ?_
    refine lv_istore_n (lv' := [(2, .int (nI 0)), (0, .ref o), (1, .int (nI 1))]) hx hb dX12_restore_26 rfl hl (by decide) rfl (fun ls hl => ?_)
    have hL19 : ∀ (n20 : Nat) (k16 : Nat) (f17 : Nat → Int32), (k16 ≤ 373) → (∀ j9, j9 < k16 → f17 j9 = kkeptF (373 + j9)) → 373 - k16 < n20 → ∀ (H : Heap) (locs : List Loc) (ls : Array Slot), va_P (dC, dI) vwCl [(o, .inr (12, [.int (nI 0), .ref ktape, .int (nI ktaped), .int (nI ksize), .int (nI klimit), .int (nI kto), .int (nI kfrom), .int kkind, .int knumber, .int ksign, .int kfault, .int kplace, .long kword, .int ktold, .ref know, .ref kread, .ref kkept, .ref ksnaps, .ref kaside, .ref kname, .ref kreadName, .ref kkeptName, .ref kisKept, .ref konces, .int (nI ksnapMany), .int khasCells, .ref kpoured, .ref kfar, .ref ksides, .int (nI ksideMany), .int kwayDays, .int khasWay, .ref klines, .ref kmet, .int (nI kmetMany), .ref ksunk, .ref ktrying, .int (nI ksunkMany), .int ksending, .int kfleets, .ref ktext, .int (nI ktexts), .int kseed, .ref kline, .ref kwritten, .int (nI klineMany), .int khasWritten, .ref knode, .int (nI knodes), .int (nI konesMany), .int (nI kwithin), .int (nI ktop)])), (know, .inl (ky 0, 373, .inl f17)), (kname, .inl (ky 1, 12, .inr (.inl knameF))), (kkept, .inl (ky 0, 746, .inl kkeptF)), (kkeptName, .inl (ky 1, 24, .inr (.inl kkeptNameF))), (kisKept, .inl (ky 3, 2, .inl kisKeptF))] H → va_D A [(o, .inr (12, [.int (nI 0), .ref ktape, .int (nI ktaped), .int (nI ksize), .int (nI klimit), .int (nI kto), .int (nI kfrom), .int kkind, .int knumber, .int ksign, .int kfault, .int kplace, .long kword, .int ktold, .ref know, .ref kread, .ref kkept, .ref ksnaps, .ref kaside, .ref kname, .ref kreadName, .ref kkeptName, .ref kisKept, .ref konces, .int (nI ksnapMany), .int khasCells, .ref kpoured, .ref kfar, .ref ksides, .int (nI ksideMany), .int kwayDays, .int khasWay, .ref klines, .ref kmet, .int (nI kmetMany), .ref ksunk, .ref ktrying, .int (nI ksunkMany), .int ksending, .int kfleets, .ref ktext, .int (nI ktexts), .int kseed, .ref kline, .ref kwritten, .int (nI klineMany), .int khasWritten, .ref knode, .int (nI knodes), .int (nI konesMany), .int (nI kwithin), .int (nI ktop)])), (know, .inl (ky 0, 373, .inl f17)), (kname, .inl (ky 1, 12, .inr (.inl knameF))), (kkept, .inl (ky 0, 746, .inl kkeptF)), (kkeptName, .inl (ky 1, 24, .inr (.inl kkeptNameF))), (kisKept, .inl (ky 3, 2, .inl kisKeptF))] → va_S A s.heap H locs → lv_has ls 3 [(2, .int (nI k16)), (0, .ref o), (1, .int (nI 1))] → W p l e (headSpec wsX12_restore ({ frames := 1, cells := 0, slots := 0, locals := 22 })).room s m args below meth c H locs 0 0 Q (F0 m 27 ls []) := by
      intro n20
      induction n20 with
      | zero => intro k16 f17 _ _ h9; exact absurd h9 (Nat.not_lt_zero _)
      | succ n20 ih21 =>
        intro k16 f17 j18 hpre hm22 H locs ls hP hD hS hl
        refine lv_iload_n hx hb dX12_restore_27 rfl (lv_at hl 0 rfl) ?_
        refine lv_sipush (v := nI 373) hx hb dX12_restore_28 (by decide) ?_
        refine n_icmp_ge (x := k16) (y := 373) (tgt := 58) hx hb (by omega) (by omega) dX12_restore_31 (by decide) (fun c23 => ?_) (fun c23 => ?_)
        · refine lv_iconst (v := nI 0) hx hb dX12_restore_58 (by decide) ?_
          refine lv_istore_n (lv' := [(2, .int (nI 0)), (0, .ref o), (1, .int (nI 1))]) hx hb dX12_restore_59 rfl hl (by decide) rfl (fun ls hl => ?_)
          have hL33 : ∀ (n34 : Nat) (k30 : Nat) (f31 : Nat → Int64), (k30 ≤ 12) → 12 - k30 < n34 → ∀ (H : Heap) (locs : List Loc) (ls : Array Slot), va_P (dC, dI) vwCl [(o, .inr (12, [.int (nI 0), .ref ktape, .int (nI ktaped), .int (nI ksize), .int (nI klimit), .int (nI kto), .int (nI kfrom), .int kkind, .int knumber, .int ksign, .int kfault, .int kplace, .long kword, .int ktold, .ref know, .ref kread, .ref kkept, .ref ksnaps, .ref kaside, .ref kname, .ref kreadName, .ref kkeptName, .ref kisKept, .ref konces, .int (nI ksnapMany), .int khasCells, .ref kpoured, .ref kfar, .ref ksides, .int (nI ksideMany), .int kwayDays, .int khasWay, .ref klines, .ref kmet, .int (nI kmetMany), .ref ksunk, .ref ktrying, .int (nI ksunkMany), .int ksending, .int kfleets, .ref ktext, .int (nI ktexts), .int kseed, .ref kline, .ref kwritten, .int (nI klineMany), .int khasWritten, .ref knode, .int (nI knodes), .int (nI konesMany), .int (nI kwithin), .int (nI ktop)])), (know, .inl (ky 0, 373, .inl f17)), (kname, .inl (ky 1, 12, .inr (.inl f31))), (kkept, .inl (ky 0, 746, .inl kkeptF)), (kkeptName, .inl (ky 1, 24, .inr (.inl kkeptNameF))), (kisKept, .inl (ky 3, 2, .inl kisKeptF))] H → va_D A [(o, .inr (12, [.int (nI 0), .ref ktape, .int (nI ktaped), .int (nI ksize), .int (nI klimit), .int (nI kto), .int (nI kfrom), .int kkind, .int knumber, .int ksign, .int kfault, .int kplace, .long kword, .int ktold, .ref know, .ref kread, .ref kkept, .ref ksnaps, .ref kaside, .ref kname, .ref kreadName, .ref kkeptName, .ref kisKept, .ref konces, .int (nI ksnapMany), .int khasCells, .ref kpoured, .ref kfar, .ref ksides, .int (nI ksideMany), .int kwayDays, .int khasWay, .ref klines, .ref kmet, .int (nI kmetMany), .ref ksunk, .ref ktrying, .int (nI ksunkMany), .int ksending, .int kfleets, .ref ktext, .int (nI ktexts), .int kseed, .ref kline, .ref kwritten, .int (nI klineMany), .int khasWritten, .ref knode, .int (nI knodes), .int (nI konesMany), .int (nI kwithin), .int (nI ktop)])), (know, .inl (ky 0, 373, .inl f17)), (kname, .inl (ky 1, 12, .inr (.inl f31))), (kkept, .inl (ky 0, 746, .inl kkeptF)), (kkeptName, .inl (ky 1, 24, .inr (.inl kkeptNameF))), (kisKept, .inl (ky 3, 2, .inl kisKeptF))] → va_S A s.heap H locs → lv_has ls 3 [(2, .int (nI k30)), (0, .ref o), (1, .int (nI 1))] → W p l e (headSpec wsX12_restore ({ frames := 1, cells := 0, slots := 0, locals := 22 })).room s m args below meth c H locs 0 0 Q (F0 m 60 ls []) := by
            intro n34
            induction n34 with
            | zero => intro k30 f31 _ h9; exact absurd h9 (Nat.not_lt_zero _)
            | succ n34 ih35 =>
              intro k30 f31 j32 hm36 H locs ls hP hD hS hl
              refine lv_iload_n hx hb dX12_restore_60 rfl (lv_at hl 0 rfl) ?_
              refine lv_bipush (v := nI 12) hx hb dX12_restore_61 (by decide) ?_
              refine n_icmp_ge (x := k30) (y := 12) (tgt := 89) hx hb (by omega) (by omega) dX12_restore_63 (by decide) (fun c37 => ?_) (fun c37 => ?_)
              · refine lv_aload_n hx hb dX12_restore_89 rfl (lv_at hl 1 rfl) ?_
                refine lv_iconst (v := nI 0) hx hb dX12_restore_90 (by decide) ?_
                refine va_put (D := (dC, dI)) (ci := 12) (v := .int (nI 0)) (ty := .int) (C := RX12) (T := TX12) (N := 52) hx hb hts hin12 tyX12 tyX12_ok nmX12 hown hK hP hD hS 0 rfl rfl 24 (by decide) (hts (.fieldLink RX12 237 "PorridgeSeaModel" "snapMany" "I") (List.mem_of_getElem? (i := 7) rfl)) (fun _ h9 => h9) rfl (by decide +kernel) rfl rfl (Nat.le_of_ble_eq_true rfl) dX12_restore_91 (fun H locs hP hD hS => ?_)
                have hP : va_P (dC, dI) vwCl [(o, .inr (12, [.int (nI 0), .ref ktape, .int (nI ktaped), .int (nI ksize), .int (nI klimit), .int (nI kto), .int (nI kfrom), .int kkind, .int knumber, .int ksign, .int kfault, .int kplace, .long kword, .int ktold, .ref know, .ref kread, .ref kkept, .ref ksnaps, .ref kaside, .ref kname, .ref kreadName, .ref kkeptName, .ref kisKept, .ref konces, .int (nI 0), .int khasCells, .ref kpoured, .ref kfar, .ref ksides, .int (nI ksideMany), .int kwayDays, .int khasWay, .ref klines, .ref kmet, .int (nI kmetMany), .ref ksunk, .ref ktrying, .int (nI ksunkMany), .int ksending, .int kfleets, .ref ktext, .int (nI ktexts), .int kseed, .ref kline, .ref kwritten, .int (nI klineMany), .int khasWritten, .ref knode, .int (nI knodes), .int (nI konesMany), .int (nI kwithin), .int (nI ktop)])), (know, .inl (ky 0, 373, .inl f17)), (kname, .inl (ky 1, 12, .inr (.inl f31))), (kkept, .inl (ky 0, 746, .inl kkeptF)), (kkeptName, .inl (ky 1, 24, .inr (.inl kkeptNameF))), (kisKept, .inl (ky 3, 2, .inl kisKeptF))] H := hP
                have hD : va_D A [(o, .inr (12, [.int (nI 0), .ref ktape, .int (nI ktaped), .int (nI ksize), .int (nI klimit), .int (nI kto), .int (nI kfrom), .int kkind, .int knumber, .int ksign, .int kfault, .int kplace, .long kword, .int ktold, .ref know, .ref kread, .ref kkept, .ref ksnaps, .ref kaside, .ref kname, .ref kreadName, .ref kkeptName, .ref kisKept, .ref konces, .int (nI 0), .int khasCells, .ref kpoured, .ref kfar, .ref ksides, .int (nI ksideMany), .int kwayDays, .int khasWay, .ref klines, .ref kmet, .int (nI kmetMany), .ref ksunk, .ref ktrying, .int (nI ksunkMany), .int ksending, .int kfleets, .ref ktext, .int (nI ktexts), .int kseed, .ref kline, .ref kwritten, .int (nI klineMany), .int khasWritten, .ref knode, .int (nI knodes), .int (nI konesMany), .int (nI kwithin), .int (nI ktop)])), (know, .inl (ky 0, 373, .inl f17)), (kname, .inl (ky 1, 12, .inr (.inl f31))), (kkept, .inl (ky 0, 746, .inl kkeptF)), (kkeptName, .inl (ky 1, 24, .inr (.inl kkeptNameF))), (kisKept, .inl (ky 3, 2, .inl kisKeptF))] := hD
                refine lv_iconst (v := nI 1) hx hb dX12_restore_94 (by decide) ?_
                rw [hQ]
                exact W.zret (v := nI 1) hx hb hr (by decide) (fun t9 ht9 hW9 => ⟨⟨nI 1, (nI 0, 0, f17, f31), rfl, ⟨(lf_q_restoreMT1_1 t3 t4), (lf_q_restoreMT1_2 t3 t4), (lf_q_restoreMT1_3 kkeptF kisKeptF hw y7 k16 f17 n20 kb0 kb1 hvk qi t3 t4 e8 j18 hpre hm22 c23), (lf_q_restoreMT1_4 kkeptF kisKeptF hw y7 k16 f17 n20 kb0 kb1 hvk qi t3 t4 e8 j18 hpre hm22 c23), (lf_q_restoreMT1_5 kkeptF kisKeptF hw y7 k16 f17 n20 kb0 kb1 hvk qi t3 t4 e8 j18 hpre hm22 c23)⟩, by rw [ht9]; exact hP, va_K.moved hW9.alike hK, hD⟩, hS.F ht9⟩) hS.2.2 dX12_restore_95
              · refine lv_aload_n hx hb dX12_restore_66 rfl (lv_at hl 1 rfl) ?_
                refine va_get (D := (dC, dI)) (ci := 12) (v := .ref kname) (C := RX12) (T := TX12) (N := 52) hx hb hts hin12 hown hK hP 0 rfl rfl 19 (by decide) (hts (.fieldLink RX12 113 "PorridgeSeaModel" "name" "[J") (List.mem_of_getElem? (i := 5) rfl)) (fun _ h9 => h9) rfl dX12_restore_67 ?_
                refine lv_iload_n hx hb dX12_restore_70 rfl (lv_at hl 0 rfl) ?_
                refine lv_aload_n hx hb dX12_restore_71 rfl (lv_at hl 1 rfl) ?_
                refine va_get (D := (dC, dI)) (ci := 12) (v := .ref kkeptName) (C := RX12) (T := TX12) (N := 52) hx hb hts hin12 hown hK hP 0 rfl rfl 21 (by decide) (hts (.fieldLink RX12 120 "PorridgeSeaModel" "keptName" "[J") (List.mem_of_getElem? (i := 6) rfl)) (fun _ h9 => h9) rfl dX12_restore_72 ?_
                refine lv_bipush (v := nI 12) hx hb dX12_restore_75 (by decide) ?_
                refine lv_iload_n hx hb dX12_restore_77 rfl (lv_at hl 2 rfl) ?_
                refine lv_imul hx hb dX12_restore_78 ?_
                refine r_ti (nI 12) (by decide) ?_
                refine lv_iload_n hx hb dX12_restore_79 rfl (lv_at hl 0 rfl) ?_
                refine lv_iadd hx hb dX12_restore_80 ?_
                refine r_ti (nI (12 + k30)) (nI_add _ _) ?_
                obtain ⟨y38, e39⟩ : ∃ z9, z9 = kkeptNameF (12 + k30) := ⟨_, rfl⟩
                refine r_lald hx hb hK hP 4 rfl (12 + k30) (lf_q_restoreMT1_6 kkeptNameF k30 n34 y38 t3 t4 j32 hm36 c37 e39) (by decide) y38 e39.symm dX12_restore_81 ?_
                refine r_last (x := y38) hx hb hK hP hD hS 2 rfl k30 (lf_q_restoreMT1_7 kkeptNameF k30 n34 y38 t3 t4 j32 hm36 c37 e39) (by decide) dX12_restore_82 (fun H locs hP hD hS => ?_)
                obtain ⟨g40, e41⟩ : ∃ z9, z9 = vp_updL f31 k30 y38 := ⟨_, rfl⟩
                rw [← e41] at hP hD
                have hP : va_P (dC, dI) vwCl [(o, .inr (12, [.int (nI 0), .ref ktape, .int (nI ktaped), .int (nI ksize), .int (nI klimit), .int (nI kto), .int (nI kfrom), .int kkind, .int knumber, .int ksign, .int kfault, .int kplace, .long kword, .int ktold, .ref know, .ref kread, .ref kkept, .ref ksnaps, .ref kaside, .ref kname, .ref kreadName, .ref kkeptName, .ref kisKept, .ref konces, .int (nI ksnapMany), .int khasCells, .ref kpoured, .ref kfar, .ref ksides, .int (nI ksideMany), .int kwayDays, .int khasWay, .ref klines, .ref kmet, .int (nI kmetMany), .ref ksunk, .ref ktrying, .int (nI ksunkMany), .int ksending, .int kfleets, .ref ktext, .int (nI ktexts), .int kseed, .ref kline, .ref kwritten, .int (nI klineMany), .int khasWritten, .ref knode, .int (nI knodes), .int (nI konesMany), .int (nI kwithin), .int (nI ktop)])), (know, .inl (ky 0, 373, .inl f17)), (kname, .inl (ky 1, 12, .inr (.inl g40))), (kkept, .inl (ky 0, 746, .inl kkeptF)), (kkeptName, .inl (ky 1, 24, .inr (.inl kkeptNameF))), (kisKept, .inl (ky 3, 2, .inl kisKeptF))] H := hP
                have hD : va_D A [(o, .inr (12, [.int (nI 0), .ref ktape, .int (nI ktaped), .int (nI ksize), .int (nI klimit), .int (nI kto), .int (nI kfrom), .int kkind, .int knumber, .int ksign, .int kfault, .int kplace, .long kword, .int ktold, .ref know, .ref kread, .ref kkept, .ref ksnaps, .ref kaside, .ref kname, .ref kreadName, .ref kkeptName, .ref kisKept, .ref konces, .int (nI ksnapMany), .int khasCells, .ref kpoured, .ref kfar, .ref ksides, .int (nI ksideMany), .int kwayDays, .int khasWay, .ref klines, .ref kmet, .int (nI kmetMany), .ref ksunk, .ref ktrying, .int (nI ksunkMany), .int ksending, .int kfleets, .ref ktext, .int (nI ktexts), .int kseed, .ref kline, .ref kwritten, .int (nI klineMany), .int khasWritten, .ref knode, .int (nI knodes), .int (nI konesMany), .int (nI kwithin), .int (nI ktop)])), (know, .inl (ky 0, 373, .inl f17)), (kname, .inl (ky 1, 12, .inr (.inl g40))), (kkept, .inl (ky 0, 746, .inl kkeptF)), (kkeptName, .inl (ky 1, 24, .inr (.inl kkeptNameF))), (kisKept, .inl (ky 3, 2, .inl kisKeptF))] := hD
                refine lv_iinc (v := nI (k30 + 1)) (lv' := [(2, .int (nI (k30 + 1))), (0, .ref o), (1, .int (nI 1))]) hx hb dX12_restore_83 hl (k := 0) rfl (show nI k30 + nI 1 = nI (k30 + 1) from nI_add _ _) (by decide) rfl (fun ls hl => ?_)
                refine lv_goto (tgt := 60) hx hb dX12_restore_86 (by decide) ?_
                exact ih35 (k30 + 1) g40 (lf_q_restoreMT1_8 kkeptNameF k30 n34 y38 t3 t4 j32 hm36 c37 e39) (lf_q_restoreMT1_9 kkeptNameF k30 n34 y38 t3 t4 j32 hm36 c37 e39) _ _ _ hP hD hS (lv_sub hl [0, 1, 2] rfl)
          exact hL33 ((12 - 0) + 1) 0 knameF (lf_q_restoreMT1_10 t3 t4) (Nat.lt_succ_self _) _ _ _ hP hD hS (lv_sub hl [0, 1, 2] rfl)
        · refine lv_aload_n hx hb dX12_restore_34 rfl (lv_at hl 1 rfl) ?_
          refine va_get (D := (dC, dI)) (ci := 12) (v := .ref know) (C := RX12) (T := TX12) (N := 52) hx hb hts hin12 hown hK hP 0 rfl rfl 14 (by decide) (hts (.fieldLink RX12 98 "PorridgeSeaModel" "now" "[I") (List.mem_of_getElem? (i := 3) rfl)) (fun _ h9 => h9) rfl dX12_restore_35 ?_
          refine lv_iload_n hx hb dX12_restore_38 rfl (lv_at hl 0 rfl) ?_
          refine lv_aload_n hx hb dX12_restore_39 rfl (lv_at hl 1 rfl) ?_
          refine va_get (D := (dC, dI)) (ci := 12) (v := .ref kkept) (C := RX12) (T := TX12) (N := 52) hx hb hts hin12 hown hK hP 0 rfl rfl 16 (by decide) (hts (.fieldLink RX12 104 "PorridgeSeaModel" "kept" "[I") (List.mem_of_getElem? (i := 4) rfl)) (fun _ h9 => h9) rfl dX12_restore_40 ?_
          refine lv_sipush (v := nI 373) hx hb dX12_restore_43 (by decide) ?_
          refine lv_iload_n hx hb dX12_restore_46 rfl (lv_at hl 2 rfl) ?_
          refine lv_imul hx hb dX12_restore_47 ?_
          refine r_ti (nI 373) (by decide) ?_
          refine lv_iload_n hx hb dX12_restore_48 rfl (lv_at hl 0 rfl) ?_
          refine lv_iadd hx hb dX12_restore_49 ?_
          refine r_ti (nI (373 + k16)) (nI_add _ _) ?_
          obtain ⟨y42, e43⟩ : ∃ z9, z9 = kkeptF (373 + k16) := ⟨_, rfl⟩
          refine r_iald hx hb hK hP 3 rfl (373 + k16) (lf_q_restoreMT1_11 kkeptF kisKeptF hw y7 k16 f17 n20 y42 kb0 kb1 hvk qi t3 t4 e8 j18 hpre hm22 c23 e43) (by decide) y42 e43.symm dX12_restore_50 ?_
          refine r_iast (x := y42) hx hb hK hP hD hS 1 rfl k16 (lf_q_restoreMT1_12 kkeptF kisKeptF hw y7 k16 f17 n20 y42 kb0 kb1 hvk qi t3 t4 e8 j18 hpre hm22 c23 e43) (by decide) dX12_restore_51 (fun H locs hP hD hS => ?_)
          obtain ⟨g44, e45⟩ : ∃ z9, z9 = upd f17 k16 y42 := ⟨_, rfl⟩
          rw [← e45] at hP hD
          have hP : va_P (dC, dI) vwCl [(o, .inr (12, [.int (nI 0), .ref ktape, .int (nI ktaped), .int (nI ksize), .int (nI klimit), .int (nI kto), .int (nI kfrom), .int kkind, .int knumber, .int ksign, .int kfault, .int kplace, .long kword, .int ktold, .ref know, .ref kread, .ref kkept, .ref ksnaps, .ref kaside, .ref kname, .ref kreadName, .ref kkeptName, .ref kisKept, .ref konces, .int (nI ksnapMany), .int khasCells, .ref kpoured, .ref kfar, .ref ksides, .int (nI ksideMany), .int kwayDays, .int khasWay, .ref klines, .ref kmet, .int (nI kmetMany), .ref ksunk, .ref ktrying, .int (nI ksunkMany), .int ksending, .int kfleets, .ref ktext, .int (nI ktexts), .int kseed, .ref kline, .ref kwritten, .int (nI klineMany), .int khasWritten, .ref knode, .int (nI knodes), .int (nI konesMany), .int (nI kwithin), .int (nI ktop)])), (know, .inl (ky 0, 373, .inl g44)), (kname, .inl (ky 1, 12, .inr (.inl knameF))), (kkept, .inl (ky 0, 746, .inl kkeptF)), (kkeptName, .inl (ky 1, 24, .inr (.inl kkeptNameF))), (kisKept, .inl (ky 3, 2, .inl kisKeptF))] H := hP
          have hD : va_D A [(o, .inr (12, [.int (nI 0), .ref ktape, .int (nI ktaped), .int (nI ksize), .int (nI klimit), .int (nI kto), .int (nI kfrom), .int kkind, .int knumber, .int ksign, .int kfault, .int kplace, .long kword, .int ktold, .ref know, .ref kread, .ref kkept, .ref ksnaps, .ref kaside, .ref kname, .ref kreadName, .ref kkeptName, .ref kisKept, .ref konces, .int (nI ksnapMany), .int khasCells, .ref kpoured, .ref kfar, .ref ksides, .int (nI ksideMany), .int kwayDays, .int khasWay, .ref klines, .ref kmet, .int (nI kmetMany), .ref ksunk, .ref ktrying, .int (nI ksunkMany), .int ksending, .int kfleets, .ref ktext, .int (nI ktexts), .int kseed, .ref kline, .ref kwritten, .int (nI klineMany), .int khasWritten, .ref knode, .int (nI knodes), .int (nI konesMany), .int (nI kwithin), .int (nI ktop)])), (know, .inl (ky 0, 373, .inl g44)), (kname, .inl (ky 1, 12, .inr (.inl knameF))), (kkept, .inl (ky 0, 746, .inl kkeptF)), (kkeptName, .inl (ky 1, 24, .inr (.inl kkeptNameF))), (kisKept, .inl (ky 3, 2, .inl kisKeptF))] := hD
          refine lv_iinc (v := nI (k16 + 1)) (lv' := [(2, .int (nI (k16 + 1))), (0, .ref o), (1, .int (nI 1))]) hx hb dX12_restore_52 hl (k := 0) rfl (show nI k16 + nI 1 = nI (k16 + 1) from nI_add _ _) (by decide) rfl (fun ls hl => ?_)
          refine lv_goto (tgt := 27) hx hb dX12_restore_55 (by decide) ?_
          exact ih21 (k16 + 1) g44 (lf_q_restoreMT1_13 kkeptF kisKeptF hw y7 k16 f17 n20 y42 g44 kb0 kb1 hvk qi t3 t4 e8 j18 hpre hm22 c23 e43 e45) (lf_q_restoreMT1_14 kkeptF kisKeptF hw y7 k16 f17 n20 y42 g44 kb0 kb1 hvk qi t3 t4 e8 j18 hpre hm22 c23 e43 e45) (lf_q_restoreMT1_15 kkeptF kisKeptF hw y7 k16 f17 n20 y42 g44 kb0 kb1 hvk qi t3 t4 e8 j18 hpre hm22 c23 e43 e45) _ _ _ hP hD hS (lv_sub hl [0, 1, 2] rfl)
    exact hL19 ((373 - 0) + 1) 0 knowF (lf_q_restoreMT1_16 t3 t4) (lf_q_restoreMT1_17 knowF kkeptF kisKeptF hw y7 ab_now sb_now kb0 kb1 hvk qi t3 t4 e8) (Nat.lt_succ_self _) _ _ _ hP hD hS (lv_sub hl [0, 1, 2] rfl)
  · refine lv_if_eq (tgt := 23) hx hb dX12_restore_11 (by decide) (fun c46 => ?_) (fun c46 => absurd (by decide) c46)
    refine lv_iconst (v := nI 0) hx hb dX12_restore_23 (by decide) ?_
    rw [hQ]
    exact W.zret (v := nI 0) hx hb hr (by decide) (fun t9 ht9 hW9 => ⟨⟨nI 0, (nI 0, ksnapMany, knowF, knameF), rfl, ⟨(lf_q_restoreMT1_18 t5), iv_ko_5, ab_now, sb_now, (lf_q_restoreMT1_19 knowF kkeptF kisKeptF hw ab_now sb_now kb0 kb1 hvk qi t5)⟩, by rw [ht9]; exact hP, va_K.moved hW9.alike hK, hD⟩, hS.F ht9⟩) hS.2.2 dX12_restore_24
set_option maxRecDepth 20000 in
theorem lf_q_restoreMF1_1  (t3 : (nI 0).toInt ≤ (nI 1).toInt) (t4 : (nI 1).toInt ≤ (nI 1).toInt) : (nI 0) = nI 0 := by
  try have k_0 := ia_n 0 (by first | decide | omega)
  try have k_1 := ia_n 1 (by first | decide | omega)
  try simp only [ia_lt, ia_le, ia_eq, ia_m1, ia_0, ia_1, ne_eq, true_and, and_true, false_and, and_false, or_false, false_or, or_true, true_or, not_true_eq_false, not_false_eq_true] at *
  all_goals omega
set_option maxRecDepth 20000 in
theorem lf_q_restoreMF1_2  (t5 : ¬ ((nI 0).toInt ≤ (nI 1).toInt ∧ (nI 1).toInt ≤ (nI 1).toInt)) : (nI 0) = nI 0 := by
  try have k_0 := ia_n 0 (by first | decide | omega)
  try have k_1 := ia_n 1 (by first | decide | omega)
  try simp only [ia_lt, ia_le, ia_eq, ia_m1, ia_0, ia_1, ne_eq, true_and, and_true, false_and, and_false, or_false, false_or, or_true, true_or, not_true_eq_false, not_false_eq_true] at *
  all_goals omega
set_option maxHeartbeats 4000000 in
set_option maxRecDepth 100000 in
theorem c_q_restoreMF1 (l : Launch) (dC : Nat → ClassId) (dI : Nat → Nat → Nat) (ky : Nat → ClassId) (sz : Nat) (o : Nat) (kthrown : Int32) (ktape : Nat) (ktaped : Nat) (ksize : Nat) (klimit : Nat) (kto : Nat) (kfrom : Nat) (kkind : Int32) (knumber : Int32) (ksign : Int32) (kfault : Int32) (kplace : Int32) (kword : Int64) (ktold : Int32) (know : Nat) (kread : Nat) (kkept : Nat) (ksnaps : Nat) (kaside : Nat) (kname : Nat) (kreadName : Nat) (kkeptName : Nat) (kisKept : Nat) (konces : Nat) (ksnapMany : Nat) (khasCells : Int32) (kpoured : Nat) (kfar : Nat) (ksides : Nat) (ksideMany : Nat) (kwayDays : Int32) (khasWay : Int32) (klines : Nat) (kmet : Nat) (kmetMany : Nat) (ksunk : Nat) (ktrying : Nat) (ksunkMany : Nat) (ksending : Int32) (kfleets : Int32) (ktext : Nat) (ktexts : Nat) (kseed : Int32) (kline : Nat) (kwritten : Nat) (klineMany : Nat) (khasWritten : Int32) (knode : Nat) (knodes : Nat) (konesMany : Nat) (kwithin : Nat) (ktop : Nat) (kisKeptF : Nat → Int32) (iv_ko_0 : ktaped ≤ 940) (iv_ko_1 : ksize ≤ 940) (iv_ko_2 : klimit ≤ 900) (iv_ko_3 : kto ≤ ksize) (iv_ko_4 : kfrom ≤ 940) (iv_ko_5 : ksnapMany ≤ 8) (iv_ko_6 : ksideMany ≤ 36) (iv_ko_7 : kmetMany ≤ 3) (iv_ko_8 : ksunkMany ≤ 36) (iv_ko_9 : ktexts ≤ 64) (iv_ko_10 : klineMany ≤ 40) (iv_ko_11 : knodes ≤ 60) (iv_ko_12 : konesMany ≤ 20) (iv_ko_13 : kwithin ≤ 8) (iv_ko_14 : ktop ≤ 59) (hvk : kisKeptF 1 = 0) : Met l yX12_restore wsX12_restore ({ frames := 1, cells := 0, slots := 0, locals := 22 }) (PcU dC dI ky [.ref o, .int (nI 1)] [(o, .inr (12, [.int kthrown, .ref ktape, .int (nI ktaped), .int (nI ksize), .int (nI klimit), .int (nI kto), .int (nI kfrom), .int kkind, .int knumber, .int ksign, .int kfault, .int kplace, .long kword, .int ktold, .ref know, .ref kread, .ref kkept, .ref ksnaps, .ref kaside, .ref kname, .ref kreadName, .ref kkeptName, .ref kisKept, .ref konces, .int (nI ksnapMany), .int khasCells, .ref kpoured, .ref kfar, .ref ksides, .int (nI ksideMany), .int kwayDays, .int khasWay, .ref klines, .ref kmet, .int (nI kmetMany), .ref ksunk, .ref ktrying, .int (nI ksunkMany), .int ksending, .int kfleets, .ref ktext, .int (nI ktexts), .int kseed, .ref kline, .ref kwritten, .int (nI klineMany), .int khasWritten, .ref knode, .int (nI knodes), .int (nI konesMany), .int (nI kwithin), .int (nI ktop)])), (kisKept, .inl (ky 3, 2, .inl kisKeptF))] sz) (va_Qi (fun (r : Int32) (kthrownG : Int32) => r = nI 0) (BU dC dI ky (fun (kthrownG : Int32) => [(o, .inr (12, [.int kthrownG, .ref ktape, .int (nI ktaped), .int (nI ksize), .int (nI klimit), .int (nI kto), .int (nI kfrom), .int kkind, .int knumber, .int ksign, .int kfault, .int kplace, .long kword, .int ktold, .ref know, .ref kread, .ref kkept, .ref ksnaps, .ref kaside, .ref kname, .ref kreadName, .ref kkeptName, .ref kisKept, .ref konces, .int (nI ksnapMany), .int khasCells, .ref kpoured, .ref kfar, .ref ksides, .int (nI ksideMany), .int kwayDays, .int khasWay, .ref klines, .ref kmet, .int (nI kmetMany), .ref ksunk, .ref ktrying, .int (nI ksunkMany), .int ksending, .int kfleets, .ref ktext, .int (nI ktexts), .int kseed, .ref kline, .ref kwritten, .int (nI klineMany), .int khasWritten, .ref knode, .int (nI knodes), .int (nI konesMany), .int (nI kwithin), .int (nI ktop)])), (kisKept, .inl (ky 3, 2, .inl kisKeptF))]) (va_A [(o, .inr (12, [.int kthrown, .ref ktape, .int (nI ktaped), .int (nI ksize), .int (nI klimit), .int (nI kto), .int (nI kfrom), .int kkind, .int knumber, .int ksign, .int kfault, .int kplace, .long kword, .int ktold, .ref know, .ref kread, .ref kkept, .ref ksnaps, .ref kaside, .ref kname, .ref kreadName, .ref kkeptName, .ref kisKept, .ref konces, .int (nI ksnapMany), .int khasCells, .ref kpoured, .ref kfar, .ref ksides, .int (nI ksideMany), .int kwayDays, .int khasWay, .ref klines, .ref kmet, .int (nI kmetMany), .ref ksunk, .ref ktrying, .int (nI ksunkMany), .int ksending, .int kfleets, .ref ktext, .int (nI ktexts), .int kseed, .ref kline, .ref kwritten, .int (nI klineMany), .int khasWritten, .ref knode, .int (nI knodes), .int (nI konesMany), .int (nI kwithin), .int (nI ktop)])), (kisKept, .inl (ky 3, 2, .inl kisKeptF))] sz)) (va_A [(o, .inr (12, [.int kthrown, .ref ktape, .int (nI ktaped), .int (nI ksize), .int (nI klimit), .int (nI kto), .int (nI kfrom), .int kkind, .int knumber, .int ksign, .int kfault, .int kplace, .long kword, .int ktold, .ref know, .ref kread, .ref kkept, .ref ksnaps, .ref kaside, .ref kname, .ref kreadName, .ref kkeptName, .ref kisKept, .ref konces, .int (nI ksnapMany), .int khasCells, .ref kpoured, .ref kfar, .ref ksides, .int (nI ksideMany), .int kwayDays, .int khasWay, .ref klines, .ref kmet, .int (nI kmetMany), .ref ksunk, .ref ktrying, .int (nI ksunkMany), .int ksending, .int kfleets, .ref ktext, .int (nI ktexts), .int kseed, .ref kline, .ref kwritten, .int (nI klineMany), .int khasWritten, .ref knode, .int (nI knodes), .int (nI konesMany), .int (nI kwithin), .int (nI ktop)])), (kisKept, .inl (ky 3, 2, .inl kisKeptF))] sz)) 0 0 (va_A [(o, .inr (12, [.int kthrown, .ref ktape, .int (nI ktaped), .int (nI ksize), .int (nI klimit), .int (nI kto), .int (nI kfrom), .int kkind, .int knumber, .int ksign, .int kfault, .int kplace, .long kword, .int ktold, .ref know, .ref kread, .ref kkept, .ref ksnaps, .ref kaside, .ref kname, .ref kreadName, .ref kkeptName, .ref kisKept, .ref konces, .int (nI ksnapMany), .int khasCells, .ref kpoured, .ref kfar, .ref ksides, .int (nI ksideMany), .int kwayDays, .int khasWay, .ref klines, .ref kmet, .int (nI kmetMany), .ref ksunk, .ref ktrying, .int (nI ksunkMany), .int ksending, .int kfleets, .ref ktext, .int (nI ktexts), .int kseed, .ref kline, .ref kwritten, .int (nI klineMany), .int khasWritten, .ref knode, .int (nI knodes), .int (nI konesMany), .int (nI kwithin), .int (nI ktop)])), (kisKept, .inl (ky 3, 2, .inl kisKeptF))] sz) := by
  refine Met.ofW (cc := cX12_restore) (maxL := 3) (ret := (some .boolean)) (by decide) rfl ?_
  intro p e s m args below meth c s₁ B hml hv
  obtain ⟨rfl, hsz, hP, hK, hD0⟩ := hv
  have hx := B.exec
  have hb := B.bytes
  have hr := B.returns
  have hts := atoms_spec (ws := wsX12_restore) B.pre
  have hown : s.vm.findClass RX12 = some m.cls := findClass_of_methodNamed B.named
  have hlocks := B.notSynchronized
  have hin12 : ∀ w ∈ u_ws RX12 TX12 52, w ∈ wsX12_restore := by decide +kernel
  subst hsz
  have hD := hD0.self (sz := s.heap.size)
  generalize hAe : va_A [(o, .inr (12, [.int kthrown, .ref ktape, .int (nI ktaped), .int (nI ksize), .int (nI klimit), .int (nI kto), .int (nI kfrom), .int kkind, .int knumber, .int ksign, .int kfault, .int kplace, .long kword, .int ktold, .ref know, .ref kread, .ref kkept, .ref ksnaps, .ref kaside, .ref kname, .ref kreadName, .ref kkeptName, .ref kisKept, .ref konces, .int (nI ksnapMany), .int khasCells, .ref kpoured, .ref kfar, .ref ksides, .int (nI ksideMany), .int kwayDays, .int khasWay, .ref klines, .ref kmet, .int (nI kmetMany), .ref ksunk, .ref ktrying, .int (nI ksunkMany), .int ksending, .int kfleets, .ref ktext, .int (nI ktexts), .int kseed, .ref kline, .ref kwritten, .int (nI klineMany), .int khasWritten, .ref knode, .int (nI knodes), .int (nI konesMany), .int (nI kwithin), .int (nI ktop)])), (kisKept, .inl (ky 3, 2, .inl kisKeptF))] s.heap.size = A at hD ⊢
  have hA : ∀ q : Nat, s.heap.size ≤ q → A q := fun q h => by rw [← hAe]; exact Or.inr h
  have hS : va_S A s.heap s.heap [] := va_S.rf
  have hl := lv_entry ([.ref o, .int (nI 1)]) (n := 3) (Nat.le_of_ble_eq_true rfl)
  rw [lg_entry_eq]
  generalize (lg_sl ([.ref o, .int (nI 1)]) ++ List.replicate (3 - (lg_sl ([.ref o, .int (nI 1)])).length) Slot.unset).toArray = ls at hl ⊢
  have hl : lv_has ls 3 [(0, .ref o), (1, .int (nI 1))] := hl
  refine q_name (fun Q hQ => ?_)
  generalize ([.ref o, .int (nI 1)] : List Value).toArray = args at hts hQ ⊢
  refine lv_aload_n hx hb dX12_restore_0 rfl (lv_at hl 0 rfl) ?_
  refine lv_iconst (v := nI 0) hx hb dX12_restore_1 (by decide) ?_
  refine va_put (D := (dC, dI)) (ci := 12) (v := .int (nI 0)) (ty := .int) (C := RX12) (T := TX12) (N := 52) hx hb hts hin12 tyX12 tyX12_ok nmX12 hown hK hP hD hS 0 rfl rfl 0 (by decide) (hts (.fieldLink RX12 1 "PorridgeSeaModel" "thrown" "I") (List.mem_of_getElem? (i := 1) rfl)) (fun _ h9 => h9) rfl (by decide +kernel) rfl rfl (Nat.le_of_ble_eq_true rfl) dX12_restore_2 (fun H locs hP hD hS => ?_)
  have hP : va_P (dC, dI) vwCl [(o, .inr (12, [.int (nI 0), .ref ktape, .int (nI ktaped), .int (nI ksize), .int (nI klimit), .int (nI kto), .int (nI kfrom), .int kkind, .int knumber, .int ksign, .int kfault, .int kplace, .long kword, .int ktold, .ref know, .ref kread, .ref kkept, .ref ksnaps, .ref kaside, .ref kname, .ref kreadName, .ref kkeptName, .ref kisKept, .ref konces, .int (nI ksnapMany), .int khasCells, .ref kpoured, .ref kfar, .ref ksides, .int (nI ksideMany), .int kwayDays, .int khasWay, .ref klines, .ref kmet, .int (nI kmetMany), .ref ksunk, .ref ktrying, .int (nI ksunkMany), .int ksending, .int kfleets, .ref ktext, .int (nI ktexts), .int kseed, .ref kline, .ref kwritten, .int (nI klineMany), .int khasWritten, .ref knode, .int (nI knodes), .int (nI konesMany), .int (nI kwithin), .int (nI ktop)])), (kisKept, .inl (ky 3, 2, .inl kisKeptF))] H := hP
  have hD : va_D A [(o, .inr (12, [.int (nI 0), .ref ktape, .int (nI ktaped), .int (nI ksize), .int (nI klimit), .int (nI kto), .int (nI kfrom), .int kkind, .int knumber, .int ksign, .int kfault, .int kplace, .long kword, .int ktold, .ref know, .ref kread, .ref kkept, .ref ksnaps, .ref kaside, .ref kname, .ref kreadName, .ref kkeptName, .ref kisKept, .ref konces, .int (nI ksnapMany), .int khasCells, .ref kpoured, .ref kfar, .ref ksides, .int (nI ksideMany), .int kwayDays, .int khasWay, .ref klines, .ref kmet, .int (nI kmetMany), .ref ksunk, .ref ktrying, .int (nI ksunkMany), .int ksending, .int kfleets, .ref ktext, .int (nI ktexts), .int kseed, .ref kline, .ref kwritten, .int (nI klineMany), .int khasWritten, .ref knode, .int (nI knodes), .int (nI konesMany), .int (nI kwithin), .int (nI ktop)])), (kisKept, .inl (ky 3, 2, .inl kisKeptF))] := hD
  refine lv_iload_n hx hb dX12_restore_5 rfl (lv_at hl 1 rfl) ?_
  refine lv_iconst (v := nI 0) hx hb dX12_restore_6 (by decide) ?_
  refine lv_iconst (v := nI 1) hx hb dX12_restore_7 (by decide) ?_
  refine vp_callSi (W.runS (As := [.int (nI 1), .int (nI 0), .int (nI 1)]) (rest := []) ⟨hx, hb, hml, hown, hts⟩ (c_x_isIn l dC dI ky (nI 1) (nI 0) (nI 1)) (va_cwS 3 hts gX12_restore_X12_isIn rfl rfl rfl (by decide +kernel) ⟨(Nat.le_of_ble_eq_true rfl), (Nat.le_of_ble_eq_true rfl)⟩) (pre_PS hK hP [] rfl) rfl rfl hl.1 rfl (lv_room (Nat.le_of_ble_eq_true rfl)) dX12_restore_8 ⟨(Nat.le_of_ble_eq_true rfl), (Nat.le_of_ble_eq_true rfl)⟩) (fun r1 p2 => ?_)
  rcases p2 with ⟨rfl, t3, t4⟩ | ⟨rfl, t5⟩
  · refine lv_if_eq (tgt := 23) hx hb dX12_restore_11 (by decide) (fun c6 => absurd c6 (by decide)) (fun c6 => ?_)
    refine lv_aload_n hx hb dX12_restore_14 rfl (lv_at hl 0 rfl) ?_
    refine va_get (D := (dC, dI)) (ci := 12) (v := .ref kisKept) (C := RX12) (T := TX12) (N := 52) hx hb hts hin12 hown hK hP 0 rfl rfl 22 (by decide) (hts (.fieldLink RX12 123 "PorridgeSeaModel" "isKept" "[Z") (List.mem_of_getElem? (i := 2) rfl)) (fun _ h9 => h9) rfl dX12_restore_15 ?_
    refine lv_iload_n hx hb dX12_restore_18 rfl (lv_at hl 1 rfl) ?_
    obtain ⟨y7, e8⟩ : ∃ z9, z9 = kisKeptF 1 := ⟨_, rfl⟩
    refine r_zald hx hb hK hP 1 rfl 1 (by decide) (by decide) y7 e8.symm dX12_restore_19 ?_
    refine lv_if_ne (tgt := 25) hx hb dX12_restore_20 (by decide) (fun c9 => absurd (e8.trans hvk) c9) (fun c9 => ?_)
    refine lv_iconst (v := nI 0) hx hb dX12_restore_23 (by decide) ?_
    rw [hQ]
    exact W.zret (v := nI 0) hx hb hr (by decide) (fun t9 ht9 hW9 => ⟨⟨nI 0, (nI 0), rfl, (lf_q_restoreMF1_1 t3 t4), by rw [ht9]; exact hP, va_K.moved hW9.alike hK, hD⟩, hS.F ht9⟩) hS.2.2 dX12_restore_24
  · refine lv_if_eq (tgt := 23) hx hb dX12_restore_11 (by decide) (fun c10 => ?_) (fun c10 => absurd (by decide) c10)
    refine lv_iconst (v := nI 0) hx hb dX12_restore_23 (by decide) ?_
    rw [hQ]
    exact W.zret (v := nI 0) hx hb hr (by decide) (fun t9 ht9 hW9 => ⟨⟨nI 0, (nI 0), rfl, (lf_q_restoreMF1_2 t5), by rw [ht9]; exact hP, va_K.moved hW9.alike hK, hD⟩, hS.F ht9⟩) hS.2.2 dX12_restore_24
set_option maxRecDepth 20000 in
theorem lf_q_countM_1 (ktaped : Nat) (knowF : Nat → Int32) (hd : Nat → Int32) (x : Int32) (iv_ko_0 : ktaped ≤ 940) (ab_now : NB knowF) (qm : HMo hd knowF) (c2 : x.toInt < 0 ∨ 6 < x.toInt) : (-1 : Int32) = cntF hd ktaped x := by
  exact (cnt_n _ _ (by assumption)).symm
set_option maxRecDepth 20000 in
theorem lf_q_countM_2 (ktaped : Nat) (knowF : Nat → Int32) (hd : Nat → Int32) (x : Int32) (y10 : Int32) (iv_ko_0 : ktaped ≤ 940) (ab_now : NB knowF) (qm : HMo hd knowF) (c3 : x = nI 0) (e11 : y10 = knowF 0) (b12 : 2 ≤ y10.toInt) (b13 : y10.toInt ≤ 6) : y10 = cntF hd ktaped x := by
  rw [c3]
  rw [e11]
  exact Eq.trans (qm.1) ((cnt_v hd ktaped).1).symm
set_option maxRecDepth 20000 in
theorem lf_q_countM_3 (ktaped : Nat) (knowF : Nat → Int32) (hd : Nat → Int32) (x : Int32) (y14 : Int32) (iv_ko_0 : ktaped ≤ 940) (ab_now : NB knowF) (qm : HMo hd knowF) (c4 : x = nI 1) (e15 : y14 = knowF 1) (b16 : 2 ≤ y14.toInt) (b17 : y14.toInt ≤ 6) : y14 = cntF hd ktaped x := by
  rw [c4]
  rw [e15]
  exact Eq.trans (qm.2.1) ((cnt_v hd ktaped).2.1).symm
set_option maxRecDepth 20000 in
theorem lf_q_countM_4 (ktaped : Nat) (knowF : Nat → Int32) (hd : Nat → Int32) (x : Int32) (y18 : Int32) (iv_ko_0 : ktaped ≤ 940) (ab_now : NB knowF) (qm : HMo hd knowF) (c5 : x = nI 2) (e19 : y18 = knowF 2) (b20 : 0 ≤ y18.toInt) (b21 : y18.toInt ≤ 6) : y18 = cntF hd ktaped x := by
  rw [c5]
  rw [e19]
  exact Eq.trans (qm.2.2.1) ((cnt_v hd ktaped).2.2.1).symm
set_option maxRecDepth 20000 in
theorem lf_q_countM_5 (ktaped : Nat) (knowF : Nat → Int32) (hd : Nat → Int32) (x : Int32) (y22 : Int32) (iv_ko_0 : ktaped ≤ 940) (ab_now : NB knowF) (qm : HMo hd knowF) (c6 : x = nI 3) (e23 : y22 = knowF 3) (b24 : 0 ≤ y22.toInt) (b25 : y22.toInt ≤ 6) : y22 = cntF hd ktaped x := by
  rw [c6]
  rw [e23]
  exact Eq.trans (qm.2.2.2.1) ((cnt_v hd ktaped).2.2.2.1).symm
set_option maxRecDepth 20000 in
theorem lf_q_countM_6 (ktaped : Nat) (knowF : Nat → Int32) (hd : Nat → Int32) (x : Int32) (y26 : Int32) (iv_ko_0 : ktaped ≤ 940) (ab_now : NB knowF) (qm : HMo hd knowF) (c7 : x = nI 4) (e27 : y26 = knowF 5) : y26 = cntF hd ktaped x := by
  rw [c7]
  rw [e27]
  exact Eq.trans (qm.2.2.2.2.1) ((cnt_v hd ktaped).2.2.2.2.1).symm
set_option maxRecDepth 20000 in
theorem lf_q_countM_7 (ktaped : Nat) (knowF : Nat → Int32) (hd : Nat → Int32) (x : Int32) (y28 : Int32) (iv_ko_0 : ktaped ≤ 940) (ab_now : NB knowF) (qm : HMo hd knowF) (c8 : x = nI 5) (e29 : y28 = knowF 6) : y28 = cntF hd ktaped x := by
  rw [c8]
  rw [e29]
  exact Eq.trans (qm.2.2.2.2.2) ((cnt_v hd ktaped).2.2.2.2.2.1).symm
set_option maxRecDepth 20000 in
theorem lf_q_countM_8 (ktaped : Nat) (knowF : Nat → Int32) (hd : Nat → Int32) (x : Int32) (iv_ko_0 : ktaped ≤ 940) (ab_now : NB knowF) (qm : HMo hd knowF) (c9 : x = nI 6) : (nI ktaped) = cntF hd ktaped x := by
  rw [c9]
  exact Eq.trans (rfl) ((cnt_v hd ktaped).2.2.2.2.2.2).symm
set_option maxHeartbeats 4000000 in
set_option maxRecDepth 100000 in
theorem c_q_countM (l : Launch) (dC : Nat → ClassId) (dI : Nat → Nat → Nat) (ky : Nat → ClassId) (sz : Nat) (o : Nat) (kthrown : Int32) (ktape : Nat) (ktaped : Nat) (ksize : Nat) (klimit : Nat) (kto : Nat) (kfrom : Nat) (kkind : Int32) (knumber : Int32) (ksign : Int32) (kfault : Int32) (kplace : Int32) (kword : Int64) (ktold : Int32) (know : Nat) (kread : Nat) (kkept : Nat) (ksnaps : Nat) (kaside : Nat) (kname : Nat) (kreadName : Nat) (kkeptName : Nat) (kisKept : Nat) (konces : Nat) (ksnapMany : Nat) (khasCells : Int32) (kpoured : Nat) (kfar : Nat) (ksides : Nat) (ksideMany : Nat) (kwayDays : Int32) (khasWay : Int32) (klines : Nat) (kmet : Nat) (kmetMany : Nat) (ksunk : Nat) (ktrying : Nat) (ksunkMany : Nat) (ksending : Int32) (kfleets : Int32) (ktext : Nat) (ktexts : Nat) (kseed : Int32) (kline : Nat) (kwritten : Nat) (klineMany : Nat) (khasWritten : Int32) (knode : Nat) (knodes : Nat) (konesMany : Nat) (kwithin : Nat) (ktop : Nat) (knowF : Nat → Int32) (hd : Nat → Int32) (x : Int32) (iv_ko_0 : ktaped ≤ 940) (iv_ko_1 : ksize ≤ 940) (iv_ko_2 : klimit ≤ 900) (iv_ko_3 : kto ≤ ksize) (iv_ko_4 : kfrom ≤ 940) (iv_ko_5 : ksnapMany ≤ 8) (iv_ko_6 : ksideMany ≤ 36) (iv_ko_7 : kmetMany ≤ 3) (iv_ko_8 : ksunkMany ≤ 36) (iv_ko_9 : ktexts ≤ 64) (iv_ko_10 : klineMany ≤ 40) (iv_ko_11 : knodes ≤ 60) (iv_ko_12 : konesMany ≤ 20) (iv_ko_13 : kwithin ≤ 8) (iv_ko_14 : ktop ≤ 59) (ab_now : NB knowF) (qm : HMo hd knowF) : Met l yX12_count wsX12_count ({ frames := 0, cells := 0, slots := 0, locals := 0 }) (PcU dC dI ky [.ref o, .int x] [(o, .inr (12, [.int kthrown, .ref ktape, .int (nI ktaped), .int (nI ksize), .int (nI klimit), .int (nI kto), .int (nI kfrom), .int kkind, .int knumber, .int ksign, .int kfault, .int kplace, .long kword, .int ktold, .ref know, .ref kread, .ref kkept, .ref ksnaps, .ref kaside, .ref kname, .ref kreadName, .ref kkeptName, .ref kisKept, .ref konces, .int (nI ksnapMany), .int khasCells, .ref kpoured, .ref kfar, .ref ksides, .int (nI ksideMany), .int kwayDays, .int khasWay, .ref klines, .ref kmet, .int (nI kmetMany), .ref ksunk, .ref ktrying, .int (nI ksunkMany), .int ksending, .int kfleets, .ref ktext, .int (nI ktexts), .int kseed, .ref kline, .ref kwritten, .int (nI klineMany), .int khasWritten, .ref knode, .int (nI knodes), .int (nI konesMany), .int (nI kwithin), .int (nI ktop)])), (know, .inl (ky 0, 373, .inl knowF))] sz) (va_Qi (fun (r : Int32) (kthrownG : Int32) => r = cntF hd ktaped x) (BU dC dI ky (fun (kthrownG : Int32) => [(o, .inr (12, [.int kthrownG, .ref ktape, .int (nI ktaped), .int (nI ksize), .int (nI klimit), .int (nI kto), .int (nI kfrom), .int kkind, .int knumber, .int ksign, .int kfault, .int kplace, .long kword, .int ktold, .ref know, .ref kread, .ref kkept, .ref ksnaps, .ref kaside, .ref kname, .ref kreadName, .ref kkeptName, .ref kisKept, .ref konces, .int (nI ksnapMany), .int khasCells, .ref kpoured, .ref kfar, .ref ksides, .int (nI ksideMany), .int kwayDays, .int khasWay, .ref klines, .ref kmet, .int (nI kmetMany), .ref ksunk, .ref ktrying, .int (nI ksunkMany), .int ksending, .int kfleets, .ref ktext, .int (nI ktexts), .int kseed, .ref kline, .ref kwritten, .int (nI klineMany), .int khasWritten, .ref knode, .int (nI knodes), .int (nI konesMany), .int (nI kwithin), .int (nI ktop)])), (know, .inl (ky 0, 373, .inl knowF))]) (va_A [(o, .inr (12, [.int kthrown, .ref ktape, .int (nI ktaped), .int (nI ksize), .int (nI klimit), .int (nI kto), .int (nI kfrom), .int kkind, .int knumber, .int ksign, .int kfault, .int kplace, .long kword, .int ktold, .ref know, .ref kread, .ref kkept, .ref ksnaps, .ref kaside, .ref kname, .ref kreadName, .ref kkeptName, .ref kisKept, .ref konces, .int (nI ksnapMany), .int khasCells, .ref kpoured, .ref kfar, .ref ksides, .int (nI ksideMany), .int kwayDays, .int khasWay, .ref klines, .ref kmet, .int (nI kmetMany), .ref ksunk, .ref ktrying, .int (nI ksunkMany), .int ksending, .int kfleets, .ref ktext, .int (nI ktexts), .int kseed, .ref kline, .ref kwritten, .int (nI klineMany), .int khasWritten, .ref knode, .int (nI knodes), .int (nI konesMany), .int (nI kwithin), .int (nI ktop)])), (know, .inl (ky 0, 373, .inl knowF))] sz)) (va_A [(o, .inr (12, [.int kthrown, .ref ktape, .int (nI ktaped), .int (nI ksize), .int (nI klimit), .int (nI kto), .int (nI kfrom), .int kkind, .int knumber, .int ksign, .int kfault, .int kplace, .long kword, .int ktold, .ref know, .ref kread, .ref kkept, .ref ksnaps, .ref kaside, .ref kname, .ref kreadName, .ref kkeptName, .ref kisKept, .ref konces, .int (nI ksnapMany), .int khasCells, .ref kpoured, .ref kfar, .ref ksides, .int (nI ksideMany), .int kwayDays, .int khasWay, .ref klines, .ref kmet, .int (nI kmetMany), .ref ksunk, .ref ktrying, .int (nI ksunkMany), .int ksending, .int kfleets, .ref ktext, .int (nI ktexts), .int kseed, .ref kline, .ref kwritten, .int (nI klineMany), .int khasWritten, .ref knode, .int (nI knodes), .int (nI konesMany), .int (nI kwithin), .int (nI ktop)])), (know, .inl (ky 0, 373, .inl knowF))] sz)) 0 0 (va_A [(o, .inr (12, [.int kthrown, .ref ktape, .int (nI ktaped), .int (nI ksize), .int (nI klimit), .int (nI kto), .int (nI kfrom), .int kkind, .int knumber, .int ksign, .int kfault, .int kplace, .long kword, .int ktold, .ref know, .ref kread, .ref kkept, .ref ksnaps, .ref kaside, .ref kname, .ref kreadName, .ref kkeptName, .ref kisKept, .ref konces, .int (nI ksnapMany), .int khasCells, .ref kpoured, .ref kfar, .ref ksides, .int (nI ksideMany), .int kwayDays, .int khasWay, .ref klines, .ref kmet, .int (nI kmetMany), .ref ksunk, .ref ktrying, .int (nI ksunkMany), .int ksending, .int kfleets, .ref ktext, .int (nI ktexts), .int kseed, .ref kline, .ref kwritten, .int (nI klineMany), .int khasWritten, .ref knode, .int (nI knodes), .int (nI konesMany), .int (nI kwithin), .int (nI ktop)])), (know, .inl (ky 0, 373, .inl knowF))] sz) := by
  refine Met.ofW (cc := cX12_count) (maxL := 2) (ret := (some .int)) (by decide) rfl ?_
  intro p e s m args below meth c s₁ B hml hv
  obtain ⟨rfl, hsz, hP, hK, hD0⟩ := hv
  have hx := B.exec
  have hb := B.bytes
  have hr := B.returns
  have hts := atoms_spec (ws := wsX12_count) B.pre
  have hown : s.vm.findClass RX12 = some m.cls := findClass_of_methodNamed B.named
  have hlocks := B.notSynchronized
  have hin12 : ∀ w ∈ u_ws RX12 TX12 52, w ∈ wsX12_count := by decide +kernel
  subst hsz
  have hD := hD0.self (sz := s.heap.size)
  generalize hAe : va_A [(o, .inr (12, [.int kthrown, .ref ktape, .int (nI ktaped), .int (nI ksize), .int (nI klimit), .int (nI kto), .int (nI kfrom), .int kkind, .int knumber, .int ksign, .int kfault, .int kplace, .long kword, .int ktold, .ref know, .ref kread, .ref kkept, .ref ksnaps, .ref kaside, .ref kname, .ref kreadName, .ref kkeptName, .ref kisKept, .ref konces, .int (nI ksnapMany), .int khasCells, .ref kpoured, .ref kfar, .ref ksides, .int (nI ksideMany), .int kwayDays, .int khasWay, .ref klines, .ref kmet, .int (nI kmetMany), .ref ksunk, .ref ktrying, .int (nI ksunkMany), .int ksending, .int kfleets, .ref ktext, .int (nI ktexts), .int kseed, .ref kline, .ref kwritten, .int (nI klineMany), .int khasWritten, .ref knode, .int (nI knodes), .int (nI konesMany), .int (nI kwithin), .int (nI ktop)])), (know, .inl (ky 0, 373, .inl knowF))] s.heap.size = A at hD ⊢
  have hA : ∀ q : Nat, s.heap.size ≤ q → A q := fun q h => by rw [← hAe]; exact Or.inr h
  have hS : va_S A s.heap s.heap [] := va_S.rf
  have hl := lv_entry ([.ref o, .int x]) (n := 2) (Nat.le_of_ble_eq_true rfl)
  rw [lg_entry_eq]
  generalize (lg_sl ([.ref o, .int x]) ++ List.replicate (2 - (lg_sl ([.ref o, .int x])).length) Slot.unset).toArray = ls at hl ⊢
  have hl : lv_has ls 2 [(0, .ref o), (1, .int x)] := hl
  refine q_name (fun Q hQ => ?_)
  generalize ([.ref o, .int x] : List Value).toArray = args at hts hQ ⊢
  refine lv_aload_n hx hb dX12_count_0 rfl (lv_at hl 0 rfl) ?_
  refine lv_iconst (v := nI 0) hx hb dX12_count_1 (by decide) ?_
  refine va_put (D := (dC, dI)) (ci := 12) (v := .int (nI 0)) (ty := .int) (C := RX12) (T := TX12) (N := 52) hx hb hts hin12 tyX12 tyX12_ok nmX12 hown hK hP hD hS 0 rfl rfl 0 (by decide) (hts (.fieldLink RX12 1 "PorridgeSeaModel" "thrown" "I") (List.mem_of_getElem? (i := 1) rfl)) (fun _ h9 => h9) rfl (by decide +kernel) rfl rfl (Nat.le_of_ble_eq_true rfl) dX12_count_2 (fun H locs hP hD hS => ?_)
  have hP : va_P (dC, dI) vwCl [(o, .inr (12, [.int (nI 0), .ref ktape, .int (nI ktaped), .int (nI ksize), .int (nI klimit), .int (nI kto), .int (nI kfrom), .int kkind, .int knumber, .int ksign, .int kfault, .int kplace, .long kword, .int ktold, .ref know, .ref kread, .ref kkept, .ref ksnaps, .ref kaside, .ref kname, .ref kreadName, .ref kkeptName, .ref kisKept, .ref konces, .int (nI ksnapMany), .int khasCells, .ref kpoured, .ref kfar, .ref ksides, .int (nI ksideMany), .int kwayDays, .int khasWay, .ref klines, .ref kmet, .int (nI kmetMany), .ref ksunk, .ref ktrying, .int (nI ksunkMany), .int ksending, .int kfleets, .ref ktext, .int (nI ktexts), .int kseed, .ref kline, .ref kwritten, .int (nI klineMany), .int khasWritten, .ref knode, .int (nI knodes), .int (nI konesMany), .int (nI kwithin), .int (nI ktop)])), (know, .inl (ky 0, 373, .inl knowF))] H := hP
  have hD : va_D A [(o, .inr (12, [.int (nI 0), .ref ktape, .int (nI ktaped), .int (nI ksize), .int (nI klimit), .int (nI kto), .int (nI kfrom), .int kkind, .int knumber, .int ksign, .int kfault, .int kplace, .long kword, .int ktold, .ref know, .ref kread, .ref kkept, .ref ksnaps, .ref kaside, .ref kname, .ref kreadName, .ref kkeptName, .ref kisKept, .ref konces, .int (nI ksnapMany), .int khasCells, .ref kpoured, .ref kfar, .ref ksides, .int (nI ksideMany), .int kwayDays, .int khasWay, .ref klines, .ref kmet, .int (nI kmetMany), .ref ksunk, .ref ktrying, .int (nI ksunkMany), .int ksending, .int kfleets, .ref ktext, .int (nI ktexts), .int kseed, .ref kline, .ref kwritten, .int (nI klineMany), .int khasWritten, .ref knode, .int (nI knodes), .int (nI konesMany), .int (nI kwithin), .int (nI ktop)])), (know, .inl (ky 0, 373, .inl knowF))] := hD
  refine lv_iload_n hx hb dX12_count_5 rfl (lv_at hl 1 rfl) ?_
  rcases sw_0_6 x with c2 | c3 | c4 | c5 | c6 | c7 | c8 | c9
  · refine lv_tableOut (tgt := 96) hx hb dX12_count_6 c2 (by decide) ?_
    refine lv_iconst (v := (-1 : Int32)) hx hb dX12_count_96 (by decide) ?_
    rw [hQ]
    exact W.iret (v := (-1 : Int32)) hx hb hr (fun t9 ht9 hW9 => ⟨⟨(-1 : Int32), (nI 0), rfl, (lf_q_countM_1 ktaped knowF hd x iv_ko_0 ab_now qm c2), by rw [ht9]; exact hP, va_K.moved hW9.alike hK, hD⟩, hS.F ht9⟩) hS.2.2 dX12_count_97
  · refine r_ti (nI 0) c3 ?_
    rw [c3] at hl
    refine lv_tableIn (off := 42) (tgt := 48) hx hb dX12_count_6 (by decide) (by decide) rfl (by decide) ?_
    refine lv_aload_n hx hb dX12_count_48 rfl (lv_at hl 0 rfl) ?_
    refine va_get (D := (dC, dI)) (ci := 12) (v := .ref know) (C := RX12) (T := TX12) (N := 52) hx hb hts hin12 hown hK hP 0 rfl rfl 14 (by decide) (hts (.fieldLink RX12 98 "PorridgeSeaModel" "now" "[I") (List.mem_of_getElem? (i := 2) rfl)) (fun _ h9 => h9) rfl dX12_count_49 ?_
    refine lv_iconst (v := nI 0) hx hb dX12_count_52 (by decide) ?_
    obtain ⟨y10, e11⟩ : ∃ z9, z9 = knowF 0 := ⟨_, rfl⟩
    refine r_iald hx hb hK hP 1 rfl 0 (by decide) (by decide) y10 e11.symm dX12_count_53 ?_
    obtain ⟨b12, b13⟩ : (2 : Int) ≤ y10.toInt ∧ y10.toInt ≤ 6 := by rw [e11]; exact ld_NB_0 ab_now 0 (by decide) (by decide)
    rw [hQ]
    exact W.iret (v := y10) hx hb hr (fun t9 ht9 hW9 => ⟨⟨y10, (nI 0), rfl, (lf_q_countM_2 ktaped knowF hd x y10 iv_ko_0 ab_now qm c3 e11 b12 b13), by rw [ht9]; exact hP, va_K.moved hW9.alike hK, hD⟩, hS.F ht9⟩) hS.2.2 dX12_count_54
  · refine r_ti (nI 1) c4 ?_
    rw [c4] at hl
    refine lv_tableIn (off := 49) (tgt := 55) hx hb dX12_count_6 (by decide) (by decide) rfl (by decide) ?_
    refine lv_aload_n hx hb dX12_count_55 rfl (lv_at hl 0 rfl) ?_
    refine va_get (D := (dC, dI)) (ci := 12) (v := .ref know) (C := RX12) (T := TX12) (N := 52) hx hb hts hin12 hown hK hP 0 rfl rfl 14 (by decide) (hts (.fieldLink RX12 98 "PorridgeSeaModel" "now" "[I") (List.mem_of_getElem? (i := 2) rfl)) (fun _ h9 => h9) rfl dX12_count_56 ?_
    refine lv_iconst (v := nI 1) hx hb dX12_count_59 (by decide) ?_
    obtain ⟨y14, e15⟩ : ∃ z9, z9 = knowF 1 := ⟨_, rfl⟩
    refine r_iald hx hb hK hP 1 rfl 1 (by decide) (by decide) y14 e15.symm dX12_count_60 ?_
    obtain ⟨b16, b17⟩ : (2 : Int) ≤ y14.toInt ∧ y14.toInt ≤ 6 := by rw [e15]; exact ld_NB_1 ab_now 1 (by decide) (by decide)
    rw [hQ]
    exact W.iret (v := y14) hx hb hr (fun t9 ht9 hW9 => ⟨⟨y14, (nI 0), rfl, (lf_q_countM_3 ktaped knowF hd x y14 iv_ko_0 ab_now qm c4 e15 b16 b17), by rw [ht9]; exact hP, va_K.moved hW9.alike hK, hD⟩, hS.F ht9⟩) hS.2.2 dX12_count_61
  · refine r_ti (nI 2) c5 ?_
    rw [c5] at hl
    refine lv_tableIn (off := 56) (tgt := 62) hx hb dX12_count_6 (by decide) (by decide) rfl (by decide) ?_
    refine lv_aload_n hx hb dX12_count_62 rfl (lv_at hl 0 rfl) ?_
    refine va_get (D := (dC, dI)) (ci := 12) (v := .ref know) (C := RX12) (T := TX12) (N := 52) hx hb hts hin12 hown hK hP 0 rfl rfl 14 (by decide) (hts (.fieldLink RX12 98 "PorridgeSeaModel" "now" "[I") (List.mem_of_getElem? (i := 2) rfl)) (fun _ h9 => h9) rfl dX12_count_63 ?_
    refine lv_iconst (v := nI 2) hx hb dX12_count_66 (by decide) ?_
    obtain ⟨y18, e19⟩ : ∃ z9, z9 = knowF 2 := ⟨_, rfl⟩
    refine r_iald hx hb hK hP 1 rfl 2 (by decide) (by decide) y18 e19.symm dX12_count_67 ?_
    obtain ⟨b20, b21⟩ : (0 : Int) ≤ y18.toInt ∧ y18.toInt ≤ 6 := by rw [e19]; exact ld_NB_2 ab_now 2 (by decide) (by decide)
    rw [hQ]
    exact W.iret (v := y18) hx hb hr (fun t9 ht9 hW9 => ⟨⟨y18, (nI 0), rfl, (lf_q_countM_4 ktaped knowF hd x y18 iv_ko_0 ab_now qm c5 e19 b20 b21), by rw [ht9]; exact hP, va_K.moved hW9.alike hK, hD⟩, hS.F ht9⟩) hS.2.2 dX12_count_68
  · refine r_ti (nI 3) c6 ?_
    rw [c6] at hl
    refine lv_tableIn (off := 63) (tgt := 69) hx hb dX12_count_6 (by decide) (by decide) rfl (by decide) ?_
    refine lv_aload_n hx hb dX12_count_69 rfl (lv_at hl 0 rfl) ?_
    refine va_get (D := (dC, dI)) (ci := 12) (v := .ref know) (C := RX12) (T := TX12) (N := 52) hx hb hts hin12 hown hK hP 0 rfl rfl 14 (by decide) (hts (.fieldLink RX12 98 "PorridgeSeaModel" "now" "[I") (List.mem_of_getElem? (i := 2) rfl)) (fun _ h9 => h9) rfl dX12_count_70 ?_
    refine lv_iconst (v := nI 3) hx hb dX12_count_73 (by decide) ?_
    obtain ⟨y22, e23⟩ : ∃ z9, z9 = knowF 3 := ⟨_, rfl⟩
    refine r_iald hx hb hK hP 1 rfl 3 (by decide) (by decide) y22 e23.symm dX12_count_74 ?_
    obtain ⟨b24, b25⟩ : (0 : Int) ≤ y22.toInt ∧ y22.toInt ≤ 6 := by rw [e23]; exact ld_NB_3 ab_now 3 (by decide) (by decide)
    rw [hQ]
    exact W.iret (v := y22) hx hb hr (fun t9 ht9 hW9 => ⟨⟨y22, (nI 0), rfl, (lf_q_countM_5 ktaped knowF hd x y22 iv_ko_0 ab_now qm c6 e23 b24 b25), by rw [ht9]; exact hP, va_K.moved hW9.alike hK, hD⟩, hS.F ht9⟩) hS.2.2 dX12_count_75
  · refine r_ti (nI 4) c7 ?_
    rw [c7] at hl
    refine lv_tableIn (off := 70) (tgt := 76) hx hb dX12_count_6 (by decide) (by decide) rfl (by decide) ?_
    refine lv_aload_n hx hb dX12_count_76 rfl (lv_at hl 0 rfl) ?_
    refine va_get (D := (dC, dI)) (ci := 12) (v := .ref know) (C := RX12) (T := TX12) (N := 52) hx hb hts hin12 hown hK hP 0 rfl rfl 14 (by decide) (hts (.fieldLink RX12 98 "PorridgeSeaModel" "now" "[I") (List.mem_of_getElem? (i := 2) rfl)) (fun _ h9 => h9) rfl dX12_count_77 ?_
    refine lv_iconst (v := nI 5) hx hb dX12_count_80 (by decide) ?_
    obtain ⟨y26, e27⟩ : ∃ z9, z9 = knowF 5 := ⟨_, rfl⟩
    refine r_iald hx hb hK hP 1 rfl 5 (by decide) (by decide) y26 e27.symm dX12_count_81 ?_
    rw [hQ]
    exact W.iret (v := y26) hx hb hr (fun t9 ht9 hW9 => ⟨⟨y26, (nI 0), rfl, (lf_q_countM_6 ktaped knowF hd x y26 iv_ko_0 ab_now qm c7 e27), by rw [ht9]; exact hP, va_K.moved hW9.alike hK, hD⟩, hS.F ht9⟩) hS.2.2 dX12_count_82
  · refine r_ti (nI 5) c8 ?_
    rw [c8] at hl
    refine lv_tableIn (off := 77) (tgt := 83) hx hb dX12_count_6 (by decide) (by decide) rfl (by decide) ?_
    refine lv_aload_n hx hb dX12_count_83 rfl (lv_at hl 0 rfl) ?_
    refine va_get (D := (dC, dI)) (ci := 12) (v := .ref know) (C := RX12) (T := TX12) (N := 52) hx hb hts hin12 hown hK hP 0 rfl rfl 14 (by decide) (hts (.fieldLink RX12 98 "PorridgeSeaModel" "now" "[I") (List.mem_of_getElem? (i := 2) rfl)) (fun _ h9 => h9) rfl dX12_count_84 ?_
    refine lv_bipush (v := nI 6) hx hb dX12_count_87 (by decide) ?_
    obtain ⟨y28, e29⟩ : ∃ z9, z9 = knowF 6 := ⟨_, rfl⟩
    refine r_iald hx hb hK hP 1 rfl 6 (by decide) (by decide) y28 e29.symm dX12_count_89 ?_
    rw [hQ]
    exact W.iret (v := y28) hx hb hr (fun t9 ht9 hW9 => ⟨⟨y28, (nI 0), rfl, (lf_q_countM_7 ktaped knowF hd x y28 iv_ko_0 ab_now qm c8 e29), by rw [ht9]; exact hP, va_K.moved hW9.alike hK, hD⟩, hS.F ht9⟩) hS.2.2 dX12_count_90
  · refine r_ti (nI 6) c9 ?_
    rw [c9] at hl
    refine lv_tableIn (off := 85) (tgt := 91) hx hb dX12_count_6 (by decide) (by decide) rfl (by decide) ?_
    refine lv_aload_n hx hb dX12_count_91 rfl (lv_at hl 0 rfl) ?_
    refine va_get (D := (dC, dI)) (ci := 12) (v := .int (nI ktaped)) (C := RX12) (T := TX12) (N := 52) hx hb hts hin12 hown hK hP 0 rfl rfl 2 (by decide) (hts (.fieldLink RX12 11 "PorridgeSeaModel" "taped" "I") (List.mem_of_getElem? (i := 3) rfl)) (fun _ h9 => h9) rfl dX12_count_92 ?_
    rw [hQ]
    exact W.iret (v := nI ktaped) hx hb hr (fun t9 ht9 hW9 => ⟨⟨nI ktaped, (nI 0), rfl, (lf_q_countM_8 ktaped knowF hd x iv_ko_0 ab_now qm c9), by rw [ht9]; exact hP, va_K.moved hW9.alike hK, hD⟩, hS.F ht9⟩) hS.2.2 dX12_count_95
