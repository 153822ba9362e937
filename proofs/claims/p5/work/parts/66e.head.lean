set_option maxRecDepth 20000 in
theorem lf_e_goBy_1 (klineF : Nat → Int32) (aq : Nat) (y1 : Int32) (ha : aq ≤ 156) (hl0 : 0 ≤ (klineF aq).toInt ∧ (klineF aq).toInt ≤ 5) (hl1 : ¬ klineF aq = nI 0 ∨ (0 ≤ (klineF (aq + 1)).toInt ∧ (klineF (aq + 1)).toInt ≤ 1 ∧ 0 ≤ (klineF (aq + 2)).toInt ∧ (klineF (aq + 2)).toInt ≤ 5 ∧ 0 ≤ (klineF (aq + 3)).toInt ∧ (klineF (aq + 3)).toInt ≤ 1)) (hl2 : ¬ klineF aq = nI 1 ∨ (0 ≤ (klineF (aq + 1)).toInt ∧ (klineF (aq + 1)).toInt ≤ 5 ∧ 0 ≤ (klineF (aq + 2)).toInt ∧ (klineF (aq + 2)).toInt ≤ 3)) (hl3 : (¬ klineF aq = nI 2 ∧ ¬ klineF aq = nI 3) ∨ (1 ≤ (klineF (aq + 3)).toInt ∧ (klineF (aq + 3)).toInt ≤ 9)) (e2 : y1 = klineF aq) : aq < 160 := by
  have b_y1 := ia_b y1
  try have k_0 := ia_n 0 (by first | decide | omega)
  try have k_1 := ia_n 1 (by first | decide | omega)
  try have k_2 := ia_n 2 (by first | decide | omega)
  try have k_3 := ia_n 3 (by first | decide | omega)
  try simp only [ia_lt, ia_le, ia_eq, ia_m1, ia_0, ia_1, ne_eq, true_and, and_true, false_and, and_false, or_false, false_or, or_true, true_or, not_true_eq_false, not_false_eq_true] at *
  all_goals omega
set_option maxRecDepth 20000 in
theorem lf_e_goBy_2 (klineF : Nat → Int32) (aq : Nat) (y1 : Int32) (ha : aq ≤ 156) (hl0 : 0 ≤ (klineF aq).toInt ∧ (klineF aq).toInt ≤ 5) (hl1 : ¬ klineF aq = nI 0 ∨ (0 ≤ (klineF (aq + 1)).toInt ∧ (klineF (aq + 1)).toInt ≤ 1 ∧ 0 ≤ (klineF (aq + 2)).toInt ∧ (klineF (aq + 2)).toInt ≤ 5 ∧ 0 ≤ (klineF (aq + 3)).toInt ∧ (klineF (aq + 3)).toInt ≤ 1)) (hl2 : ¬ klineF aq = nI 1 ∨ (0 ≤ (klineF (aq + 1)).toInt ∧ (klineF (aq + 1)).toInt ≤ 5 ∧ 0 ≤ (klineF (aq + 2)).toInt ∧ (klineF (aq + 2)).toInt ≤ 3)) (hl3 : (¬ klineF aq = nI 2 ∧ ¬ klineF aq = nI 3) ∨ (1 ≤ (klineF (aq + 3)).toInt ∧ (klineF (aq + 3)).toInt ≤ 9)) (e2 : y1 = klineF aq) : y1 = nI 0 ∨ y1 = nI 1 ∨ y1 = nI 2 ∨ y1 = nI 3 ∨ y1 = nI 4 ∨ y1 = nI 5 := by
  have b_y1 := ia_b y1
  try have k_0 := ia_n 0 (by first | decide | omega)
  try have k_1 := ia_n 1 (by first | decide | omega)
  try have k_2 := ia_n 2 (by first | decide | omega)
  try have k_3 := ia_n 3 (by first | decide | omega)
  try have k_4 := ia_n 4 (by first | decide | omega)
  try have k_5 := ia_n 5 (by first | decide | omega)
  try simp only [ia_lt, ia_le, ia_eq, ia_m1, ia_0, ia_1, ne_eq, true_and, and_true, false_and, and_false, or_false, false_or, or_true, true_or, not_true_eq_false, not_false_eq_true] at *
  all_goals omega
set_option maxRecDepth 20000 in
theorem lf_e_goBy_3 (klineF : Nat → Int32) (aq : Nat) (y1 : Int32) (y10 : Int32) (ha : aq ≤ 156) (hl0 : 0 ≤ (klineF aq).toInt ∧ (klineF aq).toInt ≤ 5) (hl1 : ¬ klineF aq = nI 0 ∨ (0 ≤ (klineF (aq + 1)).toInt ∧ (klineF (aq + 1)).toInt ≤ 1 ∧ 0 ≤ (klineF (aq + 2)).toInt ∧ (klineF (aq + 2)).toInt ≤ 5 ∧ 0 ≤ (klineF (aq + 3)).toInt ∧ (klineF (aq + 3)).toInt ≤ 1)) (hl2 : ¬ klineF aq = nI 1 ∨ (0 ≤ (klineF (aq + 1)).toInt ∧ (klineF (aq + 1)).toInt ≤ 5 ∧ 0 ≤ (klineF (aq + 2)).toInt ∧ (klineF (aq + 2)).toInt ≤ 3)) (hl3 : (¬ klineF aq = nI 2 ∧ ¬ klineF aq = nI 3) ∨ (1 ≤ (klineF (aq + 3)).toInt ∧ (klineF (aq + 3)).toInt ≤ 9)) (e2 : y1 = klineF aq) (c4 : y1 = nI 0) (e11 : y10 = klineF (aq + 1)) : (aq + 1) < 160 := by
  have b_y1 := ia_b y1
  have b_y10 := ia_b y10
  try have k_0 := ia_n 0 (by first | decide | omega)
  try have k_1 := ia_n 1 (by first | decide | omega)
  try have k_2 := ia_n 2 (by first | decide | omega)
  try have k_3 := ia_n 3 (by first | decide | omega)
  try simp only [ia_lt, ia_le, ia_eq, ia_m1, ia_0, ia_1, ne_eq, true_and, and_true, false_and, and_false, or_false, false_or, or_true, true_or, not_true_eq_false, not_false_eq_true] at *
  all_goals omega
set_option maxRecDepth 20000 in
theorem lf_e_goBy_4 (klineF : Nat → Int32) (aq : Nat) (y1 : Int32) (y10 : Int32) (y12 : Int32) (ha : aq ≤ 156) (hl0 : 0 ≤ (klineF aq).toInt ∧ (klineF aq).toInt ≤ 5) (hl1 : ¬ klineF aq = nI 0 ∨ (0 ≤ (klineF (aq + 1)).toInt ∧ (klineF (aq + 1)).toInt ≤ 1 ∧ 0 ≤ (klineF (aq + 2)).toInt ∧ (klineF (aq + 2)).toInt ≤ 5 ∧ 0 ≤ (klineF (aq + 3)).toInt ∧ (klineF (aq + 3)).toInt ≤ 1)) (hl2 : ¬ klineF aq = nI 1 ∨ (0 ≤ (klineF (aq + 1)).toInt ∧ (klineF (aq + 1)).toInt ≤ 5 ∧ 0 ≤ (klineF (aq + 2)).toInt ∧ (klineF (aq + 2)).toInt ≤ 3)) (hl3 : (¬ klineF aq = nI 2 ∧ ¬ klineF aq = nI 3) ∨ (1 ≤ (klineF (aq + 3)).toInt ∧ (klineF (aq + 3)).toInt ≤ 9)) (e2 : y1 = klineF aq) (c4 : y1 = nI 0) (e11 : y10 = klineF (aq + 1)) (e13 : y12 = klineF (aq + 2)) : (aq + 2) < 160 := by
  have b_y1 := ia_b y1
  have b_y10 := ia_b y10
  have b_y12 := ia_b y12
  try have k_0 := ia_n 0 (by first | decide | omega)
  try have k_1 := ia_n 1 (by first | decide | omega)
  try have k_2 := ia_n 2 (by first | decide | omega)
  try have k_3 := ia_n 3 (by first | decide | omega)
  try simp only [ia_lt, ia_le, ia_eq, ia_m1, ia_0, ia_1, ne_eq, true_and, and_true, false_and, and_false, or_false, false_or, or_true, true_or, not_true_eq_false, not_false_eq_true] at *
  all_goals omega
set_option maxRecDepth 20000 in
theorem lf_e_goBy_5 (klineF : Nat → Int32) (aq : Nat) (y1 : Int32) (y10 : Int32) (y12 : Int32) (y16 : Int32) (ha : aq ≤ 156) (hl0 : 0 ≤ (klineF aq).toInt ∧ (klineF aq).toInt ≤ 5) (hl1 : ¬ klineF aq = nI 0 ∨ (0 ≤ (klineF (aq + 1)).toInt ∧ (klineF (aq + 1)).toInt ≤ 1 ∧ 0 ≤ (klineF (aq + 2)).toInt ∧ (klineF (aq + 2)).toInt ≤ 5 ∧ 0 ≤ (klineF (aq + 3)).toInt ∧ (klineF (aq + 3)).toInt ≤ 1)) (hl2 : ¬ klineF aq = nI 1 ∨ (0 ≤ (klineF (aq + 1)).toInt ∧ (klineF (aq + 1)).toInt ≤ 5 ∧ 0 ≤ (klineF (aq + 2)).toInt ∧ (klineF (aq + 2)).toInt ≤ 3)) (hl3 : (¬ klineF aq = nI 2 ∧ ¬ klineF aq = nI 3) ∨ (1 ≤ (klineF (aq + 3)).toInt ∧ (klineF (aq + 3)).toInt ≤ 9)) (e2 : y1 = klineF aq) (c4 : y1 = nI 0) (e11 : y10 = klineF (aq + 1)) (e13 : y12 = klineF (aq + 2)) (e17 : y16 = klineF (aq + 3)) : (aq + 3) < 160 := by
  have b_y1 := ia_b y1
  have b_y10 := ia_b y10
  have b_y12 := ia_b y12
  have b_y16 := ia_b y16
  try have k_0 := ia_n 0 (by first | decide | omega)
  try have k_1 := ia_n 1 (by first | decide | omega)
  try have k_2 := ia_n 2 (by first | decide | omega)
  try have k_3 := ia_n 3 (by first | decide | omega)
  try simp only [ia_lt, ia_le, ia_eq, ia_m1, ia_0, ia_1, ne_eq, true_and, and_true, false_and, and_false, or_false, false_or, or_true, true_or, not_true_eq_false, not_false_eq_true] at *
  all_goals omega
set_option maxRecDepth 20000 in
theorem lf_e_goBy_6 (klineF : Nat → Int32) (aq : Nat) (y1 : Int32) (y10 : Int32) (y12 : Int32) (y16 : Int32) (r18 : Int32) (ha : aq ≤ 156) (hl0 : 0 ≤ (klineF aq).toInt ∧ (klineF aq).toInt ≤ 5) (hl1 : ¬ klineF aq = nI 0 ∨ (0 ≤ (klineF (aq + 1)).toInt ∧ (klineF (aq + 1)).toInt ≤ 1 ∧ 0 ≤ (klineF (aq + 2)).toInt ∧ (klineF (aq + 2)).toInt ≤ 5 ∧ 0 ≤ (klineF (aq + 3)).toInt ∧ (klineF (aq + 3)).toInt ≤ 1)) (hl2 : ¬ klineF aq = nI 1 ∨ (0 ≤ (klineF (aq + 1)).toInt ∧ (klineF (aq + 1)).toInt ≤ 5 ∧ 0 ≤ (klineF (aq + 2)).toInt ∧ (klineF (aq + 2)).toInt ≤ 3)) (hl3 : (¬ klineF aq = nI 2 ∧ ¬ klineF aq = nI 3) ∨ (1 ≤ (klineF (aq + 3)).toInt ∧ (klineF (aq + 3)).toInt ≤ 9)) (e2 : y1 = klineF aq) (c4 : y1 = nI 0) (e11 : y10 = klineF (aq + 1)) (e13 : y12 = klineF (aq + 2)) (e17 : y16 = klineF (aq + 3)) (p19 : r18 = nI 12 * y10 + nI 2 * y12 + y16) : 0 ≤ r18.toInt ∧ r18.toInt ≤ 23 := by
  have b_y1 := ia_b y1
  have b_y10 := ia_b y10
  have b_y12 := ia_b y12
  have b_y16 := ia_b y16
  have b_r18 := ia_b r18
  try have k_0 := ia_n 0 (by first | decide | omega)
  try have k_1 := ia_n 1 (by first | decide | omega)
  try have k_2 := ia_n 2 (by first | decide | omega)
  try have k_3 := ia_n 3 (by first | decide | omega)
  try have k_4 := ia_n 12 (by first | decide | omega)
  subst_vars
  apply line_b
  all_goals try simp only [ia_lt, ia_le, ia_eq, ia_m1, ia_0, ia_1, ne_eq, true_and, and_true, false_and, and_false, or_false, false_or, or_true, true_or, not_true_eq_false, not_false_eq_true] at *
  all_goals omega
set_option maxRecDepth 20000 in
theorem lf_e_goBy_7 (klineF : Nat → Int32) (aq : Nat) (y1 : Int32) (y10 : Int32) (y12 : Int32) (y16 : Int32) (r18 : Int32) (ha : aq ≤ 156) (hl0 : 0 ≤ (klineF aq).toInt ∧ (klineF aq).toInt ≤ 5) (hl1 : ¬ klineF aq = nI 0 ∨ (0 ≤ (klineF (aq + 1)).toInt ∧ (klineF (aq + 1)).toInt ≤ 1 ∧ 0 ≤ (klineF (aq + 2)).toInt ∧ (klineF (aq + 2)).toInt ≤ 5 ∧ 0 ≤ (klineF (aq + 3)).toInt ∧ (klineF (aq + 3)).toInt ≤ 1)) (hl2 : ¬ klineF aq = nI 1 ∨ (0 ≤ (klineF (aq + 1)).toInt ∧ (klineF (aq + 1)).toInt ≤ 5 ∧ 0 ≤ (klineF (aq + 2)).toInt ∧ (klineF (aq + 2)).toInt ≤ 3)) (hl3 : (¬ klineF aq = nI 2 ∧ ¬ klineF aq = nI 3) ∨ (1 ≤ (klineF (aq + 3)).toInt ∧ (klineF (aq + 3)).toInt ≤ 9)) (e2 : y1 = klineF aq) (c4 : y1 = nI 0) (e11 : y10 = klineF (aq + 1)) (e13 : y12 = klineF (aq + 2)) (e17 : y16 = klineF (aq + 3)) (p19 : r18 = nI 12 * y10 + nI 2 * y12 + y16) (p26 : True) : 0 ≤ r18.toInt ∧ r18.toInt ≤ 23 := by
  have b_y1 := ia_b y1
  have b_y10 := ia_b y10
  have b_y12 := ia_b y12
  have b_y16 := ia_b y16
  have b_r18 := ia_b r18
  try have k_0 := ia_n 0 (by first | decide | omega)
  try have k_1 := ia_n 1 (by first | decide | omega)
  try have k_2 := ia_n 2 (by first | decide | omega)
  try have k_3 := ia_n 3 (by first | decide | omega)
  try have k_4 := ia_n 12 (by first | decide | omega)
  subst_vars
  apply line_b
  all_goals try simp only [ia_lt, ia_le, ia_eq, ia_m1, ia_0, ia_1, ne_eq, true_and, and_true, false_and, and_false, or_false, false_or, or_true, true_or, not_true_eq_false, not_false_eq_true] at *
  all_goals omega
set_option maxRecDepth 20000 in
theorem lf_e_goBy_8 (klineF : Nat → Int32) (aq : Nat) (y1 : Int32) (y38 : Int32) (ha : aq ≤ 156) (hl0 : 0 ≤ (klineF aq).toInt ∧ (klineF aq).toInt ≤ 5) (hl1 : ¬ klineF aq = nI 0 ∨ (0 ≤ (klineF (aq + 1)).toInt ∧ (klineF (aq + 1)).toInt ≤ 1 ∧ 0 ≤ (klineF (aq + 2)).toInt ∧ (klineF (aq + 2)).toInt ≤ 5 ∧ 0 ≤ (klineF (aq + 3)).toInt ∧ (klineF (aq + 3)).toInt ≤ 1)) (hl2 : ¬ klineF aq = nI 1 ∨ (0 ≤ (klineF (aq + 1)).toInt ∧ (klineF (aq + 1)).toInt ≤ 5 ∧ 0 ≤ (klineF (aq + 2)).toInt ∧ (klineF (aq + 2)).toInt ≤ 3)) (hl3 : (¬ klineF aq = nI 2 ∧ ¬ klineF aq = nI 3) ∨ (1 ≤ (klineF (aq + 3)).toInt ∧ (klineF (aq + 3)).toInt ≤ 9)) (e2 : y1 = klineF aq) (c5 : y1 = nI 1) (e39 : y38 = klineF (aq + 1)) : (aq + 1) < 160 := by
  have b_y1 := ia_b y1
  have b_y38 := ia_b y38
  try have k_0 := ia_n 0 (by first | decide | omega)
  try have k_1 := ia_n 1 (by first | decide | omega)
  try have k_2 := ia_n 2 (by first | decide | omega)
  try have k_3 := ia_n 3 (by first | decide | omega)
  try simp only [ia_lt, ia_le, ia_eq, ia_m1, ia_0, ia_1, ne_eq, true_and, and_true, false_and, and_false, or_false, false_or, or_true, true_or, not_true_eq_false, not_false_eq_true] at *
  all_goals omega
set_option maxRecDepth 20000 in
theorem lf_e_goBy_9 (klineF : Nat → Int32) (aq : Nat) (y1 : Int32) (y38 : Int32) (y40 : Int32) (ha : aq ≤ 156) (hl0 : 0 ≤ (klineF aq).toInt ∧ (klineF aq).toInt ≤ 5) (hl1 : ¬ klineF aq = nI 0 ∨ (0 ≤ (klineF (aq + 1)).toInt ∧ (klineF (aq + 1)).toInt ≤ 1 ∧ 0 ≤ (klineF (aq + 2)).toInt ∧ (klineF (aq + 2)).toInt ≤ 5 ∧ 0 ≤ (klineF (aq + 3)).toInt ∧ (klineF (aq + 3)).toInt ≤ 1)) (hl2 : ¬ klineF aq = nI 1 ∨ (0 ≤ (klineF (aq + 1)).toInt ∧ (klineF (aq + 1)).toInt ≤ 5 ∧ 0 ≤ (klineF (aq + 2)).toInt ∧ (klineF (aq + 2)).toInt ≤ 3)) (hl3 : (¬ klineF aq = nI 2 ∧ ¬ klineF aq = nI 3) ∨ (1 ≤ (klineF (aq + 3)).toInt ∧ (klineF (aq + 3)).toInt ≤ 9)) (e2 : y1 = klineF aq) (c5 : y1 = nI 1) (e39 : y38 = klineF (aq + 1)) (e41 : y40 = klineF (aq + 2)) : (aq + 2) < 160 := by
  have b_y1 := ia_b y1
  have b_y38 := ia_b y38
  have b_y40 := ia_b y40
  try have k_0 := ia_n 0 (by first | decide | omega)
  try have k_1 := ia_n 1 (by first | decide | omega)
  try have k_2 := ia_n 2 (by first | decide | omega)
  try have k_3 := ia_n 3 (by first | decide | omega)
  try simp only [ia_lt, ia_le, ia_eq, ia_m1, ia_0, ia_1, ne_eq, true_and, and_true, false_and, and_false, or_false, false_or, or_true, true_or, not_true_eq_false, not_false_eq_true] at *
  all_goals omega
set_option maxRecDepth 20000 in
theorem lf_e_goBy_10 (klineF : Nat → Int32) (aq : Nat) (y1 : Int32) (y38 : Int32) (y40 : Int32) (ha : aq ≤ 156) (hl0 : 0 ≤ (klineF aq).toInt ∧ (klineF aq).toInt ≤ 5) (hl1 : ¬ klineF aq = nI 0 ∨ (0 ≤ (klineF (aq + 1)).toInt ∧ (klineF (aq + 1)).toInt ≤ 1 ∧ 0 ≤ (klineF (aq + 2)).toInt ∧ (klineF (aq + 2)).toInt ≤ 5 ∧ 0 ≤ (klineF (aq + 3)).toInt ∧ (klineF (aq + 3)).toInt ≤ 1)) (hl2 : ¬ klineF aq = nI 1 ∨ (0 ≤ (klineF (aq + 1)).toInt ∧ (klineF (aq + 1)).toInt ≤ 5 ∧ 0 ≤ (klineF (aq + 2)).toInt ∧ (klineF (aq + 2)).toInt ≤ 3)) (hl3 : (¬ klineF aq = nI 2 ∧ ¬ klineF aq = nI 3) ∨ (1 ≤ (klineF (aq + 3)).toInt ∧ (klineF (aq + 3)).toInt ≤ 9)) (e2 : y1 = klineF aq) (c5 : y1 = nI 1) (e39 : y38 = klineF (aq + 1)) (e41 : y40 = klineF (aq + 2)) : 0 ≤ y38.toInt ∧ y38.toInt < ((6 : Nat) : Int) := by
  have b_y1 := ia_b y1
  have b_y38 := ia_b y38
  have b_y40 := ia_b y40
  try have k_0 := ia_n 0 (by first | decide | omega)
  try have k_1 := ia_n 1 (by first | decide | omega)
  try have k_2 := ia_n 2 (by first | decide | omega)
  try have k_3 := ia_n 3 (by first | decide | omega)
  try simp only [ia_lt, ia_le, ia_eq, ia_m1, ia_0, ia_1, ne_eq, true_and, and_true, false_and, and_false, or_false, false_or, or_true, true_or, not_true_eq_false, not_false_eq_true] at *
  all_goals omega
set_option maxRecDepth 20000 in
theorem lf_e_goBy_11 (klineF : Nat → Int32) (aq : Nat) (y1 : Int32) (y38 : Int32) (y40 : Int32) (n46 : Nat) (ha : aq ≤ 156) (hl0 : 0 ≤ (klineF aq).toInt ∧ (klineF aq).toInt ≤ 5) (hl1 : ¬ klineF aq = nI 0 ∨ (0 ≤ (klineF (aq + 1)).toInt ∧ (klineF (aq + 1)).toInt ≤ 1 ∧ 0 ≤ (klineF (aq + 2)).toInt ∧ (klineF (aq + 2)).toInt ≤ 5 ∧ 0 ≤ (klineF (aq + 3)).toInt ∧ (klineF (aq + 3)).toInt ≤ 1)) (hl2 : ¬ klineF aq = nI 1 ∨ (0 ≤ (klineF (aq + 1)).toInt ∧ (klineF (aq + 1)).toInt ≤ 5 ∧ 0 ≤ (klineF (aq + 2)).toInt ∧ (klineF (aq + 2)).toInt ≤ 3)) (hl3 : (¬ klineF aq = nI 2 ∧ ¬ klineF aq = nI 3) ∨ (1 ≤ (klineF (aq + 3)).toInt ∧ (klineF (aq + 3)).toInt ≤ 9)) (e2 : y1 = klineF aq) (c5 : y1 = nI 1) (e39 : y38 = klineF (aq + 1)) (e41 : y40 = klineF (aq + 2)) (h47 : n46 < 6) (e48 : y38 = nI n46) : 0 ≤ y40.toInt ∧ y40.toInt ≤ 3 := by
  have b_y1 := ia_b y1
  have b_y38 := ia_b y38
  have b_y40 := ia_b y40
  try have k_0 := ia_n 0 (by first | decide | omega)
  try have k_1 := ia_n 1 (by first | decide | omega)
  try have k_2 := ia_n 2 (by first | decide | omega)
  try have k_3 := ia_n 3 (by first | decide | omega)
  try have k_4 := ia_n n46 (by first | decide | omega)
  try simp only [ia_lt, ia_le, ia_eq, ia_m1, ia_0, ia_1, ne_eq, true_and, and_true, false_and, and_false, or_false, false_or, or_true, true_or, not_true_eq_false, not_false_eq_true] at *
  all_goals omega
set_option maxRecDepth 20000 in
theorem lf_e_goBy_12 (knowF : Nat → Int32) (klineF : Nat → Int32) (kn0 : Nat → Int32) (aq : Nat) (y1 : Int32) (y38 : Int32) (y40 : Int32) (n46 : Nat) (r49 : Int32) (ab_now : NB knowF) (sb_now : SB knowF) (ha : aq ≤ 156) (he0 : HE kn0 knowF) (hl0 : 0 ≤ (klineF aq).toInt ∧ (klineF aq).toInt ≤ 5) (hl1 : ¬ klineF aq = nI 0 ∨ (0 ≤ (klineF (aq + 1)).toInt ∧ (klineF (aq + 1)).toInt ≤ 1 ∧ 0 ≤ (klineF (aq + 2)).toInt ∧ (klineF (aq + 2)).toInt ≤ 5 ∧ 0 ≤ (klineF (aq + 3)).toInt ∧ (klineF (aq + 3)).toInt ≤ 1)) (hl2 : ¬ klineF aq = nI 1 ∨ (0 ≤ (klineF (aq + 1)).toInt ∧ (klineF (aq + 1)).toInt ≤ 5 ∧ 0 ≤ (klineF (aq + 2)).toInt ∧ (klineF (aq + 2)).toInt ≤ 3)) (hl3 : (¬ klineF aq = nI 2 ∧ ¬ klineF aq = nI 3) ∨ (1 ≤ (klineF (aq + 3)).toInt ∧ (klineF (aq + 3)).toInt ≤ 9)) (e2 : y1 = klineF aq) (c5 : y1 = nI 1) (e39 : y38 = klineF (aq + 1)) (e41 : y40 = klineF (aq + 2)) (h47 : n46 < 6) (e48 : y38 = nI n46) (p50 : ¬ r49 = nI 0 ∨ BSok (knowF (113 + n46)).toInt y40.toInt (knowF 0).toInt (knowF 1).toInt) (c51 : r49 = 0) : 0 ≤ y40.toInt ∧ y40.toInt ≤ 3 := by
  have b_y1 := ia_b y1
  have b_y38 := ia_b y38
  have b_y40 := ia_b y40
  have b_r49 := ia_b r49
  try have k_0 := ia_n 0 (by first | decide | omega)
  try have k_1 := ia_n 1 (by first | decide | omega)
  try have k_2 := ia_n 2 (by first | decide | omega)
  try have k_3 := ia_n 3 (by first | decide | omega)
  try have k_4 := ia_n n46 (by first | decide | omega)
  try unfold BSok at *
  try simp only [ia_lt, ia_le, ia_eq, ia_m1, ia_0, ia_1, ne_eq, true_and, and_true, false_and, and_false, or_false, false_or, or_true, true_or, not_true_eq_false, not_false_eq_true] at *
  all_goals omega
set_option maxRecDepth 20000 in
theorem lf_e_goBy_13 (knowF : Nat → Int32) (klineF : Nat → Int32) (kn0 : Nat → Int32) (aq : Nat) (y1 : Int32) (y38 : Int32) (y40 : Int32) (n46 : Nat) (r49 : Int32) (ab_now : NB knowF) (sb_now : SB knowF) (ha : aq ≤ 156) (he0 : HE kn0 knowF) (hl0 : 0 ≤ (klineF aq).toInt ∧ (klineF aq).toInt ≤ 5) (hl1 : ¬ klineF aq = nI 0 ∨ (0 ≤ (klineF (aq + 1)).toInt ∧ (klineF (aq + 1)).toInt ≤ 1 ∧ 0 ≤ (klineF (aq + 2)).toInt ∧ (klineF (aq + 2)).toInt ≤ 5 ∧ 0 ≤ (klineF (aq + 3)).toInt ∧ (klineF (aq + 3)).toInt ≤ 1)) (hl2 : ¬ klineF aq = nI 1 ∨ (0 ≤ (klineF (aq + 1)).toInt ∧ (klineF (aq + 1)).toInt ≤ 5 ∧ 0 ≤ (klineF (aq + 2)).toInt ∧ (klineF (aq + 2)).toInt ≤ 3)) (hl3 : (¬ klineF aq = nI 2 ∧ ¬ klineF aq = nI 3) ∨ (1 ≤ (klineF (aq + 3)).toInt ∧ (klineF (aq + 3)).toInt ≤ 9)) (e2 : y1 = klineF aq) (c5 : y1 = nI 1) (e39 : y38 = klineF (aq + 1)) (e41 : y40 = klineF (aq + 2)) (h47 : n46 < 6) (e48 : y38 = nI n46) (p50 : ¬ r49 = nI 0 ∨ BSok (knowF (113 + n46)).toInt y40.toInt (knowF 0).toInt (knowF 1).toInt) (c51 : r49 = 0) : BSok (knowF (113 + n46)).toInt y40.toInt (knowF 0).toInt (knowF 1).toInt := by
  rcases p50 with h9 | h9
  · exfalso
    apply h9
    have b_y1 := ia_b y1
    have b_y38 := ia_b y38
    have b_y40 := ia_b y40
    have b_r49 := ia_b r49
    try have k_0 := ia_n 0 (by first | decide | omega)
    try have k_1 := ia_n 1 (by first | decide | omega)
    try have k_2 := ia_n 2 (by first | decide | omega)
    try have k_3 := ia_n 3 (by first | decide | omega)
    try have k_4 := ia_n n46 (by first | decide | omega)
    try simp only [ia_lt, ia_le, ia_eq, ia_m1, ia_0, ia_1, ne_eq, true_and, and_true, false_and, and_false, or_false, false_or, or_true, true_or, not_true_eq_false, not_false_eq_true] at *
    all_goals omega
  · exact h9
set_option maxRecDepth 20000 in
theorem lf_e_goBy_14 (klineF : Nat → Int32) (aq : Nat) (y1 : Int32) (y60 : Int32) (ha : aq ≤ 156) (hl0 : 0 ≤ (klineF aq).toInt ∧ (klineF aq).toInt ≤ 5) (hl1 : ¬ klineF aq = nI 0 ∨ (0 ≤ (klineF (aq + 1)).toInt ∧ (klineF (aq + 1)).toInt ≤ 1 ∧ 0 ≤ (klineF (aq + 2)).toInt ∧ (klineF (aq + 2)).toInt ≤ 5 ∧ 0 ≤ (klineF (aq + 3)).toInt ∧ (klineF (aq + 3)).toInt ≤ 1)) (hl2 : ¬ klineF aq = nI 1 ∨ (0 ≤ (klineF (aq + 1)).toInt ∧ (klineF (aq + 1)).toInt ≤ 5 ∧ 0 ≤ (klineF (aq + 2)).toInt ∧ (klineF (aq + 2)).toInt ≤ 3)) (hl3 : (¬ klineF aq = nI 2 ∧ ¬ klineF aq = nI 3) ∨ (1 ≤ (klineF (aq + 3)).toInt ∧ (klineF (aq + 3)).toInt ≤ 9)) (e2 : y1 = klineF aq) (c6 : y1 = nI 2) (e61 : y60 = klineF (aq + 1)) : (aq + 1) < 160 := by
  have b_y1 := ia_b y1
  have b_y60 := ia_b y60
  try have k_0 := ia_n 0 (by first | decide | omega)
  try have k_1 := ia_n 1 (by first | decide | omega)
  try have k_2 := ia_n 2 (by first | decide | omega)
  try have k_3 := ia_n 3 (by first | decide | omega)
  try simp only [ia_lt, ia_le, ia_eq, ia_m1, ia_0, ia_1, ne_eq, true_and, and_true, false_and, and_false, or_false, false_or, or_true, true_or, not_true_eq_false, not_false_eq_true] at *
  all_goals omega
set_option maxRecDepth 20000 in
theorem lf_e_goBy_15 (klineF : Nat → Int32) (aq : Nat) (y1 : Int32) (y60 : Int32) (y62 : Int32) (ha : aq ≤ 156) (hl0 : 0 ≤ (klineF aq).toInt ∧ (klineF aq).toInt ≤ 5) (hl1 : ¬ klineF aq = nI 0 ∨ (0 ≤ (klineF (aq + 1)).toInt ∧ (klineF (aq + 1)).toInt ≤ 1 ∧ 0 ≤ (klineF (aq + 2)).toInt ∧ (klineF (aq + 2)).toInt ≤ 5 ∧ 0 ≤ (klineF (aq + 3)).toInt ∧ (klineF (aq + 3)).toInt ≤ 1)) (hl2 : ¬ klineF aq = nI 1 ∨ (0 ≤ (klineF (aq + 1)).toInt ∧ (klineF (aq + 1)).toInt ≤ 5 ∧ 0 ≤ (klineF (aq + 2)).toInt ∧ (klineF (aq + 2)).toInt ≤ 3)) (hl3 : (¬ klineF aq = nI 2 ∧ ¬ klineF aq = nI 3) ∨ (1 ≤ (klineF (aq + 3)).toInt ∧ (klineF (aq + 3)).toInt ≤ 9)) (e2 : y1 = klineF aq) (c6 : y1 = nI 2) (e61 : y60 = klineF (aq + 1)) (e63 : y62 = klineF (aq + 2)) : (aq + 2) < 160 := by
  have b_y1 := ia_b y1
  have b_y60 := ia_b y60
  have b_y62 := ia_b y62
  try have k_0 := ia_n 0 (by first | decide | omega)
  try have k_1 := ia_n 1 (by first | decide | omega)
  try have k_2 := ia_n 2 (by first | decide | omega)
  try have k_3 := ia_n 3 (by first | decide | omega)
  try simp only [ia_lt, ia_le, ia_eq, ia_m1, ia_0, ia_1, ne_eq, true_and, and_true, false_and, and_false, or_false, false_or, or_true, true_or, not_true_eq_false, not_false_eq_true] at *
  all_goals omega
set_option maxRecDepth 20000 in
theorem lf_e_goBy_16 (knowF : Nat → Int32) (klineF : Nat → Int32) (kn0 : Nat → Int32) (aq : Nat) (y1 : Int32) (y60 : Int32) (y62 : Int32) (ab_now : NB knowF) (sb_now : SB knowF) (ha : aq ≤ 156) (he0 : HE kn0 knowF) (hl0 : 0 ≤ (klineF aq).toInt ∧ (klineF aq).toInt ≤ 5) (hl1 : ¬ klineF aq = nI 0 ∨ (0 ≤ (klineF (aq + 1)).toInt ∧ (klineF (aq + 1)).toInt ≤ 1 ∧ 0 ≤ (klineF (aq + 2)).toInt ∧ (klineF (aq + 2)).toInt ≤ 5 ∧ 0 ≤ (klineF (aq + 3)).toInt ∧ (klineF (aq + 3)).toInt ≤ 1)) (hl2 : ¬ klineF aq = nI 1 ∨ (0 ≤ (klineF (aq + 1)).toInt ∧ (klineF (aq + 1)).toInt ≤ 5 ∧ 0 ≤ (klineF (aq + 2)).toInt ∧ (klineF (aq + 2)).toInt ≤ 3)) (hl3 : (¬ klineF aq = nI 2 ∧ ¬ klineF aq = nI 3) ∨ (1 ≤ (klineF (aq + 3)).toInt ∧ (klineF (aq + 3)).toInt ≤ 9)) (e2 : y1 = klineF aq) (c6 : y1 = nI 2) (e61 : y60 = klineF (aq + 1)) (e63 : y62 = klineF (aq + 2)) (t69 : 0 ≤ y60.toInt) (t70 : y60.toInt < (knowF 0).toInt) (t71 : 0 ≤ y62.toInt) (t72 : y62.toInt < (knowF 1).toInt) (t73 : y60.toInt ≤ 5) (t74 : y62.toInt ≤ 5) : 0 ≤ y62.toInt ∧ y62.toInt < ((6 : Nat) : Int) := by
  have b_y1 := ia_b y1
  have b_y60 := ia_b y60
  have b_y62 := ia_b y62
  try have k_0 := ia_n 0 (by first | decide | omega)
  try have k_1 := ia_n 1 (by first | decide | omega)
  try have k_2 := ia_n 2 (by first | decide | omega)
  try have k_3 := ia_n 3 (by first | decide | omega)
  try simp only [ia_lt, ia_le, ia_eq, ia_m1, ia_0, ia_1, ne_eq, true_and, and_true, false_and, and_false, or_false, false_or, or_true, true_or, not_true_eq_false, not_false_eq_true] at *
  all_goals omega
set_option maxRecDepth 20000 in
theorem lf_e_goBy_17 (knowF : Nat → Int32) (klineF : Nat → Int32) (kn0 : Nat → Int32) (aq : Nat) (y1 : Int32) (y60 : Int32) (y62 : Int32) (n77 : Nat) (ab_now : NB knowF) (sb_now : SB knowF) (ha : aq ≤ 156) (he0 : HE kn0 knowF) (hl0 : 0 ≤ (klineF aq).toInt ∧ (klineF aq).toInt ≤ 5) (hl1 : ¬ klineF aq = nI 0 ∨ (0 ≤ (klineF (aq + 1)).toInt ∧ (klineF (aq + 1)).toInt ≤ 1 ∧ 0 ≤ (klineF (aq + 2)).toInt ∧ (klineF (aq + 2)).toInt ≤ 5 ∧ 0 ≤ (klineF (aq + 3)).toInt ∧ (klineF (aq + 3)).toInt ≤ 1)) (hl2 : ¬ klineF aq = nI 1 ∨ (0 ≤ (klineF (aq + 1)).toInt ∧ (klineF (aq + 1)).toInt ≤ 5 ∧ 0 ≤ (klineF (aq + 2)).toInt ∧ (klineF (aq + 2)).toInt ≤ 3)) (hl3 : (¬ klineF aq = nI 2 ∧ ¬ klineF aq = nI 3) ∨ (1 ≤ (klineF (aq + 3)).toInt ∧ (klineF (aq + 3)).toInt ≤ 9)) (e2 : y1 = klineF aq) (c6 : y1 = nI 2) (e61 : y60 = klineF (aq + 1)) (e63 : y62 = klineF (aq + 2)) (t69 : 0 ≤ y60.toInt) (t70 : y60.toInt < (knowF 0).toInt) (t71 : 0 ≤ y62.toInt) (t72 : y62.toInt < (knowF 1).toInt) (t73 : y60.toInt ≤ 5) (t74 : y62.toInt ≤ 5) (h78 : n77 < 6) (e79 : y62 = nI n77) : 0 ≤ y60.toInt ∧ y60.toInt < ((6 : Nat) : Int) := by
  have b_y1 := ia_b y1
  have b_y60 := ia_b y60
  have b_y62 := ia_b y62
  try have k_0 := ia_n 0 (by first | decide | omega)
  try have k_1 := ia_n 1 (by first | decide | omega)
  try have k_2 := ia_n 2 (by first | decide | omega)
  try have k_3 := ia_n 3 (by first | decide | omega)
  try have k_4 := ia_n n77 (by first | decide | omega)
  try simp only [ia_lt, ia_le, ia_eq, ia_m1, ia_0, ia_1, ne_eq, true_and, and_true, false_and, and_false, or_false, false_or, or_true, true_or, not_true_eq_false, not_false_eq_true] at *
  all_goals omega
set_option maxRecDepth 20000 in
theorem lf_e_goBy_18 (knowF : Nat → Int32) (klineF : Nat → Int32) (kn0 : Nat → Int32) (aq : Nat) (y1 : Int32) (y60 : Int32) (y62 : Int32) (n77 : Nat) (n80 : Nat) (y83 : Int32) (ab_now : NB knowF) (sb_now : SB knowF) (ha : aq ≤ 156) (he0 : HE kn0 knowF) (hl0 : 0 ≤ (klineF aq).toInt ∧ (klineF aq).toInt ≤ 5) (hl1 : ¬ klineF aq = nI 0 ∨ (0 ≤ (klineF (aq + 1)).toInt ∧ (klineF (aq + 1)).toInt ≤ 1 ∧ 0 ≤ (klineF (aq + 2)).toInt ∧ (klineF (aq + 2)).toInt ≤ 5 ∧ 0 ≤ (klineF (aq + 3)).toInt ∧ (klineF (aq + 3)).toInt ≤ 1)) (hl2 : ¬ klineF aq = nI 1 ∨ (0 ≤ (klineF (aq + 1)).toInt ∧ (klineF (aq + 1)).toInt ≤ 5 ∧ 0 ≤ (klineF (aq + 2)).toInt ∧ (klineF (aq + 2)).toInt ≤ 3)) (hl3 : (¬ klineF aq = nI 2 ∧ ¬ klineF aq = nI 3) ∨ (1 ≤ (klineF (aq + 3)).toInt ∧ (klineF (aq + 3)).toInt ≤ 9)) (e2 : y1 = klineF aq) (c6 : y1 = nI 2) (e61 : y60 = klineF (aq + 1)) (e63 : y62 = klineF (aq + 2)) (t69 : 0 ≤ y60.toInt) (t70 : y60.toInt < (knowF 0).toInt) (t71 : 0 ≤ y62.toInt) (t72 : y62.toInt < (knowF 1).toInt) (t73 : y60.toInt ≤ 5) (t74 : y62.toInt ≤ 5) (h78 : n77 < 6) (e79 : y62 = nI n77) (h81 : n80 < 6) (e82 : y60 = nI n80) (e84 : y83 = klineF (aq + 3)) : (aq + 3) < 160 := by
  have b_y1 := ia_b y1
  have b_y60 := ia_b y60
  have b_y62 := ia_b y62
  have b_y83 := ia_b y83
  try have k_0 := ia_n 0 (by first | decide | omega)
  try have k_1 := ia_n 1 (by first | decide | omega)
  try have k_2 := ia_n 2 (by first | decide | omega)
  try have k_3 := ia_n 3 (by first | decide | omega)
  try have k_4 := ia_n n77 (by first | decide | omega)
  try have k_5 := ia_n n80 (by first | decide | omega)
  try simp only [ia_lt, ia_le, ia_eq, ia_m1, ia_0, ia_1, ne_eq, true_and, and_true, false_and, and_false, or_false, false_or, or_true, true_or, not_true_eq_false, not_false_eq_true] at *
  all_goals omega
set_option maxRecDepth 20000 in
theorem lf_e_goBy_19 (knowF : Nat → Int32) (klineF : Nat → Int32) (kn0 : Nat → Int32) (aq : Nat) (y1 : Int32) (y60 : Int32) (y62 : Int32) (n77 : Nat) (n80 : Nat) (y83 : Int32) (ab_now : NB knowF) (sb_now : SB knowF) (ha : aq ≤ 156) (he0 : HE kn0 knowF) (hl0 : 0 ≤ (klineF aq).toInt ∧ (klineF aq).toInt ≤ 5) (hl1 : ¬ klineF aq = nI 0 ∨ (0 ≤ (klineF (aq + 1)).toInt ∧ (klineF (aq + 1)).toInt ≤ 1 ∧ 0 ≤ (klineF (aq + 2)).toInt ∧ (klineF (aq + 2)).toInt ≤ 5 ∧ 0 ≤ (klineF (aq + 3)).toInt ∧ (klineF (aq + 3)).toInt ≤ 1)) (hl2 : ¬ klineF aq = nI 1 ∨ (0 ≤ (klineF (aq + 1)).toInt ∧ (klineF (aq + 1)).toInt ≤ 5 ∧ 0 ≤ (klineF (aq + 2)).toInt ∧ (klineF (aq + 2)).toInt ≤ 3)) (hl3 : (¬ klineF aq = nI 2 ∧ ¬ klineF aq = nI 3) ∨ (1 ≤ (klineF (aq + 3)).toInt ∧ (klineF (aq + 3)).toInt ≤ 9)) (e2 : y1 = klineF aq) (c6 : y1 = nI 2) (e61 : y60 = klineF (aq + 1)) (e63 : y62 = klineF (aq + 2)) (t69 : 0 ≤ y60.toInt) (t70 : y60.toInt < (knowF 0).toInt) (t71 : 0 ≤ y62.toInt) (t72 : y62.toInt < (knowF 1).toInt) (t73 : y60.toInt ≤ 5) (t74 : y62.toInt ≤ 5) (h78 : n77 < 6) (e79 : y62 = nI n77) (h81 : n80 < 6) (e82 : y60 = nI n80) (e84 : y83 = klineF (aq + 3)) : 0 ≤ (nI ((6 * n77) + n80)).toInt ∧ (nI ((6 * n77) + n80)).toInt ≤ 35 := by
  have b_y1 := ia_b y1
  have b_y60 := ia_b y60
  have b_y62 := ia_b y62
  have b_y83 := ia_b y83
  try have k_0 := ia_n 0 (by first | decide | omega)
  try have k_1 := ia_n 1 (by first | decide | omega)
  try have k_2 := ia_n 2 (by first | decide | omega)
  try have k_3 := ia_n 3 (by first | decide | omega)
  try have k_4 := ia_n n77 (by first | decide | omega)
  try have k_5 := ia_n n80 (by first | decide | omega)
  try have k_6 := ia_n ((6 * n77) + n80) (by first | decide | omega)
  try simp only [ia_lt, ia_le, ia_eq, ia_m1, ia_0, ia_1, ne_eq, true_and, and_true, false_and, and_false, or_false, false_or, or_true, true_or, not_true_eq_false, not_false_eq_true] at *
  all_goals omega
set_option maxRecDepth 20000 in
theorem lf_e_goBy_20 (knowF : Nat → Int32) (klineF : Nat → Int32) (kn0 : Nat → Int32) (aq : Nat) (y1 : Int32) (y60 : Int32) (y62 : Int32) (n77 : Nat) (n80 : Nat) (y83 : Int32) (ab_now : NB knowF) (sb_now : SB knowF) (ha : aq ≤ 156) (he0 : HE kn0 knowF) (hl0 : 0 ≤ (klineF aq).toInt ∧ (klineF aq).toInt ≤ 5) (hl1 : ¬ klineF aq = nI 0 ∨ (0 ≤ (klineF (aq + 1)).toInt ∧ (klineF (aq + 1)).toInt ≤ 1 ∧ 0 ≤ (klineF (aq + 2)).toInt ∧ (klineF (aq + 2)).toInt ≤ 5 ∧ 0 ≤ (klineF (aq + 3)).toInt ∧ (klineF (aq + 3)).toInt ≤ 1)) (hl2 : ¬ klineF aq = nI 1 ∨ (0 ≤ (klineF (aq + 1)).toInt ∧ (klineF (aq + 1)).toInt ≤ 5 ∧ 0 ≤ (klineF (aq + 2)).toInt ∧ (klineF (aq + 2)).toInt ≤ 3)) (hl3 : (¬ klineF aq = nI 2 ∧ ¬ klineF aq = nI 3) ∨ (1 ≤ (klineF (aq + 3)).toInt ∧ (klineF (aq + 3)).toInt ≤ 9)) (e2 : y1 = klineF aq) (c6 : y1 = nI 2) (e61 : y60 = klineF (aq + 1)) (e63 : y62 = klineF (aq + 2)) (t69 : 0 ≤ y60.toInt) (t70 : y60.toInt < (knowF 0).toInt) (t71 : 0 ≤ y62.toInt) (t72 : y62.toInt < (knowF 1).toInt) (t73 : y60.toInt ≤ 5) (t74 : y62.toInt ≤ 5) (h78 : n77 < 6) (e79 : y62 = nI n77) (h81 : n80 < 6) (e82 : y60 = nI n80) (e84 : y83 = klineF (aq + 3)) (p86 : True) : 0 ≤ (nI ((6 * n77) + n80)).toInt ∧ (nI ((6 * n77) + n80)).toInt ≤ 35 := by
  have b_y1 := ia_b y1
  have b_y60 := ia_b y60
  have b_y62 := ia_b y62
  have b_y83 := ia_b y83
  try have k_0 := ia_n 0 (by first | decide | omega)
  try have k_1 := ia_n 1 (by first | decide | omega)
  try have k_2 := ia_n 2 (by first | decide | omega)
  try have k_3 := ia_n 3 (by first | decide | omega)
  try have k_4 := ia_n n77 (by first | decide | omega)
  try have k_5 := ia_n n80 (by first | decide | omega)
  try have k_6 := ia_n ((6 * n77) + n80) (by first | decide | omega)
  try simp only [ia_lt, ia_le, ia_eq, ia_m1, ia_0, ia_1, ne_eq, true_and, and_true, false_and, and_false, or_false, false_or, or_true, true_or, not_true_eq_false, not_false_eq_true] at *
  all_goals omega
set_option maxRecDepth 20000 in
theorem lf_e_goBy_21 (knowF : Nat → Int32) (klineF : Nat → Int32) (kn0 : Nat → Int32) (aq : Nat) (y1 : Int32) (y60 : Int32) (y62 : Int32) (n77 : Nat) (n80 : Nat) (y83 : Int32) (ab_now : NB knowF) (sb_now : SB knowF) (ha : aq ≤ 156) (he0 : HE kn0 knowF) (hl0 : 0 ≤ (klineF aq).toInt ∧ (klineF aq).toInt ≤ 5) (hl1 : ¬ klineF aq = nI 0 ∨ (0 ≤ (klineF (aq + 1)).toInt ∧ (klineF (aq + 1)).toInt ≤ 1 ∧ 0 ≤ (klineF (aq + 2)).toInt ∧ (klineF (aq + 2)).toInt ≤ 5 ∧ 0 ≤ (klineF (aq + 3)).toInt ∧ (klineF (aq + 3)).toInt ≤ 1)) (hl2 : ¬ klineF aq = nI 1 ∨ (0 ≤ (klineF (aq + 1)).toInt ∧ (klineF (aq + 1)).toInt ≤ 5 ∧ 0 ≤ (klineF (aq + 2)).toInt ∧ (klineF (aq + 2)).toInt ≤ 3)) (hl3 : (¬ klineF aq = nI 2 ∧ ¬ klineF aq = nI 3) ∨ (1 ≤ (klineF (aq + 3)).toInt ∧ (klineF (aq + 3)).toInt ≤ 9)) (e2 : y1 = klineF aq) (c6 : y1 = nI 2) (e61 : y60 = klineF (aq + 1)) (e63 : y62 = klineF (aq + 2)) (t69 : 0 ≤ y60.toInt) (t70 : y60.toInt < (knowF 0).toInt) (t71 : 0 ≤ y62.toInt) (t72 : y62.toInt < (knowF 1).toInt) (t73 : y60.toInt ≤ 5) (t74 : y62.toInt ≤ 5) (h78 : n77 < 6) (e79 : y62 = nI n77) (h81 : n80 < 6) (e82 : y60 = nI n80) (e84 : y83 = klineF (aq + 3)) (p86 : True) : 1 ≤ y83.toInt ∧ y83.toInt ≤ 9 := by
  have b_y1 := ia_b y1
  have b_y60 := ia_b y60
  have b_y62 := ia_b y62
  have b_y83 := ia_b y83
  try have k_0 := ia_n 0 (by first | decide | omega)
  try have k_1 := ia_n 1 (by first | decide | omega)
  try have k_2 := ia_n 2 (by first | decide | omega)
  try have k_3 := ia_n 3 (by first | decide | omega)
  try have k_4 := ia_n n77 (by first | decide | omega)
  try have k_5 := ia_n n80 (by first | decide | omega)
  try simp only [ia_lt, ia_le, ia_eq, ia_m1, ia_0, ia_1, ne_eq, true_and, and_true, false_and, and_false, or_false, false_or, or_true, true_or, not_true_eq_false, not_false_eq_true] at *
  all_goals omega
set_option maxRecDepth 20000 in
theorem lf_e_goBy_22 (klineF : Nat → Int32) (aq : Nat) (y1 : Int32) (y97 : Int32) (ha : aq ≤ 156) (hl0 : 0 ≤ (klineF aq).toInt ∧ (klineF aq).toInt ≤ 5) (hl1 : ¬ klineF aq = nI 0 ∨ (0 ≤ (klineF (aq + 1)).toInt ∧ (klineF (aq + 1)).toInt ≤ 1 ∧ 0 ≤ (klineF (aq + 2)).toInt ∧ (klineF (aq + 2)).toInt ≤ 5 ∧ 0 ≤ (klineF (aq + 3)).toInt ∧ (klineF (aq + 3)).toInt ≤ 1)) (hl2 : ¬ klineF aq = nI 1 ∨ (0 ≤ (klineF (aq + 1)).toInt ∧ (klineF (aq + 1)).toInt ≤ 5 ∧ 0 ≤ (klineF (aq + 2)).toInt ∧ (klineF (aq + 2)).toInt ≤ 3)) (hl3 : (¬ klineF aq = nI 2 ∧ ¬ klineF aq = nI 3) ∨ (1 ≤ (klineF (aq + 3)).toInt ∧ (klineF (aq + 3)).toInt ≤ 9)) (e2 : y1 = klineF aq) (c7 : y1 = nI 3) (e98 : y97 = klineF (aq + 1)) : (aq + 1) < 160 := by
  have b_y1 := ia_b y1
  have b_y97 := ia_b y97
  try have k_0 := ia_n 0 (by first | decide | omega)
  try have k_1 := ia_n 1 (by first | decide | omega)
  try have k_2 := ia_n 2 (by first | decide | omega)
  try have k_3 := ia_n 3 (by first | decide | omega)
  try simp only [ia_lt, ia_le, ia_eq, ia_m1, ia_0, ia_1, ne_eq, true_and, and_true, false_and, and_false, or_false, false_or, or_true, true_or, not_true_eq_false, not_false_eq_true] at *
  all_goals omega
set_option maxRecDepth 20000 in
theorem lf_e_goBy_23 (klineF : Nat → Int32) (aq : Nat) (y1 : Int32) (y97 : Int32) (y99 : Int32) (ha : aq ≤ 156) (hl0 : 0 ≤ (klineF aq).toInt ∧ (klineF aq).toInt ≤ 5) (hl1 : ¬ klineF aq = nI 0 ∨ (0 ≤ (klineF (aq + 1)).toInt ∧ (klineF (aq + 1)).toInt ≤ 1 ∧ 0 ≤ (klineF (aq + 2)).toInt ∧ (klineF (aq + 2)).toInt ≤ 5 ∧ 0 ≤ (klineF (aq + 3)).toInt ∧ (klineF (aq + 3)).toInt ≤ 1)) (hl2 : ¬ klineF aq = nI 1 ∨ (0 ≤ (klineF (aq + 1)).toInt ∧ (klineF (aq + 1)).toInt ≤ 5 ∧ 0 ≤ (klineF (aq + 2)).toInt ∧ (klineF (aq + 2)).toInt ≤ 3)) (hl3 : (¬ klineF aq = nI 2 ∧ ¬ klineF aq = nI 3) ∨ (1 ≤ (klineF (aq + 3)).toInt ∧ (klineF (aq + 3)).toInt ≤ 9)) (e2 : y1 = klineF aq) (c7 : y1 = nI 3) (e98 : y97 = klineF (aq + 1)) (e100 : y99 = klineF (aq + 2)) : (aq + 2) < 160 := by
  have b_y1 := ia_b y1
  have b_y97 := ia_b y97
  have b_y99 := ia_b y99
  try have k_0 := ia_n 0 (by first | decide | omega)
  try have k_1 := ia_n 1 (by first | decide | omega)
  try have k_2 := ia_n 2 (by first | decide | omega)
  try have k_3 := ia_n 3 (by first | decide | omega)
  try simp only [ia_lt, ia_le, ia_eq, ia_m1, ia_0, ia_1, ne_eq, true_and, and_true, false_and, and_false, or_false, false_or, or_true, true_or, not_true_eq_false, not_false_eq_true] at *
  all_goals omega
set_option maxRecDepth 20000 in
theorem lf_e_goBy_24 (knowF : Nat → Int32) (klineF : Nat → Int32) (kn0 : Nat → Int32) (aq : Nat) (y1 : Int32) (y97 : Int32) (y99 : Int32) (ab_now : NB knowF) (sb_now : SB knowF) (ha : aq ≤ 156) (he0 : HE kn0 knowF) (hl0 : 0 ≤ (klineF aq).toInt ∧ (klineF aq).toInt ≤ 5) (hl1 : ¬ klineF aq = nI 0 ∨ (0 ≤ (klineF (aq + 1)).toInt ∧ (klineF (aq + 1)).toInt ≤ 1 ∧ 0 ≤ (klineF (aq + 2)).toInt ∧ (klineF (aq + 2)).toInt ≤ 5 ∧ 0 ≤ (klineF (aq + 3)).toInt ∧ (klineF (aq + 3)).toInt ≤ 1)) (hl2 : ¬ klineF aq = nI 1 ∨ (0 ≤ (klineF (aq + 1)).toInt ∧ (klineF (aq + 1)).toInt ≤ 5 ∧ 0 ≤ (klineF (aq + 2)).toInt ∧ (klineF (aq + 2)).toInt ≤ 3)) (hl3 : (¬ klineF aq = nI 2 ∧ ¬ klineF aq = nI 3) ∨ (1 ≤ (klineF (aq + 3)).toInt ∧ (klineF (aq + 3)).toInt ≤ 9)) (e2 : y1 = klineF aq) (c7 : y1 = nI 3) (e98 : y97 = klineF (aq + 1)) (e100 : y99 = klineF (aq + 2)) (t107 : 0 ≤ y97.toInt) (t108 : y97.toInt < (knowF 0).toInt) (t109 : 0 ≤ y99.toInt) (t110 : y99.toInt < (knowF 1).toInt) (t111 : y97.toInt ≤ 5) (t112 : y99.toInt ≤ 5) : 0 ≤ y99.toInt ∧ y99.toInt < ((6 : Nat) : Int) := by
  have b_y1 := ia_b y1
  have b_y97 := ia_b y97
  have b_y99 := ia_b y99
  try have k_0 := ia_n 0 (by first | decide | omega)
  try have k_1 := ia_n 1 (by first | decide | omega)
  try have k_2 := ia_n 2 (by first | decide | omega)
  try have k_3 := ia_n 3 (by first | decide | omega)
  try simp only [ia_lt, ia_le, ia_eq, ia_m1, ia_0, ia_1, ne_eq, true_and, and_true, false_and, and_false, or_false, false_or, or_true, true_or, not_true_eq_false, not_false_eq_true] at *
  all_goals omega
set_option maxRecDepth 20000 in
theorem lf_e_goBy_25 (knowF : Nat → Int32) (klineF : Nat → Int32) (kn0 : Nat → Int32) (aq : Nat) (y1 : Int32) (y97 : Int32) (y99 : Int32) (n115 : Nat) (ab_now : NB knowF) (sb_now : SB knowF) (ha : aq ≤ 156) (he0 : HE kn0 knowF) (hl0 : 0 ≤ (klineF aq).toInt ∧ (klineF aq).toInt ≤ 5) (hl1 : ¬ klineF aq = nI 0 ∨ (0 ≤ (klineF (aq + 1)).toInt ∧ (klineF (aq + 1)).toInt ≤ 1 ∧ 0 ≤ (klineF (aq + 2)).toInt ∧ (klineF (aq + 2)).toInt ≤ 5 ∧ 0 ≤ (klineF (aq + 3)).toInt ∧ (klineF (aq + 3)).toInt ≤ 1)) (hl2 : ¬ klineF aq = nI 1 ∨ (0 ≤ (klineF (aq + 1)).toInt ∧ (klineF (aq + 1)).toInt ≤ 5 ∧ 0 ≤ (klineF (aq + 2)).toInt ∧ (klineF (aq + 2)).toInt ≤ 3)) (hl3 : (¬ klineF aq = nI 2 ∧ ¬ klineF aq = nI 3) ∨ (1 ≤ (klineF (aq + 3)).toInt ∧ (klineF (aq + 3)).toInt ≤ 9)) (e2 : y1 = klineF aq) (c7 : y1 = nI 3) (e98 : y97 = klineF (aq + 1)) (e100 : y99 = klineF (aq + 2)) (t107 : 0 ≤ y97.toInt) (t108 : y97.toInt < (knowF 0).toInt) (t109 : 0 ≤ y99.toInt) (t110 : y99.toInt < (knowF 1).toInt) (t111 : y97.toInt ≤ 5) (t112 : y99.toInt ≤ 5) (h116 : n115 < 6) (e117 : y99 = nI n115) : 0 ≤ y97.toInt ∧ y97.toInt < ((6 : Nat) : Int) := by
  have b_y1 := ia_b y1
  have b_y97 := ia_b y97
  have b_y99 := ia_b y99
  try have k_0 := ia_n 0 (by first | decide | omega)
  try have k_1 := ia_n 1 (by first | decide | omega)
  try have k_2 := ia_n 2 (by first | decide | omega)
  try have k_3 := ia_n 3 (by first | decide | omega)
  try have k_4 := ia_n n115 (by first | decide | omega)
  try simp only [ia_lt, ia_le, ia_eq, ia_m1, ia_0, ia_1, ne_eq, true_and, and_true, false_and, and_false, or_false, false_or, or_true, true_or, not_true_eq_false, not_false_eq_true] at *
  all_goals omega
set_option maxRecDepth 20000 in
theorem lf_e_goBy_26 (knowF : Nat → Int32) (klineF : Nat → Int32) (kn0 : Nat → Int32) (aq : Nat) (y1 : Int32) (y97 : Int32) (y99 : Int32) (n115 : Nat) (n118 : Nat) (y121 : Int32) (ab_now : NB knowF) (sb_now : SB knowF) (ha : aq ≤ 156) (he0 : HE kn0 knowF) (hl0 : 0 ≤ (klineF aq).toInt ∧ (klineF aq).toInt ≤ 5) (hl1 : ¬ klineF aq = nI 0 ∨ (0 ≤ (klineF (aq + 1)).toInt ∧ (klineF (aq + 1)).toInt ≤ 1 ∧ 0 ≤ (klineF (aq + 2)).toInt ∧ (klineF (aq + 2)).toInt ≤ 5 ∧ 0 ≤ (klineF (aq + 3)).toInt ∧ (klineF (aq + 3)).toInt ≤ 1)) (hl2 : ¬ klineF aq = nI 1 ∨ (0 ≤ (klineF (aq + 1)).toInt ∧ (klineF (aq + 1)).toInt ≤ 5 ∧ 0 ≤ (klineF (aq + 2)).toInt ∧ (klineF (aq + 2)).toInt ≤ 3)) (hl3 : (¬ klineF aq = nI 2 ∧ ¬ klineF aq = nI 3) ∨ (1 ≤ (klineF (aq + 3)).toInt ∧ (klineF (aq + 3)).toInt ≤ 9)) (e2 : y1 = klineF aq) (c7 : y1 = nI 3) (e98 : y97 = klineF (aq + 1)) (e100 : y99 = klineF (aq + 2)) (t107 : 0 ≤ y97.toInt) (t108 : y97.toInt < (knowF 0).toInt) (t109 : 0 ≤ y99.toInt) (t110 : y99.toInt < (knowF 1).toInt) (t111 : y97.toInt ≤ 5) (t112 : y99.toInt ≤ 5) (h116 : n115 < 6) (e117 : y99 = nI n115) (h119 : n118 < 6) (e120 : y97 = nI n118) (e122 : y121 = klineF (aq + 3)) : (aq + 3) < 160 := by
  have b_y1 := ia_b y1
  have b_y97 := ia_b y97
  have b_y99 := ia_b y99
  have b_y121 := ia_b y121
  try have k_0 := ia_n 0 (by first | decide | omega)
  try have k_1 := ia_n 1 (by first | decide | omega)
  try have k_2 := ia_n 2 (by first | decide | omega)
  try have k_3 := ia_n 3 (by first | decide | omega)
  try have k_4 := ia_n n115 (by first | decide | omega)
  try have k_5 := ia_n n118 (by first | decide | omega)
  try simp only [ia_lt, ia_le, ia_eq, ia_m1, ia_0, ia_1, ne_eq, true_and, and_true, false_and, and_false, or_false, false_or, or_true, true_or, not_true_eq_false, not_false_eq_true] at *
  all_goals omega
set_option maxRecDepth 20000 in
theorem lf_e_goBy_27 (knowF : Nat → Int32) (klineF : Nat → Int32) (kn0 : Nat → Int32) (aq : Nat) (y1 : Int32) (y97 : Int32) (y99 : Int32) (n115 : Nat) (n118 : Nat) (y121 : Int32) (ab_now : NB knowF) (sb_now : SB knowF) (ha : aq ≤ 156) (he0 : HE kn0 knowF) (hl0 : 0 ≤ (klineF aq).toInt ∧ (klineF aq).toInt ≤ 5) (hl1 : ¬ klineF aq = nI 0 ∨ (0 ≤ (klineF (aq + 1)).toInt ∧ (klineF (aq + 1)).toInt ≤ 1 ∧ 0 ≤ (klineF (aq + 2)).toInt ∧ (klineF (aq + 2)).toInt ≤ 5 ∧ 0 ≤ (klineF (aq + 3)).toInt ∧ (klineF (aq + 3)).toInt ≤ 1)) (hl2 : ¬ klineF aq = nI 1 ∨ (0 ≤ (klineF (aq + 1)).toInt ∧ (klineF (aq + 1)).toInt ≤ 5 ∧ 0 ≤ (klineF (aq + 2)).toInt ∧ (klineF (aq + 2)).toInt ≤ 3)) (hl3 : (¬ klineF aq = nI 2 ∧ ¬ klineF aq = nI 3) ∨ (1 ≤ (klineF (aq + 3)).toInt ∧ (klineF (aq + 3)).toInt ≤ 9)) (e2 : y1 = klineF aq) (c7 : y1 = nI 3) (e98 : y97 = klineF (aq + 1)) (e100 : y99 = klineF (aq + 2)) (t107 : 0 ≤ y97.toInt) (t108 : y97.toInt < (knowF 0).toInt) (t109 : 0 ≤ y99.toInt) (t110 : y99.toInt < (knowF 1).toInt) (t111 : y97.toInt ≤ 5) (t112 : y99.toInt ≤ 5) (h116 : n115 < 6) (e117 : y99 = nI n115) (h119 : n118 < 6) (e120 : y97 = nI n118) (e122 : y121 = klineF (aq + 3)) : 0 ≤ (nI ((6 * n115) + n118)).toInt ∧ (nI ((6 * n115) + n118)).toInt ≤ 35 := by
  have b_y1 := ia_b y1
  have b_y97 := ia_b y97
  have b_y99 := ia_b y99
  have b_y121 := ia_b y121
  try have k_0 := ia_n 0 (by first | decide | omega)
  try have k_1 := ia_n 1 (by first | decide | omega)
  try have k_2 := ia_n 2 (by first | decide | omega)
  try have k_3 := ia_n 3 (by first | decide | omega)
  try have k_4 := ia_n n115 (by first | decide | omega)
  try have k_5 := ia_n n118 (by first | decide | omega)
  try have k_6 := ia_n ((6 * n115) + n118) (by first | decide | omega)
  try simp only [ia_lt, ia_le, ia_eq, ia_m1, ia_0, ia_1, ne_eq, true_and, and_true, false_and, and_false, or_false, false_or, or_true, true_or, not_true_eq_false, not_false_eq_true] at *
  all_goals omega
set_option maxRecDepth 20000 in
theorem lf_e_goBy_28 (knowF : Nat → Int32) (klineF : Nat → Int32) (kn0 : Nat → Int32) (aq : Nat) (y1 : Int32) (y97 : Int32) (y99 : Int32) (n115 : Nat) (n118 : Nat) (y121 : Int32) (ab_now : NB knowF) (sb_now : SB knowF) (ha : aq ≤ 156) (he0 : HE kn0 knowF) (hl0 : 0 ≤ (klineF aq).toInt ∧ (klineF aq).toInt ≤ 5) (hl1 : ¬ klineF aq = nI 0 ∨ (0 ≤ (klineF (aq + 1)).toInt ∧ (klineF (aq + 1)).toInt ≤ 1 ∧ 0 ≤ (klineF (aq + 2)).toInt ∧ (klineF (aq + 2)).toInt ≤ 5 ∧ 0 ≤ (klineF (aq + 3)).toInt ∧ (klineF (aq + 3)).toInt ≤ 1)) (hl2 : ¬ klineF aq = nI 1 ∨ (0 ≤ (klineF (aq + 1)).toInt ∧ (klineF (aq + 1)).toInt ≤ 5 ∧ 0 ≤ (klineF (aq + 2)).toInt ∧ (klineF (aq + 2)).toInt ≤ 3)) (hl3 : (¬ klineF aq = nI 2 ∧ ¬ klineF aq = nI 3) ∨ (1 ≤ (klineF (aq + 3)).toInt ∧ (klineF (aq + 3)).toInt ≤ 9)) (e2 : y1 = klineF aq) (c7 : y1 = nI 3) (e98 : y97 = klineF (aq + 1)) (e100 : y99 = klineF (aq + 2)) (t107 : 0 ≤ y97.toInt) (t108 : y97.toInt < (knowF 0).toInt) (t109 : 0 ≤ y99.toInt) (t110 : y99.toInt < (knowF 1).toInt) (t111 : y97.toInt ≤ 5) (t112 : y99.toInt ≤ 5) (h116 : n115 < 6) (e117 : y99 = nI n115) (h119 : n118 < 6) (e120 : y97 = nI n118) (e122 : y121 = klineF (aq + 3)) (p124 : True) : 0 ≤ (nI ((6 * n115) + n118)).toInt ∧ (nI ((6 * n115) + n118)).toInt ≤ 35 := by
  have b_y1 := ia_b y1
  have b_y97 := ia_b y97
  have b_y99 := ia_b y99
  have b_y121 := ia_b y121
  try have k_0 := ia_n 0 (by first | decide | omega)
  try have k_1 := ia_n 1 (by first | decide | omega)
  try have k_2 := ia_n 2 (by first | decide | omega)
  try have k_3 := ia_n 3 (by first | decide | omega)
  try have k_4 := ia_n n115 (by first | decide | omega)
  try have k_5 := ia_n n118 (by first | decide | omega)
  try have k_6 := ia_n ((6 * n115) + n118) (by first | decide | omega)
  try simp only [ia_lt, ia_le, ia_eq, ia_m1, ia_0, ia_1, ne_eq, true_and, and_true, false_and, and_false, or_false, false_or, or_true, true_or, not_true_eq_false, not_false_eq_true] at *
  all_goals omega
set_option maxRecDepth 20000 in
theorem lf_e_goBy_29 (knowF : Nat → Int32) (klineF : Nat → Int32) (kn0 : Nat → Int32) (aq : Nat) (y1 : Int32) (y97 : Int32) (y99 : Int32) (n115 : Nat) (n118 : Nat) (y121 : Int32) (ab_now : NB knowF) (sb_now : SB knowF) (ha : aq ≤ 156) (he0 : HE kn0 knowF) (hl0 : 0 ≤ (klineF aq).toInt ∧ (klineF aq).toInt ≤ 5) (hl1 : ¬ klineF aq = nI 0 ∨ (0 ≤ (klineF (aq + 1)).toInt ∧ (klineF (aq + 1)).toInt ≤ 1 ∧ 0 ≤ (klineF (aq + 2)).toInt ∧ (klineF (aq + 2)).toInt ≤ 5 ∧ 0 ≤ (klineF (aq + 3)).toInt ∧ (klineF (aq + 3)).toInt ≤ 1)) (hl2 : ¬ klineF aq = nI 1 ∨ (0 ≤ (klineF (aq + 1)).toInt ∧ (klineF (aq + 1)).toInt ≤ 5 ∧ 0 ≤ (klineF (aq + 2)).toInt ∧ (klineF (aq + 2)).toInt ≤ 3)) (hl3 : (¬ klineF aq = nI 2 ∧ ¬ klineF aq = nI 3) ∨ (1 ≤ (klineF (aq + 3)).toInt ∧ (klineF (aq + 3)).toInt ≤ 9)) (e2 : y1 = klineF aq) (c7 : y1 = nI 3) (e98 : y97 = klineF (aq + 1)) (e100 : y99 = klineF (aq + 2)) (t107 : 0 ≤ y97.toInt) (t108 : y97.toInt < (knowF 0).toInt) (t109 : 0 ≤ y99.toInt) (t110 : y99.toInt < (knowF 1).toInt) (t111 : y97.toInt ≤ 5) (t112 : y99.toInt ≤ 5) (h116 : n115 < 6) (e117 : y99 = nI n115) (h119 : n118 < 6) (e120 : y97 = nI n118) (e122 : y121 = klineF (aq + 3)) (p124 : True) : 1 ≤ y121.toInt ∧ y121.toInt ≤ 9 := by
  have b_y1 := ia_b y1
  have b_y97 := ia_b y97
  have b_y99 := ia_b y99
  have b_y121 := ia_b y121
  try have k_0 := ia_n 0 (by first | decide | omega)
  try have k_1 := ia_n 1 (by first | decide | omega)
  try have k_2 := ia_n 2 (by first | decide | omega)
  try have k_3 := ia_n 3 (by first | decide | omega)
  try have k_4 := ia_n n115 (by first | decide | omega)
  try have k_5 := ia_n n118 (by first | decide | omega)
  try simp only [ia_lt, ia_le, ia_eq, ia_m1, ia_0, ia_1, ne_eq, true_and, and_true, false_and, and_false, or_false, false_or, or_true, true_or, not_true_eq_false, not_false_eq_true] at *
  all_goals omega
set_option maxRecDepth 20000 in
theorem lf_e_goBy_30 (klineF : Nat → Int32) (aq : Nat) (y1 : Int32) (y135 : Int32) (ha : aq ≤ 156) (hl0 : 0 ≤ (klineF aq).toInt ∧ (klineF aq).toInt ≤ 5) (hl1 : ¬ klineF aq = nI 0 ∨ (0 ≤ (klineF (aq + 1)).toInt ∧ (klineF (aq + 1)).toInt ≤ 1 ∧ 0 ≤ (klineF (aq + 2)).toInt ∧ (klineF (aq + 2)).toInt ≤ 5 ∧ 0 ≤ (klineF (aq + 3)).toInt ∧ (klineF (aq + 3)).toInt ≤ 1)) (hl2 : ¬ klineF aq = nI 1 ∨ (0 ≤ (klineF (aq + 1)).toInt ∧ (klineF (aq + 1)).toInt ≤ 5 ∧ 0 ≤ (klineF (aq + 2)).toInt ∧ (klineF (aq + 2)).toInt ≤ 3)) (hl3 : (¬ klineF aq = nI 2 ∧ ¬ klineF aq = nI 3) ∨ (1 ≤ (klineF (aq + 3)).toInt ∧ (klineF (aq + 3)).toInt ≤ 9)) (e2 : y1 = klineF aq) (c8 : y1 = nI 4) (e136 : y135 = klineF (aq + 1)) : (aq + 1) < 160 := by
  have b_y1 := ia_b y1
  have b_y135 := ia_b y135
  try have k_0 := ia_n 0 (by first | decide | omega)
  try have k_1 := ia_n 1 (by first | decide | omega)
  try have k_2 := ia_n 2 (by first | decide | omega)
  try have k_3 := ia_n 3 (by first | decide | omega)
  try have k_4 := ia_n 4 (by first | decide | omega)
  try simp only [ia_lt, ia_le, ia_eq, ia_m1, ia_0, ia_1, ne_eq, true_and, and_true, false_and, and_false, or_false, false_or, or_true, true_or, not_true_eq_false, not_false_eq_true] at *
  all_goals omega
set_option maxRecDepth 20000 in
theorem lf_e_goBy_31 (klineF : Nat → Int32) (aq : Nat) (y1 : Int32) (y135 : Int32) (y137 : Int32) (ha : aq ≤ 156) (hl0 : 0 ≤ (klineF aq).toInt ∧ (klineF aq).toInt ≤ 5) (hl1 : ¬ klineF aq = nI 0 ∨ (0 ≤ (klineF (aq + 1)).toInt ∧ (klineF (aq + 1)).toInt ≤ 1 ∧ 0 ≤ (klineF (aq + 2)).toInt ∧ (klineF (aq + 2)).toInt ≤ 5 ∧ 0 ≤ (klineF (aq + 3)).toInt ∧ (klineF (aq + 3)).toInt ≤ 1)) (hl2 : ¬ klineF aq = nI 1 ∨ (0 ≤ (klineF (aq + 1)).toInt ∧ (klineF (aq + 1)).toInt ≤ 5 ∧ 0 ≤ (klineF (aq + 2)).toInt ∧ (klineF (aq + 2)).toInt ≤ 3)) (hl3 : (¬ klineF aq = nI 2 ∧ ¬ klineF aq = nI 3) ∨ (1 ≤ (klineF (aq + 3)).toInt ∧ (klineF (aq + 3)).toInt ≤ 9)) (e2 : y1 = klineF aq) (c8 : y1 = nI 4) (e136 : y135 = klineF (aq + 1)) (e138 : y137 = klineF (aq + 2)) : (aq + 2) < 160 := by
  have b_y1 := ia_b y1
  have b_y135 := ia_b y135
  have b_y137 := ia_b y137
  try have k_0 := ia_n 0 (by first | decide | omega)
  try have k_1 := ia_n 1 (by first | decide | omega)
  try have k_2 := ia_n 2 (by first | decide | omega)
  try have k_3 := ia_n 3 (by first | decide | omega)
  try have k_4 := ia_n 4 (by first | decide | omega)
  try simp only [ia_lt, ia_le, ia_eq, ia_m1, ia_0, ia_1, ne_eq, true_and, and_true, false_and, and_false, or_false, false_or, or_true, true_or, not_true_eq_false, not_false_eq_true] at *
  all_goals omega
set_option maxRecDepth 20000 in
theorem lf_e_goBy_32 (klineF : Nat → Int32) (aq : Nat) (y1 : Int32) (y154 : Int32) (ha : aq ≤ 156) (hl0 : 0 ≤ (klineF aq).toInt ∧ (klineF aq).toInt ≤ 5) (hl1 : ¬ klineF aq = nI 0 ∨ (0 ≤ (klineF (aq + 1)).toInt ∧ (klineF (aq + 1)).toInt ≤ 1 ∧ 0 ≤ (klineF (aq + 2)).toInt ∧ (klineF (aq + 2)).toInt ≤ 5 ∧ 0 ≤ (klineF (aq + 3)).toInt ∧ (klineF (aq + 3)).toInt ≤ 1)) (hl2 : ¬ klineF aq = nI 1 ∨ (0 ≤ (klineF (aq + 1)).toInt ∧ (klineF (aq + 1)).toInt ≤ 5 ∧ 0 ≤ (klineF (aq + 2)).toInt ∧ (klineF (aq + 2)).toInt ≤ 3)) (hl3 : (¬ klineF aq = nI 2 ∧ ¬ klineF aq = nI 3) ∨ (1 ≤ (klineF (aq + 3)).toInt ∧ (klineF (aq + 3)).toInt ≤ 9)) (e2 : y1 = klineF aq) (c9 : y1 = nI 5) (e155 : y154 = klineF (aq + 1)) : (aq + 1) < 160 := by
  have b_y1 := ia_b y1
  have b_y154 := ia_b y154
  try have k_0 := ia_n 0 (by first | decide | omega)
  try have k_1 := ia_n 1 (by first | decide | omega)
  try have k_2 := ia_n 2 (by first | decide | omega)
  try have k_3 := ia_n 3 (by first | decide | omega)
  try have k_4 := ia_n 5 (by first | decide | omega)
  try simp only [ia_lt, ia_le, ia_eq, ia_m1, ia_0, ia_1, ne_eq, true_and, and_true, false_and, and_false, or_false, false_or, or_true, true_or, not_true_eq_false, not_false_eq_true] at *
  all_goals omega
set_option maxRecDepth 20000 in
theorem lf_e_goBy_33 (klineF : Nat → Int32) (aq : Nat) (y1 : Int32) (y154 : Int32) (y156 : Int32) (ha : aq ≤ 156) (hl0 : 0 ≤ (klineF aq).toInt ∧ (klineF aq).toInt ≤ 5) (hl1 : ¬ klineF aq = nI 0 ∨ (0 ≤ (klineF (aq + 1)).toInt ∧ (klineF (aq + 1)).toInt ≤ 1 ∧ 0 ≤ (klineF (aq + 2)).toInt ∧ (klineF (aq + 2)).toInt ≤ 5 ∧ 0 ≤ (klineF (aq + 3)).toInt ∧ (klineF (aq + 3)).toInt ≤ 1)) (hl2 : ¬ klineF aq = nI 1 ∨ (0 ≤ (klineF (aq + 1)).toInt ∧ (klineF (aq + 1)).toInt ≤ 5 ∧ 0 ≤ (klineF (aq + 2)).toInt ∧ (klineF (aq + 2)).toInt ≤ 3)) (hl3 : (¬ klineF aq = nI 2 ∧ ¬ klineF aq = nI 3) ∨ (1 ≤ (klineF (aq + 3)).toInt ∧ (klineF (aq + 3)).toInt ≤ 9)) (e2 : y1 = klineF aq) (c9 : y1 = nI 5) (e155 : y154 = klineF (aq + 1)) (e157 : y156 = klineF (aq + 2)) : (aq + 2) < 160 := by
  have b_y1 := ia_b y1
  have b_y154 := ia_b y154
  have b_y156 := ia_b y156
  try have k_0 := ia_n 0 (by first | decide | omega)
  try have k_1 := ia_n 1 (by first | decide | omega)
  try have k_2 := ia_n 2 (by first | decide | omega)
  try have k_3 := ia_n 3 (by first | decide | omega)
  try have k_4 := ia_n 5 (by first | decide | omega)
  try simp only [ia_lt, ia_le, ia_eq, ia_m1, ia_0, ia_1, ne_eq, true_and, and_true, false_and, and_false, or_false, false_or, or_true, true_or, not_true_eq_false, not_false_eq_true] at *
  all_goals omega
set_option maxHeartbeats 4000000 in
set_option maxRecDepth 100000 in
theorem c_e_goBy (l : Launch) (dC : Nat → ClassId) (dI : Nat → Nat → Nat) (ky : Nat → ClassId) (sz : Nat) (o : Nat) (kthrown : Int32) (ktape : Nat) (ktaped : Nat) (ksize : Nat) (klimit : Nat) (kto : Nat) (kfrom : Nat) (kkind : Int32) (knumber : Int32) (ksign : Int32) (kfault : Int32) (kplace : Int32) (kword : Int64) (ktold : Int32) (know : Nat) (kread : Nat) (kkept : Nat) (ksnaps : Nat) (kaside : Nat) (kname : Nat) (kreadName : Nat) (kkeptName : Nat) (kisKept : Nat) (konces : Nat) (ksnapMany : Nat) (khasCells : Int32) (kpoured : Nat) (kfar : Nat) (ksides : Nat) (ksideMany : Nat) (kwayDays : Int32) (khasWay : Int32) (klines : Nat) (kmet : Nat) (kmetMany : Nat) (ksunk : Nat) (ktrying : Nat) (ksunkMany : Nat) (ksending : Int32) (kfleets : Int32) (ktext : Nat) (ktexts : Nat) (kseed : Int32) (kline : Nat) (kwritten : Nat) (klineMany : Nat) (khasWritten : Int32) (knode : Nat) (knodes : Nat) (konesMany : Nat) (kwithin : Nat) (ktop : Nat) (knowF : Nat → Int32) (kpouredF : Nat → Int32) (klineF : Nat → Int32) (kn0 : Nat → Int32) (aq : Nat) (iv_ko_0 : ktaped ≤ 940) (iv_ko_1 : ksize ≤ 940) (iv_ko_2 : klimit ≤ 900) (iv_ko_3 : kto ≤ ksize) (iv_ko_4 : kfrom ≤ 940) (iv_ko_5 : ksnapMany ≤ 8) (iv_ko_6 : ksideMany ≤ 36) (iv_ko_7 : kmetMany ≤ 3) (iv_ko_8 : ksunkMany ≤ 36) (iv_ko_9 : ktexts ≤ 64) (iv_ko_10 : klineMany ≤ 40) (iv_ko_11 : knodes ≤ 60) (iv_ko_12 : konesMany ≤ 20) (iv_ko_13 : kwithin ≤ 8) (iv_ko_14 : ktop ≤ 59) (ab_now : NB knowF) (ab_poured : AP36 kpouredF) (sb_now : SB knowF) (ha : aq ≤ 156) (hLn : LineOk (klineF aq) (klineF (aq + 1)) (klineF (aq + 2)) (klineF (aq + 3))) (he0 : HE kn0 knowF) : Met l yX12_goBy wsX12_goBy ({ frames := 5, cells := 0, slots := 0, locals := 109 }) (PcU dC dI ky [.ref o, .int (nI aq)] [(o, .inr (12, [.int kthrown, .ref ktape, .int (nI ktaped), .int (nI ksize), .int (nI klimit), .int (nI kto), .int (nI kfrom), .int kkind, .int knumber, .int ksign, .int kfault, .int kplace, .long kword, .int ktold, .ref know, .ref kread, .ref kkept, .ref ksnaps, .ref kaside, .ref kname, .ref kreadName, .ref kkeptName, .ref kisKept, .ref konces, .int (nI ksnapMany), .int khasCells, .ref kpoured, .ref kfar, .ref ksides, .int (nI ksideMany), .int kwayDays, .int khasWay, .ref klines, .ref kmet, .int (nI kmetMany), .ref ksunk, .ref ktrying, .int (nI ksunkMany), .int ksending, .int kfleets, .ref ktext, .int (nI ktexts), .int kseed, .ref kline, .ref kwritten, .int (nI klineMany), .int khasWritten, .ref knode, .int (nI knodes), .int (nI konesMany), .int (nI kwithin), .int (nI ktop)])), (know, .inl (ky 0, 373, .inl knowF)), (kpoured, .inl (ky 0, 36, .inl kpouredF)), (kline, .inl (ky 0, 160, .inl klineF))] sz) (va_Qi (fun (r : Int32) (u : (Nat → Int32) × (Nat → Int32)) => match u with | (knowG, kpouredG) => (NB knowG) ∧ (SB knowG) ∧ (AP36 kpouredG) ∧ (HE kn0 knowG)) (BU dC dI ky (fun (u : (Nat → Int32) × (Nat → Int32)) => match u with | (knowG, kpouredG) => [(o, .inr (12, [.int kthrown, .ref ktape, .int (nI ktaped), .int (nI ksize), .int (nI klimit), .int (nI kto), .int (nI kfrom), .int kkind, .int knumber, .int ksign, .int kfault, .int kplace, .long kword, .int ktold, .ref know, .ref kread, .ref kkept, .ref ksnaps, .ref kaside, .ref kname, .ref kreadName, .ref kkeptName, .ref kisKept, .ref konces, .int (nI ksnapMany), .int khasCells, .ref kpoured, .ref kfar, .ref ksides, .int (nI ksideMany), .int kwayDays, .int khasWay, .ref klines, .ref kmet, .int (nI kmetMany), .ref ksunk, .ref ktrying, .int (nI ksunkMany), .int ksending, .int kfleets, .ref ktext, .int (nI ktexts), .int kseed, .ref kline, .ref kwritten, .int (nI klineMany), .int khasWritten, .ref knode, .int (nI knodes), .int (nI konesMany), .int (nI kwithin), .int (nI ktop)])), (know, .inl (ky 0, 373, .inl knowG)), (kpoured, .inl (ky 0, 36, .inl kpouredG)), (kline, .inl (ky 0, 160, .inl klineF))]) (va_A [(o, .inr (12, [.int kthrown, .ref ktape, .int (nI ktaped), .int (nI ksize), .int (nI klimit), .int (nI kto), .int (nI kfrom), .int kkind, .int knumber, .int ksign, .int kfault, .int kplace, .long kword, .int ktold, .ref know, .ref kread, .ref kkept, .ref ksnaps, .ref kaside, .ref kname, .ref kreadName, .ref kkeptName, .ref kisKept, .ref konces, .int (nI ksnapMany), .int khasCells, .ref kpoured, .ref kfar, .ref ksides, .int (nI ksideMany), .int kwayDays, .int khasWay, .ref klines, .ref kmet, .int (nI kmetMany), .ref ksunk, .ref ktrying, .int (nI ksunkMany), .int ksending, .int kfleets, .ref ktext, .int (nI ktexts), .int kseed, .ref kline, .ref kwritten, .int (nI klineMany), .int khasWritten, .ref knode, .int (nI knodes), .int (nI konesMany), .int (nI kwithin), .int (nI ktop)])), (know, .inl (ky 0, 373, .inl knowF)), (kpoured, .inl (ky 0, 36, .inl kpouredF)), (kline, .inl (ky 0, 160, .inl klineF))] sz)) (va_A [(o, .inr (12, [.int kthrown, .ref ktape, .int (nI ktaped), .int (nI ksize), .int (nI klimit), .int (nI kto), .int (nI kfrom), .int kkind, .int knumber, .int ksign, .int kfault, .int kplace, .long kword, .int ktold, .ref know, .ref kread, .ref kkept, .ref ksnaps, .ref kaside, .ref kname, .ref kreadName, .ref kkeptName, .ref kisKept, .ref konces, .int (nI ksnapMany), .int khasCells, .ref kpoured, .ref kfar, .ref ksides, .int (nI ksideMany), .int kwayDays, .int khasWay, .ref klines, .ref kmet, .int (nI kmetMany), .ref ksunk, .ref ktrying, .int (nI ksunkMany), .int ksending, .int kfleets, .ref ktext, .int (nI ktexts), .int kseed, .ref kline, .ref kwritten, .int (nI klineMany), .int khasWritten, .ref knode, .int (nI knodes), .int (nI konesMany), .int (nI kwithin), .int (nI ktop)])), (know, .inl (ky 0, 373, .inl knowF)), (kpoured, .inl (ky 0, 36, .inl kpouredF)), (kline, .inl (ky 0, 160, .inl klineF))] sz)) 0 0 (va_A [(o, .inr (12, [.int kthrown, .ref ktape, .int (nI ktaped), .int (nI ksize), .int (nI klimit), .int (nI kto), .int (nI kfrom), .int kkind, .int knumber, .int ksign, .int kfault, .int kplace, .long kword, .int ktold, .ref know, .ref kread, .ref kkept, .ref ksnaps, .ref kaside, .ref kname, .ref kreadName, .ref kkeptName, .ref kisKept, .ref konces, .int (nI ksnapMany), .int khasCells, .ref kpoured, .ref kfar, .ref ksides, .int (nI ksideMany), .int kwayDays, .int khasWay, .ref klines, .ref kmet, .int (nI kmetMany), .ref ksunk, .ref ktrying, .int (nI ksunkMany), .int ksending, .int kfleets, .ref ktext, .int (nI ktexts), .int kseed, .ref kline, .ref kwritten, .int (nI klineMany), .int khasWritten, .ref knode, .int (nI knodes), .int (nI konesMany), .int (nI kwithin), .int (nI ktop)])), (know, .inl (ky 0, 373, .inl knowF)), (kpoured, .inl (ky 0, 36, .inl kpouredF)), (kline, .inl (ky 0, 160, .inl klineF))] sz) := by
  refine Met.ofW (cc := cX12_goBy) (maxL := 6) (ret := (some .int)) (by decide) rfl ?_
  intro p e s m args below meth c s₁ B hml hv
  obtain ⟨rfl, hsz, hP, hK, hD0⟩ := hv
  have hx := B.exec
  have hb := B.bytes
  have hr := B.returns
  have hts := atoms_spec (ws := wsX12_goBy) B.pre
  have hown : s.vm.findClass RX12 = some m.cls := findClass_of_methodNamed B.named
  have hlocks := B.notSynchronized
  have hin12 : ∀ w ∈ u_ws RX12 TX12 52, w ∈ wsX12_goBy := by decide +kernel
  subst hsz
  have hD := hD0.self (sz := s.heap.size)
  generalize hAe : va_A [(o, .inr (12, [.int kthrown, .ref ktape, .int (nI ktaped), .int (nI ksize), .int (nI klimit), .int (nI kto), .int (nI kfrom), .int kkind, .int knumber, .int ksign, .int kfault, .int kplace, .long kword, .int ktold, .ref know, .ref kread, .ref kkept, .ref ksnaps, .ref kaside, .ref kname, .ref kreadName, .ref kkeptName, .ref kisKept, .ref konces, .int (nI ksnapMany), .int khasCells, .ref kpoured, .ref kfar, .ref ksides, .int (nI ksideMany), .int kwayDays, .int khasWay, .ref klines, .ref kmet, .int (nI kmetMany), .ref ksunk, .ref ktrying, .int (nI ksunkMany), .int ksending, .int kfleets, .ref ktext, .int (nI ktexts), .int kseed, .ref kline, .ref kwritten, .int (nI klineMany), .int khasWritten, .ref knode, .int (nI knodes), .int (nI konesMany), .int (nI kwithin), .int (nI ktop)])), (know, .inl (ky 0, 373, .inl knowF)), (kpoured, .inl (ky 0, 36, .inl kpouredF)), (kline, .inl (ky 0, 160, .inl klineF))] s.heap.size = A at hD ⊢
  have hA : ∀ q : Nat, s.heap.size ≤ q → A q := fun q h => by rw [← hAe]; exact Or.inr h
  have hS : va_S A s.heap s.heap [] := va_S.rf
  have hl := lv_entry ([.ref o, .int (nI aq)]) (n := 6) (Nat.le_of_ble_eq_true rfl)
  rw [lg_entry_eq]
  generalize (lg_sl ([.ref o, .int (nI aq)]) ++ List.replicate (6 - (lg_sl ([.ref o, .int (nI aq)])).length) Slot.unset).toArray = ls at hl ⊢
  have hl : lv_has ls 6 [(0, .ref o), (1, .int (nI aq))] := hl
  refine q_name (fun Q hQ => ?_)
  generalize ([.ref o, .int (nI aq)] : List Value).toArray = args at hts hQ ⊢
  refine lv_aload_n hx hb dX12_goBy_0 rfl (lv_at hl 0 rfl) ?_
  refine va_get (D := (dC, dI)) (ci := 12) (v := .ref kline) (C := RX12) (T := TX12) (N := 52) hx hb hts hin12 hown hK hP 0 rfl rfl 43 (by decide) (hts (.fieldLink RX12 163 "PorridgeSeaModel" "line" "[I") (List.mem_of_getElem? (i := 1) rfl)) (fun _ h9 => h9) rfl dX12_goBy_1 ?_
  refine lv_iload_n hx hb dX12_goBy_4 rfl (lv_at hl 1 rfl) ?_
  have hl0 : 0 ≤ (klineF aq).toInt ∧ (klineF aq).toInt ≤ 5 := hLn.1
  have hl1 : ¬ klineF aq = nI 0 ∨ (0 ≤ (klineF (aq + 1)).toInt ∧ (klineF (aq + 1)).toInt ≤ 1 ∧ 0 ≤ (klineF (aq + 2)).toInt ∧ (klineF (aq + 2)).toInt ≤ 5 ∧ 0 ≤ (klineF (aq + 3)).toInt ∧ (klineF (aq + 3)).toInt ≤ 1) := hLn.2.1
  have hl2 : ¬ klineF aq = nI 1 ∨ (0 ≤ (klineF (aq + 1)).toInt ∧ (klineF (aq + 1)).toInt ≤ 5 ∧ 0 ≤ (klineF (aq + 2)).toInt ∧ (klineF (aq + 2)).toInt ≤ 3) := hLn.2.2.1
  have hl3 : (¬ klineF aq = nI 2 ∧ ¬ klineF aq = nI 3) ∨ (1 ≤ (klineF (aq + 3)).toInt ∧ (klineF (aq + 3)).toInt ≤ 9) := hLn.2.2.2
  obtain ⟨y1, e2⟩ : ∃ z9, z9 = klineF aq := ⟨_, rfl⟩
  refine r_iald hx hb hK hP 3 rfl aq (lf_e_goBy_1 klineF aq y1 ha hl0 hl1 hl2 hl3 e2) (by decide) y1 e2.symm dX12_goBy_5 ?_
  have hc3 : y1 = nI 0 ∨ y1 = nI 1 ∨ y1 = nI 2 ∨ y1 = nI 3 ∨ y1 = nI 4 ∨ y1 = nI 5 := (lf_e_goBy_2 klineF aq y1 ha hl0 hl1 hl2 hl3 e2)
  rcases hc3 with c4 | c5 | c6 | c7 | c8 | c9
  · refine r_ti (nI 0) c4 ?_
    refine lv_istore_n (lv' := [(2, .int (nI 0)), (0, .ref o), (1, .int (nI aq))]) hx hb dX12_goBy_6 rfl hl (by decide) rfl (fun ls hl => ?_)
    refine lv_aload_n hx hb dX12_goBy_7 rfl (lv_at hl 1 rfl) ?_
    refine va_get (D := (dC, dI)) (ci := 12) (v := .ref kline) (C := RX12) (T := TX12) (N := 52) hx hb hts hin12 hown hK hP 0 rfl rfl 43 (by decide) (hts (.fieldLink RX12 163 "PorridgeSeaModel" "line" "[I") (List.mem_of_getElem? (i := 1) rfl)) (fun _ h9 => h9) rfl dX12_goBy_8 ?_
    refine lv_iload_n hx hb dX12_goBy_11 rfl (lv_at hl 2 rfl) ?_
    refine lv_iconst (v := nI 1) hx hb dX12_goBy_12 (by decide) ?_
    refine lv_iadd hx hb dX12_goBy_13 ?_
    refine r_ti (nI (aq + 1)) (nI_add _ _) ?_
    obtain ⟨y10, e11⟩ : ∃ z9, z9 = klineF (aq + 1) := ⟨_, rfl⟩
    refine r_iald hx hb hK hP 3 rfl (aq + 1) (lf_e_goBy_3 klineF aq y1 y10 ha hl0 hl1 hl2 hl3 e2 c4 e11) (by decide) y10 e11.symm dX12_goBy_14 ?_
    refine lv_istore_n (lv' := [(3, .int y10), (2, .int (nI 0)), (0, .ref o), (1, .int (nI aq))]) hx hb dX12_goBy_15 rfl hl (by decide) rfl (fun ls hl => ?_)
    refine lv_aload_n hx hb dX12_goBy_16 rfl (lv_at hl 2 rfl) ?_
    refine va_get (D := (dC, dI)) (ci := 12) (v := .ref kline) (C := RX12) (T := TX12) (N := 52) hx hb hts hin12 hown hK hP 0 rfl rfl 43 (by decide) (hts (.fieldLink RX12 163 "PorridgeSeaModel" "line" "[I") (List.mem_of_getElem? (i := 1) rfl)) (fun _ h9 => h9) rfl dX12_goBy_17 ?_
    refine lv_iload_n hx hb dX12_goBy_20 rfl (lv_at hl 3 rfl) ?_
    refine lv_iconst (v := nI 2) hx hb dX12_goBy_21 (by decide) ?_
    refine lv_iadd hx hb dX12_goBy_22 ?_
    refine r_ti (nI (aq + 2)) (nI_add _ _) ?_
    obtain ⟨y12, e13⟩ : ∃ z9, z9 = klineF (aq + 2) := ⟨_, rfl⟩
    refine r_iald hx hb hK hP 3 rfl (aq + 2) (lf_e_goBy_4 klineF aq y1 y10 y12 ha hl0 hl1 hl2 hl3 e2 c4 e11 e13) (by decide) y12 e13.symm dX12_goBy_23 ?_
    refine lv_istore (lv' := [(4, .int y12), (3, .int y10), (2, .int (nI 0)), (0, .ref o), (1, .int (nI aq))]) hx hb dX12_goBy_24 hl (by decide) rfl (fun ls hl => ?_)
    refine lv_iload_n hx hb dX12_goBy_26 rfl (lv_at hl 2 rfl) ?_
    refine lv_iconst (v := nI 5) hx hb dX12_goBy_27 (by decide) ?_
    refine lv_icmp_ne (tgt := 57) hx hb dX12_goBy_28 (by decide) (fun c14 => ?_) (fun c14 => absurd c14 (by decide))
    refine lv_iload_n hx hb dX12_goBy_57 rfl (lv_at hl 2 rfl) ?_
    refine lv_if_ne (tgt := 87) hx hb dX12_goBy_58 (by decide) (fun c15 => absurd c15 (by decide)) (fun c15 => ?_)
    refine lv_iload_n hx hb dX12_goBy_61 rfl (lv_at hl 1 rfl) ?_
    refine lv_iload hx hb dX12_goBy_62 (lv_at hl 0 rfl) ?_
    refine lv_aload_n hx hb dX12_goBy_64 rfl (lv_at hl 3 rfl) ?_
    refine va_get (D := (dC, dI)) (ci := 12) (v := .ref kline) (C := RX12) (T := TX12) (N := 52) hx hb hts hin12 hown hK hP 0 rfl rfl 43 (by decide) (hts (.fieldLink RX12 163 "PorridgeSeaModel" "line" "[I") (List.mem_of_getElem? (i := 1) rfl)) (fun _ h9 => h9) rfl dX12_goBy_65 ?_
    refine lv_iload_n hx hb dX12_goBy_68 rfl (lv_at hl 4 rfl) ?_
    refine lv_iconst (v := nI 3) hx hb dX12_goBy_69 (by decide) ?_
    refine lv_iadd hx hb dX12_goBy_70 ?_
    refine r_ti (nI (aq + 3)) (nI_add _ _) ?_
    obtain ⟨y16, e17⟩ : ∃ z9, z9 = klineF (aq + 3) := ⟨_, rfl⟩
    refine r_iald hx hb hK hP 3 rfl (aq + 3) (lf_e_goBy_5 klineF aq y1 y10 y12 y16 ha hl0 hl1 hl2 hl3 e2 c4 e11 e13 e17) (by decide) y16 e17.symm dX12_goBy_71 ?_
    refine vp_callSi (W.runS (As := [.int y10, .int y12, .int y16]) (rest := []) ⟨hx, hb, hml, hown, hts⟩ (c_x_lineOf l dC dI ky y10 y12 y16) (va_cwS 3 hts gX12_goBy_X12_lineOf rfl rfl rfl (by decide +kernel) ⟨(Nat.le_of_ble_eq_true rfl), (Nat.le_of_ble_eq_true rfl)⟩) (pre_PS hK hP [] rfl) rfl rfl hl.1 rfl (lv_room (Nat.le_of_ble_eq_true rfl)) dX12_goBy_72 ⟨(Nat.le_of_ble_eq_true rfl), (Nat.le_of_ble_eq_true rfl)⟩) (fun r18 p19 => ?_)
    refine lv_istore_n (lv' := [(3, .int r18), (4, .int y12), (2, .int (nI 0)), (0, .ref o), (1, .int (nI aq))]) hx hb dX12_goBy_75 rfl hl (by decide) rfl (fun ls hl => ?_)
    refine lv_aload_n hx hb dX12_goBy_76 rfl (lv_at hl 3 rfl) ?_
    refine lv_iload_n hx hb dX12_goBy_77 rfl (lv_at hl 0 rfl) ?_
    refine vp_callSi (W.runV (As := [.int r18]) (rest := []) ⟨hx, hb, hml, hown, hts⟩ (c_x_isLine l dC dI ky o kthrown ktape ktaped ksize klimit kto kfrom kkind knumber ksign kfault kplace kword ktold know kread kkept ksnaps kaside kname kreadName kkeptName kisKept konces ksnapMany khasCells kpoured kfar ksides ksideMany kwayDays khasWay klines kmet kmetMany ksunk ktrying ksunkMany ksending kfleets ktext ktexts kseed kline kwritten klineMany khasWritten knode knodes konesMany kwithin ktop knowF r18 iv_ko_0 iv_ko_1 iv_ko_2 iv_ko_3 iv_ko_4 iv_ko_5 iv_ko_6 iv_ko_7 iv_ko_8 iv_ko_9 iv_ko_10 iv_ko_11 iv_ko_12 iv_ko_13 iv_ko_14 ab_now (lf_e_goBy_6 klineF aq y1 y10 y12 y16 r18 ha hl0 hl1 hl2 hl3 e2 c4 e11 e13 e17 p19)) (cwV 1 hts gX12_goBy_X12_isLine rfl rfl rfl (by decide +kernel) ⟨(Nat.le_of_ble_eq_true rfl), (Nat.le_of_ble_eq_true rfl)⟩) (pre_PV hK hP [0, 1] rfl (ci := 12) (q0 := 0) rfl rfl) rfl rfl hl.1 rfl (lv_room (Nat.le_of_ble_eq_true rfl)) dX12_goBy_78 ⟨(Nat.le_of_ble_eq_true rfl), (Nat.le_of_ble_eq_true rfl)⟩) (fun r20 p21 => ?_)
    refine lv_if_ne (tgt := 87) hx hb dX12_goBy_81 (by decide) (fun c22 => ?_) (fun c22 => ?_)
    · refine lv_iload_n hx hb dX12_goBy_87 rfl (lv_at hl 2 rfl) ?_
      refine lv_iconst (v := nI 2) hx hb dX12_goBy_88 (by decide) ?_
      refine lv_icmp_eq (tgt := 97) hx hb dX12_goBy_89 (by decide) (fun c23 => absurd c23 (by decide)) (fun c23 => ?_)
      refine lv_iload_n hx hb dX12_goBy_92 rfl (lv_at hl 2 rfl) ?_
      refine lv_iconst (v := nI 3) hx hb dX12_goBy_93 (by decide) ?_
      refine lv_icmp_ne (tgt := 133) hx hb dX12_goBy_94 (by decide) (fun c24 => ?_) (fun c24 => absurd c24 (by decide))
      refine lv_aload_n hx hb dX12_goBy_133 rfl (lv_at hl 3 rfl) ?_
      refine lv_iload_n hx hb dX12_goBy_134 rfl (lv_at hl 2 rfl) ?_
      refine lv_iload_n hx hb dX12_goBy_135 rfl (lv_at hl 0 rfl) ?_
      refine lv_iload hx hb dX12_goBy_136 (lv_at hl 1 rfl) ?_
      refine vp_callSi (W.runV (As := [.int (nI 0), .int r18, .int y12]) (rest := []) ⟨hx, hb, hml, hown, hts⟩ (c_x_why0 l dC dI ky o kthrown ktape ktaped ksize klimit kto kfrom kkind knumber ksign kfault kplace kword ktold know kread kkept ksnaps kaside kname kreadName kkeptName kisKept konces ksnapMany khasCells kpoured kfar ksides ksideMany kwayDays khasWay klines kmet kmetMany ksunk ktrying ksunkMany ksending kfleets ktext ktexts kseed kline kwritten klineMany khasWritten knode knodes konesMany kwithin ktop knowF r18 y12 iv_ko_0 iv_ko_1 iv_ko_2 iv_ko_3 iv_ko_4 iv_ko_5 iv_ko_6 iv_ko_7 iv_ko_8 iv_ko_9 iv_ko_10 iv_ko_11 iv_ko_12 iv_ko_13 iv_ko_14 ab_now) (cwV 3 hts gX12_goBy_X12_why rfl rfl rfl (by decide +kernel) ⟨(Nat.le_of_ble_eq_true rfl), (Nat.le_of_ble_eq_true rfl)⟩) (pre_PV hK hP [0, 1] rfl (ci := 12) (q0 := 0) rfl rfl) rfl rfl hl.1 rfl (lv_room (Nat.le_of_ble_eq_true rfl)) dX12_goBy_138 ⟨(Nat.le_of_ble_eq_true rfl), (Nat.le_of_ble_eq_true rfl)⟩) (fun r25 p26 => ?_)
      refine lv_istore (lv' := [(5, .int r25), (3, .int r18), (4, .int y12), (2, .int (nI 0)), (0, .ref o), (1, .int (nI aq))]) hx hb dX12_goBy_141 hl (by decide) rfl (fun ls hl => ?_)
      refine lv_iload hx hb dX12_goBy_143 (lv_at hl 0 rfl) ?_
      refine lv_if_eq (tgt := 156) hx hb dX12_goBy_145 (by decide) (fun c27 => ?_) (fun c27 => ?_)
      · refine lv_aload_n hx hb dX12_goBy_156 rfl (lv_at hl 4 rfl) ?_
        refine lv_iload_n hx hb dX12_goBy_157 rfl (lv_at hl 3 rfl) ?_
        refine lv_iload_n hx hb dX12_goBy_158 rfl (lv_at hl 1 rfl) ?_
        refine lv_iload hx hb dX12_goBy_159 (lv_at hl 2 rfl) ?_
        refine r_call_v (wr := [(kline, .inl (ky 0, 160, .inl klineF))]) (va_runV (As := [.int (nI 0), .int r18, .int y12]) (rest := []) ⟨hx, hb, hml, hown, hts⟩ (c_e_live0 l dC dI ky s.heap.size o kthrown ktape ktaped ksize klimit kto kfrom kkind knumber ksign kfault kplace kword ktold know kread kkept ksnaps kaside kname kreadName kkeptName kisKept konces ksnapMany khasCells kpoured kfar ksides ksideMany kwayDays khasWay klines kmet kmetMany ksunk ktrying ksunkMany ksending kfleets ktext ktexts kseed kline kwritten klineMany khasWritten knode knodes konesMany kwithin ktop knowF kpouredF kn0 r18 y12 iv_ko_0 iv_ko_1 iv_ko_2 iv_ko_3 iv_ko_4 iv_ko_5 iv_ko_6 iv_ko_7 iv_ko_8 iv_ko_9 iv_ko_10 iv_ko_11 iv_ko_12 iv_ko_13 iv_ko_14 ab_now ab_poured sb_now (lf_e_goBy_7 klineF aq y1 y10 y12 y16 r18 ha hl0 hl1 hl2 hl3 e2 c4 e11 e13 e17 p19 p26) he0) (cwV 3 hts gX12_goBy_X12_live rfl rfl rfl (by decide +kernel) ⟨(Nat.le_of_ble_eq_true rfl), (Nat.le_of_ble_eq_true rfl)⟩) (pre_UV hK hP hD [0, 1, 2] (by decide) rfl (ci := 12) (q0 := 0) rfl rfl) rfl rfl hl.1 rfl (lv_room (Nat.le_of_ble_eq_true rfl)) dX12_goBy_161 ⟨(Nat.le_of_ble_eq_true rfl), (Nat.le_of_ble_eq_true rfl)⟩) hP hD hS hA [0, 1, 2] [3] rfl rfl (by decide) (by decide) (fun  u28 H locs p29 hP hD hS => ?_)
        obtain ⟨knowG_30, kpouredG_31⟩ := u28
        try dsimp only at p29
        obtain ⟨p32, p33, p34, p35⟩ := p29
        refine W.widen (k := 0) (n := 0) (Nat.le_of_ble_eq_true rfl) (Nat.le_of_ble_eq_true rfl) ?_
        have hP : va_P (dC, dI) vwCl [(kline, .inl (ky 0, 160, .inl klineF)), (o, .inr (12, [.int kthrown, .ref ktape, .int (nI ktaped), .int (nI ksize), .int (nI klimit), .int (nI kto), .int (nI kfrom), .int kkind, .int knumber, .int ksign, .int kfault, .int kplace, .long kword, .int ktold, .ref know, .ref kread, .ref kkept, .ref ksnaps, .ref kaside, .ref kname, .ref kreadName, .ref kkeptName, .ref kisKept, .ref konces, .int (nI ksnapMany), .int khasCells, .ref kpoured, .ref kfar, .ref ksides, .int (nI ksideMany), .int kwayDays, .int khasWay, .ref klines, .ref kmet, .int (nI kmetMany), .ref ksunk, .ref ktrying, .int (nI ksunkMany), .int ksending, .int kfleets, .ref ktext, .int (nI ktexts), .int kseed, .ref kline, .ref kwritten, .int (nI klineMany), .int khasWritten, .ref knode, .int (nI knodes), .int (nI konesMany), .int (nI kwithin), .int (nI ktop)])), (know, .inl (ky 0, 373, .inl knowG_30)), (kpoured, .inl (ky 0, 36, .inl kpouredG_31))] H := hP
        have hD : va_D A [(kline, .inl (ky 0, 160, .inl klineF)), (o, .inr (12, [.int kthrown, .ref ktape, .int (nI ktaped), .int (nI ksize), .int (nI klimit), .int (nI kto), .int (nI kfrom), .int kkind, .int knumber, .int ksign, .int kfault, .int kplace, .long kword, .int ktold, .ref know, .ref kread, .ref kkept, .ref ksnaps, .ref kaside, .ref kname, .ref kreadName, .ref kkeptName, .ref kisKept, .ref konces, .int (nI ksnapMany), .int khasCells, .ref kpoured, .ref kfar, .ref ksides, .int (nI ksideMany), .int kwayDays, .int khasWay, .ref klines, .ref kmet, .int (nI kmetMany), .ref ksunk, .ref ktrying, .int (nI ksunkMany), .int ksending, .int kfleets, .ref ktext, .int (nI ktexts), .int kseed, .ref kline, .ref kwritten, .int (nI klineMany), .int khasWritten, .ref knode, .int (nI knodes), .int (nI konesMany), .int (nI kwithin), .int (nI ktop)])), (know, .inl (ky 0, 373, .inl knowG_30)), (kpoured, .inl (ky 0, 36, .inl kpouredG_31))] := hD
        refine lv_iconst (v := nI 0) hx hb dX12_goBy_164 (by decide) ?_
        rw [hQ]
        have hP9 := hP.sub (ws' := [(o, .inr (12, [.int kthrown, .ref ktape, .int (nI ktaped), .int (nI ksize), .int (nI klimit), .int (nI kto), .int (nI kfrom), .int kkind, .int knumber, .int ksign, .int kfault, .int kplace, .long kword, .int ktold, .ref know, .ref kread, .ref kkept, .ref ksnaps, .ref kaside, .ref kname, .ref kreadName, .ref kkeptName, .ref kisKept, .ref konces, .int (nI ksnapMany), .int khasCells, .ref kpoured, .ref kfar, .ref ksides, .int (nI ksideMany), .int kwayDays, .int khasWay, .ref klines, .ref kmet, .int (nI kmetMany), .ref ksunk, .ref ktrying, .int (nI ksunkMany), .int ksending, .int kfleets, .ref ktext, .int (nI ktexts), .int kseed, .ref kline, .ref kwritten, .int (nI klineMany), .int khasWritten, .ref knode, .int (nI knodes), .int (nI konesMany), .int (nI kwithin), .int (nI ktop)])), (know, .inl (ky 0, 373, .inl knowG_30)), (kpoured, .inl (ky 0, 36, .inl kpouredG_31)), (kline, .inl (ky 0, 160, .inl klineF))]) [1, 2, 3, 0] rfl
        have hD9 := hD.sub (ws' := [(o, .inr (12, [.int kthrown, .ref ktape, .int (nI ktaped), .int (nI ksize), .int (nI klimit), .int (nI kto), .int (nI kfrom), .int kkind, .int knumber, .int ksign, .int kfault, .int kplace, .long kword, .int ktold, .ref know, .ref kread, .ref kkept, .ref ksnaps, .ref kaside, .ref kname, .ref kreadName, .ref kkeptName, .ref kisKept, .ref konces, .int (nI ksnapMany), .int khasCells, .ref kpoured, .ref kfar, .ref ksides, .int (nI ksideMany), .int kwayDays, .int khasWay, .ref klines, .ref kmet, .int (nI kmetMany), .ref ksunk, .ref ktrying, .int (nI ksunkMany), .int ksending, .int kfleets, .ref ktext, .int (nI ktexts), .int kseed, .ref kline, .ref kwritten, .int (nI klineMany), .int khasWritten, .ref knode, .int (nI knodes), .int (nI konesMany), .int (nI kwithin), .int (nI ktop)])), (know, .inl (ky 0, 373, .inl knowG_30)), (kpoured, .inl (ky 0, 36, .inl kpouredG_31)), (kline, .inl (ky 0, 160, .inl klineF))]) [1, 2, 3, 0] (by decide) rfl
        exact W.iret (v := nI 0) hx hb hr (fun t9 ht9 hW9 => ⟨⟨nI 0, (knowG_30, kpouredG_31), rfl, ⟨p32, p33, p34, p35⟩, by rw [ht9]; exact hP9, va_K.moved hW9.alike hK, hD9⟩, hS.F ht9⟩) hS.2.2 dX12_goBy_165
      · refine lv_bipush (v := nI 10) hx hb dX12_goBy_148 (by decide) ?_
        refine lv_iload_n hx hb dX12_goBy_150 rfl (lv_at hl 3 rfl) ?_
        refine lv_imul hx hb dX12_goBy_151 ?_
        refine r_ti (nI 0) (by decide) ?_
        refine lv_iload hx hb dX12_goBy_152 (lv_at hl 0 rfl) ?_
        refine lv_iadd hx hb dX12_goBy_154 ?_
        refine lv_topi (fun y36 e37 => ?_)
        rw [hQ]
        exact W.iret (v := y36) hx hb hr (fun t9 ht9 hW9 => ⟨⟨y36, (knowF, kpouredF), rfl, ⟨ab_now, sb_now, ab_poured, he0⟩, by rw [ht9]; exact hP, va_K.moved hW9.alike hK, hD⟩, hS.F ht9⟩) hS.2.2 dX12_goBy_155
    · refine lv_bipush (v := nI 9) hx hb dX12_goBy_84 (by decide) ?_
      rw [hQ]
      exact W.iret (v := nI 9) hx hb hr (fun t9 ht9 hW9 => ⟨⟨nI 9, (knowF, kpouredF), rfl, ⟨ab_now, sb_now, ab_poured, he0⟩, by rw [ht9]; exact hP, va_K.moved hW9.alike hK, hD⟩, hS.F ht9⟩) hS.2.2 dX12_goBy_86
  · refine r_ti (nI 1) c5 ?_
    refine lv_istore_n (lv' := [(2, .int (nI 1)), (0, .ref o), (1, .int (nI aq))]) hx hb dX12_goBy_6 rfl hl (by decide) rfl (fun ls hl => ?_)
    refine lv_aload_n hx hb dX12_goBy_7 rfl (lv_at hl 1 rfl) ?_
    refine va_get (D := (dC, dI)) (ci := 12) (v := .ref kline) (C := RX12) (T := TX12) (N := 52) hx hb hts hin12 hown hK hP 0 rfl rfl 43 (by decide) (hts (.fieldLink RX12 163 "PorridgeSeaModel" "line" "[I") (List.mem_of_getElem? (i := 1) rfl)) (fun _ h9 => h9) rfl dX12_goBy_8 ?_
    refine lv_iload_n hx hb dX12_goBy_11 rfl (lv_at hl 2 rfl) ?_
    refine lv_iconst (v := nI 1) hx hb dX12_goBy_12 (by decide) ?_
    refine lv_iadd hx hb dX12_goBy_13 ?_
    refine r_ti (nI (aq + 1)) (nI_add _ _) ?_
    obtain ⟨y38, e39⟩ : ∃ z9, z9 = klineF (aq + 1) := ⟨_, rfl⟩
    refine r_iald hx hb hK hP 3 rfl (aq + 1) (lf_e_goBy_8 klineF aq y1 y38 ha hl0 hl1 hl2 hl3 e2 c5 e39) (by decide) y38 e39.symm dX12_goBy_14 ?_
    refine lv_istore_n (lv' := [(3, .int y38), (2, .int (nI 1)), (0, .ref o), (1, .int (nI aq))]) hx hb dX12_goBy_15 rfl hl (by decide) rfl (fun ls hl => ?_)
    refine lv_aload_n hx hb dX12_goBy_16 rfl (lv_at hl 2 rfl) ?_
    refine va_get (D := (dC, dI)) (ci := 12) (v := .ref kline) (C := RX12) (T := TX12) (N := 52) hx hb hts hin12 hown hK hP 0 rfl rfl 43 (by decide) (hts (.fieldLink RX12 163 "PorridgeSeaModel" "line" "[I") (List.mem_of_getElem? (i := 1) rfl)) (fun _ h9 => h9) rfl dX12_goBy_17 ?_
    refine lv_iload_n hx hb dX12_goBy_20 rfl (lv_at hl 3 rfl) ?_
    refine lv_iconst (v := nI 2) hx hb dX12_goBy_21 (by decide) ?_
    refine lv_iadd hx hb dX12_goBy_22 ?_
    refine r_ti (nI (aq + 2)) (nI_add _ _) ?_
    obtain ⟨y40, e41⟩ : ∃ z9, z9 = klineF (aq + 2) := ⟨_, rfl⟩
    refine r_iald hx hb hK hP 3 rfl (aq + 2) (lf_e_goBy_9 klineF aq y1 y38 y40 ha hl0 hl1 hl2 hl3 e2 c5 e39 e41) (by decide) y40 e41.symm dX12_goBy_23 ?_
    refine lv_istore (lv' := [(4, .int y40), (3, .int y38), (2, .int (nI 1)), (0, .ref o), (1, .int (nI aq))]) hx hb dX12_goBy_24 hl (by decide) rfl (fun ls hl => ?_)
    refine lv_iload_n hx hb dX12_goBy_26 rfl (lv_at hl 2 rfl) ?_
    refine lv_iconst (v := nI 5) hx hb dX12_goBy_27 (by decide) ?_
    refine lv_icmp_ne (tgt := 57) hx hb dX12_goBy_28 (by decide) (fun c42 => ?_) (fun c42 => absurd c42 (by decide))
    refine lv_iload_n hx hb dX12_goBy_57 rfl (lv_at hl 2 rfl) ?_
    refine lv_if_ne (tgt := 87) hx hb dX12_goBy_58 (by decide) (fun c43 => ?_) (fun c43 => absurd c43 (by decide))
    refine lv_iload_n hx hb dX12_goBy_87 rfl (lv_at hl 2 rfl) ?_
    refine lv_iconst (v := nI 2) hx hb dX12_goBy_88 (by decide) ?_
    refine lv_icmp_eq (tgt := 97) hx hb dX12_goBy_89 (by decide) (fun c44 => absurd c44 (by decide)) (fun c44 => ?_)
    refine lv_iload_n hx hb dX12_goBy_92 rfl (lv_at hl 2 rfl) ?_
    refine lv_iconst (v := nI 3) hx hb dX12_goBy_93 (by decide) ?_
    refine lv_icmp_ne (tgt := 133) hx hb dX12_goBy_94 (by decide) (fun c45 => ?_) (fun c45 => absurd c45 (by decide))
    refine lv_aload_n hx hb dX12_goBy_133 rfl (lv_at hl 3 rfl) ?_
    refine lv_iload_n hx hb dX12_goBy_134 rfl (lv_at hl 2 rfl) ?_
    refine lv_iload_n hx hb dX12_goBy_135 rfl (lv_at hl 1 rfl) ?_
    refine lv_iload hx hb dX12_goBy_136 (lv_at hl 0 rfl) ?_
    obtain ⟨n46, h47, e48⟩ := nat_of y38 6 (by decide) (lf_e_goBy_10 klineF aq y1 y38 y40 ha hl0 hl1 hl2 hl3 e2 c5 e39 e41)
    rw [e48]
    refine vp_callSi (W.runV (As := [.int (nI 1), .int (nI n46), .int y40]) (rest := []) ⟨hx, hb, hml, hown, hts⟩ (c_x_why1 l dC dI ky o kthrown ktape ktaped ksize klimit kto kfrom kkind knumber ksign kfault kplace kword ktold know kread kkept ksnaps kaside kname kreadName kkeptName kisKept konces ksnapMany khasCells kpoured kfar ksides ksideMany kwayDays khasWay klines kmet kmetMany ksunk ktrying ksunkMany ksending kfleets ktext ktexts kseed kline kwritten klineMany khasWritten knode knodes konesMany kwithin ktop knowF n46 y40 iv_ko_0 iv_ko_1 iv_ko_2 iv_ko_3 iv_ko_4 iv_ko_5 iv_ko_6 iv_ko_7 iv_ko_8 iv_ko_9 iv_ko_10 iv_ko_11 iv_ko_12 iv_ko_13 iv_ko_14 ab_now h47 (lf_e_goBy_11 klineF aq y1 y38 y40 n46 ha hl0 hl1 hl2 hl3 e2 c5 e39 e41 h47 e48)) (cwV 3 hts gX12_goBy_X12_why rfl rfl rfl (by decide +kernel) ⟨(Nat.le_of_ble_eq_true rfl), (Nat.le_of_ble_eq_true rfl)⟩) (pre_PV hK hP [0, 1] rfl (ci := 12) (q0 := 0) rfl rfl) rfl rfl hl.1 rfl (lv_room (Nat.le_of_ble_eq_true rfl)) dX12_goBy_138 ⟨(Nat.le_of_ble_eq_true rfl), (Nat.le_of_ble_eq_true rfl)⟩) (fun r49 p50 => ?_)
    refine lv_istore (lv' := [(5, .int r49), (4, .int y40), (3, .int y38), (2, .int (nI 1)), (0, .ref o), (1, .int (nI aq))]) hx hb dX12_goBy_141 hl (by decide) rfl (fun ls hl => ?_)
    refine lv_iload hx hb dX12_goBy_143 (lv_at hl 0 rfl) ?_
    refine lv_if_eq (tgt := 156) hx hb dX12_goBy_145 (by decide) (fun c51 => ?_) (fun c51 => ?_)
    · refine lv_aload_n hx hb dX12_goBy_156 rfl (lv_at hl 4 rfl) ?_
      refine lv_iload_n hx hb dX12_goBy_157 rfl (lv_at hl 3 rfl) ?_
      refine lv_iload_n hx hb dX12_goBy_158 rfl (lv_at hl 2 rfl) ?_
      refine lv_iload hx hb dX12_goBy_159 (lv_at hl 1 rfl) ?_
      rw [e48]
      refine r_call_v (wr := [(kpoured, .inl (ky 0, 36, .inl kpouredF)), (kline, .inl (ky 0, 160, .inl klineF))]) (va_runV (As := [.int (nI 1), .int (nI n46), .int y40]) (rest := []) ⟨hx, hb, hml, hown, hts⟩ (c_e_live1 l dC dI ky s.heap.size o kthrown ktape ktaped ksize klimit kto kfrom kkind knumber ksign kfault kplace kword ktold know kread kkept ksnaps kaside kname kreadName kkeptName kisKept konces ksnapMany khasCells kpoured kfar ksides ksideMany kwayDays khasWay klines kmet kmetMany ksunk ktrying ksunkMany ksending kfleets ktext ktexts kseed kline kwritten klineMany khasWritten knode knodes konesMany kwithin ktop knowF kn0 n46 y40 iv_ko_0 iv_ko_1 iv_ko_2 iv_ko_3 iv_ko_4 iv_ko_5 iv_ko_6 iv_ko_7 iv_ko_8 iv_ko_9 iv_ko_10 iv_ko_11 iv_ko_12 iv_ko_13 iv_ko_14 ab_now sb_now h47 (lf_e_goBy_12 knowF klineF kn0 aq y1 y38 y40 n46 r49 ab_now sb_now ha he0 hl0 hl1 hl2 hl3 e2 c5 e39 e41 h47 e48 p50 c51) (lf_e_goBy_13 knowF klineF kn0 aq y1 y38 y40 n46 r49 ab_now sb_now ha he0 hl0 hl1 hl2 hl3 e2 c5 e39 e41 h47 e48 p50 c51) he0) (cwV 3 hts gX12_goBy_X12_live rfl rfl rfl (by decide +kernel) ⟨(Nat.le_of_ble_eq_true rfl), (Nat.le_of_ble_eq_true rfl)⟩) (pre_UV hK hP hD [0, 1] (by decide) rfl (ci := 12) (q0 := 0) rfl rfl) rfl rfl hl.1 rfl (lv_room (Nat.le_of_ble_eq_true rfl)) dX12_goBy_161 ⟨(Nat.le_of_ble_eq_true rfl), (Nat.le_of_ble_eq_true rfl)⟩) hP hD hS hA [0, 1] [2, 3] rfl rfl (by decide) (by decide) (fun  u52 H locs p53 hP hD hS => ?_)
      obtain ⟨knowG_54, rfl⟩ : ∃ z, z = u52 := ⟨_, rfl⟩
      try dsimp only at p53
      obtain ⟨p55, p56, p57⟩ := p53
      refine W.widen (k := 0) (n := 0) (Nat.le_of_ble_eq_true rfl) (Nat.le_of_ble_eq_true rfl) ?_
      have hP : va_P (dC, dI) vwCl [(kpoured, .inl (ky 0, 36, .inl kpouredF)), (kline, .inl (ky 0, 160, .inl klineF)), (o, .inr (12, [.int kthrown, .ref ktape, .int (nI ktaped), .int (nI ksize), .int (nI klimit), .int (nI kto), .int (nI kfrom), .int kkind, .int knumber, .int ksign, .int kfault, .int kplace, .long kword, .int ktold, .ref know, .ref kread, .ref kkept, .ref ksnaps, .ref kaside, .ref kname, .ref kreadName, .ref kkeptName, .ref kisKept, .ref konces, .int (nI ksnapMany), .int khasCells, .ref kpoured, .ref kfar, .ref ksides, .int (nI ksideMany), .int kwayDays, .int khasWay, .ref klines, .ref kmet, .int (nI kmetMany), .ref ksunk, .ref ktrying, .int (nI ksunkMany), .int ksending, .int kfleets, .ref ktext, .int (nI ktexts), .int kseed, .ref kline, .ref kwritten, .int (nI klineMany), .int khasWritten, .ref knode, .int (nI knodes), .int (nI konesMany), .int (nI kwithin), .int (nI ktop)])), (know, .inl (ky 0, 373, .inl knowG_54))] H := hP
      have hD : va_D A [(kpoured, .inl (ky 0, 36, .inl kpouredF)), (kline, .inl (ky 0, 160, .inl klineF)), (o, .inr (12, [.int kthrown, .ref ktape, .int (nI ktaped), .int (nI ksize), .int (nI klimit), .int (nI kto), .int (nI kfrom), .int kkind, .int knumber, .int ksign, .int kfault, .int kplace, .long kword, .int ktold, .ref know, .ref kread, .ref kkept, .ref ksnaps, .ref kaside, .ref kname, .ref kreadName, .ref kkeptName, .ref kisKept, .ref konces, .int (nI ksnapMany), .int khasCells, .ref kpoured, .ref kfar, .ref ksides, .int (nI ksideMany), .int kwayDays, .int khasWay, .ref klines, .ref kmet, .int (nI kmetMany), .ref ksunk, .ref ktrying, .int (nI ksunkMany), .int ksending, .int kfleets, .ref ktext, .int (nI ktexts), .int kseed, .ref kline, .ref kwritten, .int (nI klineMany), .int khasWritten, .ref knode, .int (nI knodes), .int (nI konesMany), .int (nI kwithin), .int (nI ktop)])), (know, .inl (ky 0, 373, .inl knowG_54))] := hD
      refine lv_iconst (v := nI 0) hx hb dX12_goBy_164 (by decide) ?_
      rw [hQ]
      have hP9 := hP.sub (ws' := [(o, .inr (12, [.int kthrown, .ref ktape, .int (nI ktaped), .int (nI ksize), .int (nI klimit), .int (nI kto), .int (nI kfrom), .int kkind, .int knumber, .int ksign, .int kfault, .int kplace, .long kword, .int ktold, .ref know, .ref kread, .ref kkept, .ref ksnaps, .ref kaside, .ref kname, .ref kreadName, .ref kkeptName, .ref kisKept, .ref konces, .int (nI ksnapMany), .int khasCells, .ref kpoured, .ref kfar, .ref ksides, .int (nI ksideMany), .int kwayDays, .int khasWay, .ref klines, .ref kmet, .int (nI kmetMany), .ref ksunk, .ref ktrying, .int (nI ksunkMany), .int ksending, .int kfleets, .ref ktext, .int (nI ktexts), .int kseed, .ref kline, .ref kwritten, .int (nI klineMany), .int khasWritten, .ref knode, .int (nI knodes), .int (nI konesMany), .int (nI kwithin), .int (nI ktop)])), (know, .inl (ky 0, 373, .inl knowG_54)), (kpoured, .inl (ky 0, 36, .inl kpouredF)), (kline, .inl (ky 0, 160, .inl klineF))]) [2, 3, 0, 1] rfl
      have hD9 := hD.sub (ws' := [(o, .inr (12, [.int kthrown, .ref ktape, .int (nI ktaped), .int (nI ksize), .int (nI klimit), .int (nI kto), .int (nI kfrom), .int kkind, .int knumber, .int ksign, .int kfault, .int kplace, .long kword, .int ktold, .ref know, .ref kread, .ref kkept, .ref ksnaps, .ref kaside, .ref kname, .ref kreadName, .ref kkeptName, .ref kisKept, .ref konces, .int (nI ksnapMany), .int khasCells, .ref kpoured, .ref kfar, .ref ksides, .int (nI ksideMany), .int kwayDays, .int khasWay, .ref klines, .ref kmet, .int (nI kmetMany), .ref ksunk, .ref ktrying, .int (nI ksunkMany), .int ksending, .int kfleets, .ref ktext, .int (nI ktexts), .int kseed, .ref kline, .ref kwritten, .int (nI klineMany), .int khasWritten, .ref knode, .int (nI knodes), .int (nI konesMany), .int (nI kwithin), .int (nI ktop)])), (know, .inl (ky 0, 373, .inl knowG_54)), (kpoured, .inl (ky 0, 36, .inl kpouredF)), (kline, .inl (ky 0, 160, .inl klineF))]) [2, 3, 0, 1] (by decide) rfl
      exact W.iret (v := nI 0) hx hb hr (fun t9 ht9 hW9 => ⟨⟨nI 0, (knowG_54, kpouredF), rfl, ⟨p55, p56, ab_poured, p57⟩, by rw [ht9]; exact hP9, va_K.moved hW9.alike hK, hD9⟩, hS.F ht9⟩) hS.2.2 dX12_goBy_165
    · refine lv_bipush (v := nI 10) hx hb dX12_goBy_148 (by decide) ?_
      refine lv_iload_n hx hb dX12_goBy_150 rfl (lv_at hl 3 rfl) ?_
      refine lv_imul hx hb dX12_goBy_151 ?_
      refine r_ti (nI 10) (by decide) ?_
      refine lv_iload hx hb dX12_goBy_152 (lv_at hl 0 rfl) ?_
      refine lv_iadd hx hb dX12_goBy_154 ?_
      refine lv_topi (fun y58 e59 => ?_)
      rw [hQ]
      exact W.iret (v := y58) hx hb hr (fun t9 ht9 hW9 => ⟨⟨y58, (knowF, kpouredF), rfl, ⟨ab_now, sb_now, ab_poured, he0⟩, by rw [ht9]; exact hP, va_K.moved hW9.alike hK, hD⟩, hS.F ht9⟩) hS.2.2 dX12_goBy_155
  · refine r_ti (nI 2) c6 ?_
    refine lv_istore_n (lv' := [(2, .int (nI 2)), (0, .ref o), (1, .int (nI aq))]) hx hb dX12_goBy_6 rfl hl (by decide) rfl (fun ls hl => ?_)
    refine lv_aload_n hx hb dX12_goBy_7 rfl (lv_at hl 1 rfl) ?_
    refine va_get (D := (dC, dI)) (ci := 12) (v := .ref kline) (C := RX12) (T := TX12) (N := 52) hx hb hts hin12 hown hK hP 0 rfl rfl 43 (by decide) (hts (.fieldLink RX12 163 "PorridgeSeaModel" "line" "[I") (List.mem_of_getElem? (i := 1) rfl)) (fun _ h9 => h9) rfl dX12_goBy_8 ?_
    refine lv_iload_n hx hb dX12_goBy_11 rfl (lv_at hl 2 rfl) ?_
    refine lv_iconst (v := nI 1) hx hb dX12_goBy_12 (by decide) ?_
    refine lv_iadd hx hb dX12_goBy_13 ?_
    refine r_ti (nI (aq + 1)) (nI_add _ _) ?_
    obtain ⟨y60, e61⟩ : ∃ z9, z9 = klineF (aq + 1) := ⟨_, rfl⟩
    refine r_iald hx hb hK hP 3 rfl (aq + 1) (lf_e_goBy_14 klineF aq y1 y60 ha hl0 hl1 hl2 hl3 e2 c6 e61) (by decide) y60 e61.symm dX12_goBy_14 ?_
    refine lv_istore_n (lv' := [(3, .int y60), (2, .int (nI 2)), (0, .ref o), (1, .int (nI aq))]) hx hb dX12_goBy_15 rfl hl (by decide) rfl (fun ls hl => ?_)
    refine lv_aload_n hx hb dX12_goBy_16 rfl (lv_at hl 2 rfl) ?_
    refine va_get (D := (dC, dI)) (ci := 12) (v := .ref kline) (C := RX12) (T := TX12) (N := 52) hx hb hts hin12 hown hK hP 0 rfl rfl 43 (by decide) (hts (.fieldLink RX12 163 "PorridgeSeaModel" "line" "[I") (List.mem_of_getElem? (i := 1) rfl)) (fun _ h9 => h9) rfl dX12_goBy_17 ?_
    refine lv_iload_n hx hb dX12_goBy_20 rfl (lv_at hl 3 rfl) ?_
    refine lv_iconst (v := nI 2) hx hb dX12_goBy_21 (by decide) ?_
    refine lv_iadd hx hb dX12_goBy_22 ?_
    refine r_ti (nI (aq + 2)) (nI_add _ _) ?_
    obtain ⟨y62, e63⟩ : ∃ z9, z9 = klineF (aq + 2) := ⟨_, rfl⟩
    refine r_iald hx hb hK hP 3 rfl (aq + 2) (lf_e_goBy_15 klineF aq y1 y60 y62 ha hl0 hl1 hl2 hl3 e2 c6 e61 e63) (by decide) y62 e63.symm dX12_goBy_23 ?_
    refine lv_istore (lv' := [(4, .int y62), (3, .int y60), (2, .int (nI 2)), (0, .ref o), (1, .int (nI aq))]) hx hb dX12_goBy_24 hl (by decide) rfl (fun ls hl => ?_)
    refine lv_iload_n hx hb dX12_goBy_26 rfl (lv_at hl 2 rfl) ?_
    refine lv_iconst (v := nI 5) hx hb dX12_goBy_27 (by decide) ?_
    refine lv_icmp_ne (tgt := 57) hx hb dX12_goBy_28 (by decide) (fun c64 => ?_) (fun c64 => absurd c64 (by decide))
    refine lv_iload_n hx hb dX12_goBy_57 rfl (lv_at hl 2 rfl) ?_
    refine lv_if_ne (tgt := 87) hx hb dX12_goBy_58 (by decide) (fun c65 => ?_) (fun c65 => absurd c65 (by decide))
    refine lv_iload_n hx hb dX12_goBy_87 rfl (lv_at hl 2 rfl) ?_
    refine lv_iconst (v := nI 2) hx hb dX12_goBy_88 (by decide) ?_
    refine lv_icmp_eq (tgt := 97) hx hb dX12_goBy_89 (by decide) (fun c66 => ?_) (fun c66 => absurd (by decide) c66)
    refine lv_aload_n hx hb dX12_goBy_97 rfl (lv_at hl 3 rfl) ?_
    refine lv_iload_n hx hb dX12_goBy_98 rfl (lv_at hl 1 rfl) ?_
    refine lv_iload hx hb dX12_goBy_99 (lv_at hl 0 rfl) ?_
    refine vp_callSi (W.runV (As := [.int y60, .int y62]) (rest := []) ⟨hx, hb, hml, hown, hts⟩ (c_x_isCell l dC dI ky o kthrown ktape ktaped ksize klimit kto kfrom kkind knumber ksign kfault kplace kword ktold know kread kkept ksnaps kaside kname kreadName kkeptName kisKept konces ksnapMany khasCells kpoured kfar ksides ksideMany kwayDays khasWay klines kmet kmetMany ksunk ktrying ksunkMany ksending kfleets ktext ktexts kseed kline kwritten klineMany khasWritten knode knodes konesMany kwithin ktop knowF y60 y62 iv_ko_0 iv_ko_1 iv_ko_2 iv_ko_3 iv_ko_4 iv_ko_5 iv_ko_6 iv_ko_7 iv_ko_8 iv_ko_9 iv_ko_10 iv_ko_11 iv_ko_12 iv_ko_13 iv_ko_14 ab_now) (cwV 2 hts gX12_goBy_X12_isCell rfl rfl rfl (by decide +kernel) ⟨(Nat.le_of_ble_eq_true rfl), (Nat.le_of_ble_eq_true rfl)⟩) (pre_PV hK hP [0, 1] rfl (ci := 12) (q0 := 0) rfl rfl) rfl rfl hl.1 rfl (lv_room (Nat.le_of_ble_eq_true rfl)) dX12_goBy_101 ⟨(Nat.le_of_ble_eq_true rfl), (Nat.le_of_ble_eq_true rfl)⟩) (fun r67 p68 => ?_)
    rcases p68 with ⟨rfl, t69, t70, t71, t72, t73, t74⟩ | ⟨rfl, t75⟩
    · refine lv_if_ne (tgt := 115) hx hb dX12_goBy_104 (by decide) (fun c76 => ?_) (fun c76 => absurd c76 (by decide))
      refine lv_bipush (v := nI 6) hx hb dX12_goBy_115 (by decide) ?_
      refine lv_iload hx hb dX12_goBy_117 (lv_at hl 0 rfl) ?_
      obtain ⟨n77, h78, e79⟩ := nat_of y62 6 (by decide) (lf_e_goBy_16 knowF klineF kn0 aq y1 y60 y62 ab_now sb_now ha he0 hl0 hl1 hl2 hl3 e2 c6 e61 e63 t69 t70 t71 t72 t73 t74)
      rw [e79]
      refine lv_imul hx hb dX12_goBy_119 ?_
      refine r_ti (nI (6 * n77)) (pk_mul _ _) ?_
      refine lv_iload_n hx hb dX12_goBy_120 rfl (lv_at hl 1 rfl) ?_
      obtain ⟨n80, h81, e82⟩ := nat_of y60 6 (by decide) (lf_e_goBy_17 knowF klineF kn0 aq y1 y60 y62 n77 ab_now sb_now ha he0 hl0 hl1 hl2 hl3 e2 c6 e61 e63 t69 t70 t71 t72 t73 t74 h78 e79)
      rw [e82]
      refine lv_iadd hx hb dX12_goBy_121 ?_
      refine r_ti (nI ((6 * n77) + n80)) (nI_add _ _) ?_
      refine lv_istore_n (lv' := [(3, .int (nI ((6 * n77) + n80))), (4, .int y62), (2, .int (nI 2)), (0, .ref o), (1, .int (nI aq))]) hx hb dX12_goBy_122 rfl hl (by decide) rfl (fun ls hl => ?_)
      refine lv_aload_n hx hb dX12_goBy_123 rfl (lv_at hl 3 rfl) ?_
      refine va_get (D := (dC, dI)) (ci := 12) (v := .ref kline) (C := RX12) (T := TX12) (N := 52) hx hb hts hin12 hown hK hP 0 rfl rfl 43 (by decide) (hts (.fieldLink RX12 163 "PorridgeSeaModel" "line" "[I") (List.mem_of_getElem? (i := 1) rfl)) (fun _ h9 => h9) rfl dX12_goBy_124 ?_
      refine lv_iload_n hx hb dX12_goBy_127 rfl (lv_at hl 4 rfl) ?_
      refine lv_iconst (v := nI 3) hx hb dX12_goBy_128 (by decide) ?_
      refine lv_iadd hx hb dX12_goBy_129 ?_
      refine r_ti (nI (aq + 3)) (nI_add _ _) ?_
      obtain ⟨y83, e84⟩ : ∃ z9, z9 = klineF (aq + 3) := ⟨_, rfl⟩
      refine r_iald hx hb hK hP 3 rfl (aq + 3) (lf_e_goBy_18 knowF klineF kn0 aq y1 y60 y62 n77 n80 y83 ab_now sb_now ha he0 hl0 hl1 hl2 hl3 e2 c6 e61 e63 t69 t70 t71 t72 t73 t74 h78 e79 h81 e82 e84) (by decide) y83 e84.symm dX12_goBy_130 ?_
      refine lv_istore (lv' := [(4, .int y83), (3, .int (nI ((6 * n77) + n80))), (2, .int (nI 2)), (0, .ref o), (1, .int (nI aq))]) hx hb dX12_goBy_131 hl (by decide) rfl (fun ls hl => ?_)
      refine lv_aload_n hx hb dX12_goBy_133 rfl (lv_at hl 3 rfl) ?_
      refine lv_iload_n hx hb dX12_goBy_134 rfl (lv_at hl 2 rfl) ?_
      refine lv_iload_n hx hb dX12_goBy_135 rfl (lv_at hl 1 rfl) ?_
      refine lv_iload hx hb dX12_goBy_136 (lv_at hl 0 rfl) ?_
      refine vp_callSi (W.runV (As := [.int (nI 2), .int (nI ((6 * n77) + n80)), .int y83]) (rest := []) ⟨hx, hb, hml, hown, hts⟩ (c_x_why2 l dC dI ky o kthrown ktape ktaped ksize klimit kto kfrom kkind knumber ksign kfault kplace kword ktold know kread kkept ksnaps kaside kname kreadName kkeptName kisKept konces ksnapMany khasCells kpoured kfar ksides ksideMany kwayDays khasWay klines kmet kmetMany ksunk ktrying ksunkMany ksending kfleets ktext ktexts kseed kline kwritten klineMany khasWritten knode knodes konesMany kwithin ktop knowF (nI ((6 * n77) + n80)) y83 iv_ko_0 iv_ko_1 iv_ko_2 iv_ko_3 iv_ko_4 iv_ko_5 iv_ko_6 iv_ko_7 iv_ko_8 iv_ko_9 iv_ko_10 iv_ko_11 iv_ko_12 iv_ko_13 iv_ko_14 ab_now (lf_e_goBy_19 knowF klineF kn0 aq y1 y60 y62 n77 n80 y83 ab_now sb_now ha he0 hl0 hl1 hl2 hl3 e2 c6 e61 e63 t69 t70 t71 t72 t73 t74 h78 e79 h81 e82 e84)) (cwV 3 hts gX12_goBy_X12_why rfl rfl rfl (by decide +kernel) ⟨(Nat.le_of_ble_eq_true rfl), (Nat.le_of_ble_eq_true rfl)⟩) (pre_PV hK hP [0, 1] rfl (ci := 12) (q0 := 0) rfl rfl) rfl rfl hl.1 rfl (lv_room (Nat.le_of_ble_eq_true rfl)) dX12_goBy_138 ⟨(Nat.le_of_ble_eq_true rfl), (Nat.le_of_ble_eq_true rfl)⟩) (fun r85 p86 => ?_)
      refine lv_istore (lv' := [(5, .int r85), (4, .int y83), (3, .int (nI ((6 * n77) + n80))), (2, .int (nI 2)), (0, .ref o), (1, .int (nI aq))]) hx hb dX12_goBy_141 hl (by decide) rfl (fun ls hl => ?_)
      refine lv_iload hx hb dX12_goBy_143 (lv_at hl 0 rfl) ?_
      refine lv_if_eq (tgt := 156) hx hb dX12_goBy_145 (by decide) (fun c87 => ?_) (fun c87 => ?_)
      · refine lv_aload_n hx hb dX12_goBy_156 rfl (lv_at hl 4 rfl) ?_
        refine lv_iload_n hx hb dX12_goBy_157 rfl (lv_at hl 3 rfl) ?_
        refine lv_iload_n hx hb dX12_goBy_158 rfl (lv_at hl 2 rfl) ?_
        refine lv_iload hx hb dX12_goBy_159 (lv_at hl 1 rfl) ?_
        refine r_call_v (wr := [(kpoured, .inl (ky 0, 36, .inl kpouredF)), (kline, .inl (ky 0, 160, .inl klineF))]) (va_runV (As := [.int (nI 2), .int (nI ((6 * n77) + n80)), .int y83]) (rest := []) ⟨hx, hb, hml, hown, hts⟩ (c_e_live2 l dC dI ky s.heap.size o kthrown ktape ktaped ksize klimit kto kfrom kkind knumber ksign kfault kplace kword ktold know kread kkept ksnaps kaside kname kreadName kkeptName kisKept konces ksnapMany khasCells kpoured kfar ksides ksideMany kwayDays khasWay klines kmet kmetMany ksunk ktrying ksunkMany ksending kfleets ktext ktexts kseed kline kwritten klineMany khasWritten knode knodes konesMany kwithin ktop knowF kn0 (nI ((6 * n77) + n80)) y83 iv_ko_0 iv_ko_1 iv_ko_2 iv_ko_3 iv_ko_4 iv_ko_5 iv_ko_6 iv_ko_7 iv_ko_8 iv_ko_9 iv_ko_10 iv_ko_11 iv_ko_12 iv_ko_13 iv_ko_14 ab_now sb_now (lf_e_goBy_20 knowF klineF kn0 aq y1 y60 y62 n77 n80 y83 ab_now sb_now ha he0 hl0 hl1 hl2 hl3 e2 c6 e61 e63 t69 t70 t71 t72 t73 t74 h78 e79 h81 e82 e84 p86) (lf_e_goBy_21 knowF klineF kn0 aq y1 y60 y62 n77 n80 y83 ab_now sb_now ha he0 hl0 hl1 hl2 hl3 e2 c6 e61 e63 t69 t70 t71 t72 t73 t74 h78 e79 h81 e82 e84 p86) he0) (cwV 3 hts gX12_goBy_X12_live rfl rfl rfl (by decide +kernel) ⟨(Nat.le_of_ble_eq_true rfl), (Nat.le_of_ble_eq_true rfl)⟩) (pre_UV hK hP hD [0, 1] (by decide) rfl (ci := 12) (q0 := 0) rfl rfl) rfl rfl hl.1 rfl (lv_room (Nat.le_of_ble_eq_true rfl)) dX12_goBy_161 ⟨(Nat.le_of_ble_eq_true rfl), (Nat.le_of_ble_eq_true rfl)⟩) hP hD hS hA [0, 1] [2, 3] rfl rfl (by decide) (by decide) (fun  u88 H locs p89 hP hD hS => ?_)
        obtain ⟨knowG_90, rfl⟩ : ∃ z, z = u88 := ⟨_, rfl⟩
        try dsimp only at p89
        obtain ⟨p91, p92, p93⟩ := p89
        refine W.widen (k := 0) (n := 0) (Nat.le_of_ble_eq_true rfl) (Nat.le_of_ble_eq_true rfl) ?_
        have hP : va_P (dC, dI) vwCl [(kpoured, .inl (ky 0, 36, .inl kpouredF)), (kline, .inl (ky 0, 160, .inl klineF)), (o, .inr (12, [.int kthrown, .ref ktape, .int (nI ktaped), .int (nI ksize), .int (nI klimit), .int (nI kto), .int (nI kfrom), .int kkind, .int knumber, .int ksign, .int kfault, .int kplace, .long kword, .int ktold, .ref know, .ref kread, .ref kkept, .ref ksnaps, .ref kaside, .ref kname, .ref kreadName, .ref kkeptName, .ref kisKept, .ref konces, .int (nI ksnapMany), .int khasCells, .ref kpoured, .ref kfar, .ref ksides, .int (nI ksideMany), .int kwayDays, .int khasWay, .ref klines, .ref kmet, .int (nI kmetMany), .ref ksunk, .ref ktrying, .int (nI ksunkMany), .int ksending, .int kfleets, .ref ktext, .int (nI ktexts), .int kseed, .ref kline, .ref kwritten, .int (nI klineMany), .int khasWritten, .ref knode, .int (nI knodes), .int (nI konesMany), .int (nI kwithin), .int (nI ktop)])), (know, .inl (ky 0, 373, .inl knowG_90))] H := hP
        have hD : va_D A [(kpoured, .inl (ky 0, 36, .inl kpouredF)), (kline, .inl (ky 0, 160, .inl klineF)), (o, .inr (12, [.int kthrown, .ref ktape, .int (nI ktaped), .int (nI ksize), .int (nI klimit), .int (nI kto), .int (nI kfrom), .int kkind, .int knumber, .int ksign, .int kfault, .int kplace, .long kword, .int ktold, .ref know, .ref kread, .ref kkept, .ref ksnaps, .ref kaside, .ref kname, .ref kreadName, .ref kkeptName, .ref kisKept, .ref konces, .int (nI ksnapMany), .int khasCells, .ref kpoured, .ref kfar, .ref ksides, .int (nI ksideMany), .int kwayDays, .int khasWay, .ref klines, .ref kmet, .int (nI kmetMany), .ref ksunk, .ref ktrying, .int (nI ksunkMany), .int ksending, .int kfleets, .ref ktext, .int (nI ktexts), .int kseed, .ref kline, .ref kwritten, .int (nI klineMany), .int khasWritten, .ref knode, .int (nI knodes), .int (nI konesMany), .int (nI kwithin), .int (nI ktop)])), (know, .inl (ky 0, 373, .inl knowG_90))] := hD
        refine lv_iconst (v := nI 0) hx hb dX12_goBy_164 (by decide) ?_
        rw [hQ]
        have hP9 := hP.sub (ws' := [(o, .inr (12, [.int kthrown, .ref ktape, .int (nI ktaped), .int (nI ksize), .int (nI klimit), .int (nI kto), .int (nI kfrom), .int kkind, .int knumber, .int ksign, .int kfault, .int kplace, .long kword, .int ktold, .ref know, .ref kread, .ref kkept, .ref ksnaps, .ref kaside, .ref kname, .ref kreadName, .ref kkeptName, .ref kisKept, .ref konces, .int (nI ksnapMany), .int khasCells, .ref kpoured, .ref kfar, .ref ksides, .int (nI ksideMany), .int kwayDays, .int khasWay, .ref klines, .ref kmet, .int (nI kmetMany), .ref ksunk, .ref ktrying, .int (nI ksunkMany), .int ksending, .int kfleets, .ref ktext, .int (nI ktexts), .int kseed, .ref kline, .ref kwritten, .int (nI klineMany), .int khasWritten, .ref knode, .int (nI knodes), .int (nI konesMany), .int (nI kwithin), .int (nI ktop)])), (know, .inl (ky 0, 373, .inl knowG_90)), (kpoured, .inl (ky 0, 36, .inl kpouredF)), (kline, .inl (ky 0, 160, .inl klineF))]) [2, 3, 0, 1] rfl
        have hD9 := hD.sub (ws' := [(o, .inr (12, [.int kthrown, .ref ktape, .int (nI ktaped), .int (nI ksize), .int (nI klimit), .int (nI kto), .int (nI kfrom), .int kkind, .int knumber, .int ksign, .int kfault, .int kplace, .long kword, .int ktold, .ref know, .ref kread, .ref kkept, .ref ksnaps, .ref kaside, .ref kname, .ref kreadName, .ref kkeptName, .ref kisKept, .ref konces, .int (nI ksnapMany), .int khasCells, .ref kpoured, .ref kfar, .ref ksides, .int (nI ksideMany), .int kwayDays, .int khasWay, .ref klines, .ref kmet, .int (nI kmetMany), .ref ksunk, .ref ktrying, .int (nI ksunkMany), .int ksending, .int kfleets, .ref ktext, .int (nI ktexts), .int kseed, .ref kline, .ref kwritten, .int (nI klineMany), .int khasWritten, .ref knode, .int (nI knodes), .int (nI konesMany), .int (nI kwithin), .int (nI ktop)])), (know, .inl (ky 0, 373, .inl knowG_90)), (kpoured, .inl (ky 0, 36, .inl kpouredF)), (kline, .inl (ky 0, 160, .inl klineF))]) [2, 3, 0, 1] (by decide) rfl
        exact W.iret (v := nI 0) hx hb hr (fun t9 ht9 hW9 => ⟨⟨nI 0, (knowG_90, kpouredF), rfl, ⟨p91, p92, ab_poured, p93⟩, by rw [ht9]; exact hP9, va_K.moved hW9.alike hK, hD9⟩, hS.F ht9⟩) hS.2.2 dX12_goBy_165
      · refine lv_bipush (v := nI 10) hx hb dX12_goBy_148 (by decide) ?_
        refine lv_iload_n hx hb dX12_goBy_150 rfl (lv_at hl 3 rfl) ?_
        refine lv_imul hx hb dX12_goBy_151 ?_
        refine r_ti (nI 20) (by decide) ?_
        refine lv_iload hx hb dX12_goBy_152 (lv_at hl 0 rfl) ?_
        refine lv_iadd hx hb dX12_goBy_154 ?_
        refine lv_topi (fun y94 e95 => ?_)
        rw [hQ]
        exact W.iret (v := y94) hx hb hr (fun t9 ht9 hW9 => ⟨⟨y94, (knowF, kpouredF), rfl, ⟨ab_now, sb_now, ab_poured, he0⟩, by rw [ht9]; exact hP, va_K.moved hW9.alike hK, hD⟩, hS.F ht9⟩) hS.2.2 dX12_goBy_155
    · refine lv_if_ne (tgt := 115) hx hb dX12_goBy_104 (by decide) (fun c96 => absurd c96 (by decide)) (fun c96 => ?_)
      refine lv_bipush (v := nI 10) hx hb dX12_goBy_107 (by decide) ?_
      refine lv_iload_n hx hb dX12_goBy_109 rfl (lv_at hl 2 rfl) ?_
      refine lv_imul hx hb dX12_goBy_110 ?_
      refine r_ti (nI 20) (by decide) ?_
      refine lv_bipush (v := nI 9) hx hb dX12_goBy_111 (by decide) ?_
      refine lv_iadd hx hb dX12_goBy_113 ?_
      refine r_ti (nI 29) (by decide) ?_
      rw [hQ]
      exact W.iret (v := nI 29) hx hb hr (fun t9 ht9 hW9 => ⟨⟨nI 29, (knowF, kpouredF), rfl, ⟨ab_now, sb_now, ab_poured, he0⟩, by rw [ht9]; exact hP, va_K.moved hW9.alike hK, hD⟩, hS.F ht9⟩) hS.2.2 dX12_goBy_114
  · refine r_ti (nI 3) c7 ?_
    refine lv_istore_n (lv' := [(2, .int (nI 3)), (0, .ref o), (1, .int (nI aq))]) hx hb dX12_goBy_6 rfl hl (by decide) rfl (fun ls hl => ?_)
    refine lv_aload_n hx hb dX12_goBy_7 rfl (lv_at hl 1 rfl) ?_
    refine va_get (D := (dC, dI)) (ci := 12) (v := .ref kline) (C := RX12) (T := TX12) (N := 52) hx hb hts hin12 hown hK hP 0 rfl rfl 43 (by decide) (hts (.fieldLink RX12 163 "PorridgeSeaModel" "line" "[I") (List.mem_of_getElem? (i := 1) rfl)) (fun _ h9 => h9) rfl dX12_goBy_8 ?_
    refine lv_iload_n hx hb dX12_goBy_11 rfl (lv_at hl 2 rfl) ?_
    refine lv_iconst (v := nI 1) hx hb dX12_goBy_12 (by decide) ?_
    refine lv_iadd hx hb dX12_goBy_13 ?_
    refine r_ti (nI (aq + 1)) (nI_add _ _) ?_
    obtain ⟨y97, e98⟩ : ∃ z9, z9 = klineF (aq + 1) := ⟨_, rfl⟩
    refine r_iald hx hb hK hP 3 rfl (aq + 1) (lf_e_goBy_22 klineF aq y1 y97 ha hl0 hl1 hl2 hl3 e2 c7 e98) (by decide) y97 e98.symm dX12_goBy_14 ?_
    refine lv_istore_n (lv' := [(3, .int y97), (2, .int (nI 3)), (0, .ref o), (1, .int (nI aq))]) hx hb dX12_goBy_15 rfl hl (by decide) rfl (fun ls hl => ?_)
    refine lv_aload_n hx hb dX12_goBy_16 rfl (lv_at hl 2 rfl) ?_
    refine va_get (D := (dC, dI)) (ci := 12) (v := .ref kline) (C := RX12) (T := TX12) (N := 52) hx hb hts hin12 hown hK hP 0 rfl rfl 43 (by decide) (hts (.fieldLink RX12 163 "PorridgeSeaModel" "line" "[I") (List.mem_of_getElem? (i := 1) rfl)) (fun _ h9 => h9) rfl dX12_goBy_17 ?_
    refine lv_iload_n hx hb dX12_goBy_20 rfl (lv_at hl 3 rfl) ?_
    refine lv_iconst (v := nI 2) hx hb dX12_goBy_21 (by decide) ?_
    refine lv_iadd hx hb dX12_goBy_22 ?_
    refine r_ti (nI (aq + 2)) (nI_add _ _) ?_
    obtain ⟨y99, e100⟩ : ∃ z9, z9 = klineF (aq + 2) := ⟨_, rfl⟩
    refine r_iald hx hb hK hP 3 rfl (aq + 2) (lf_e_goBy_23 klineF aq y1 y97 y99 ha hl0 hl1 hl2 hl3 e2 c7 e98 e100) (by decide) y99 e100.symm dX12_goBy_23 ?_
    refine lv_istore (lv' := [(4, .int y99), (3, .int y97), (2, .int (nI 3)), (0, .ref o), (1, .int (nI aq))]) hx hb dX12_goBy_24 hl (by decide) rfl (fun ls hl => ?_)
    refine lv_iload_n hx hb dX12_goBy_26 rfl (lv_at hl 2 rfl) ?_
    refine lv_iconst (v := nI 5) hx hb dX12_goBy_27 (by decide) ?_
    refine lv_icmp_ne (tgt := 57) hx hb dX12_goBy_28 (by decide) (fun c101 => ?_) (fun c101 => absurd c101 (by decide))
    refine lv_iload_n hx hb dX12_goBy_57 rfl (lv_at hl 2 rfl) ?_
    refine lv_if_ne (tgt := 87) hx hb dX12_goBy_58 (by decide) (fun c102 => ?_) (fun c102 => absurd c102 (by decide))
    refine lv_iload_n hx hb dX12_goBy_87 rfl (lv_at hl 2 rfl) ?_
    refine lv_iconst (v := nI 2) hx hb dX12_goBy_88 (by decide) ?_
    refine lv_icmp_eq (tgt := 97) hx hb dX12_goBy_89 (by decide) (fun c103 => absurd c103 (by decide)) (fun c103 => ?_)
    refine lv_iload_n hx hb dX12_goBy_92 rfl (lv_at hl 2 rfl) ?_
    refine lv_iconst (v := nI 3) hx hb dX12_goBy_93 (by decide) ?_
    refine lv_icmp_ne (tgt := 133) hx hb dX12_goBy_94 (by decide) (fun c104 => absurd c104 (by decide)) (fun c104 => ?_)
    refine lv_aload_n hx hb dX12_goBy_97 rfl (lv_at hl 3 rfl) ?_
    refine lv_iload_n hx hb dX12_goBy_98 rfl (lv_at hl 1 rfl) ?_
    refine lv_iload hx hb dX12_goBy_99 (lv_at hl 0 rfl) ?_
    refine vp_callSi (W.runV (As := [.int y97, .int y99]) (rest := []) ⟨hx, hb, hml, hown, hts⟩ (c_x_isCell l dC dI ky o kthrown ktape ktaped ksize klimit kto kfrom kkind knumber ksign kfault kplace kword ktold know kread kkept ksnaps kaside kname kreadName kkeptName kisKept konces ksnapMany khasCells kpoured kfar ksides ksideMany kwayDays khasWay klines kmet kmetMany ksunk ktrying ksunkMany ksending kfleets ktext ktexts kseed kline kwritten klineMany khasWritten knode knodes konesMany kwithin ktop knowF y97 y99 iv_ko_0 iv_ko_1 iv_ko_2 iv_ko_3 iv_ko_4 iv_ko_5 iv_ko_6 iv_ko_7 iv_ko_8 iv_ko_9 iv_ko_10 iv_ko_11 iv_ko_12 iv_ko_13 iv_ko_14 ab_now) (cwV 2 hts gX12_goBy_X12_isCell rfl rfl rfl (by decide +kernel) ⟨(Nat.le_of_ble_eq_true rfl), (Nat.le_of_ble_eq_true rfl)⟩) (pre_PV hK hP [0, 1] rfl (ci := 12) (q0 := 0) rfl rfl) rfl rfl hl.1 rfl (lv_room (Nat.le_of_ble_eq_true rfl)) dX12_goBy_101 ⟨(Nat.le_of_ble_eq_true rfl), (Nat.le_of_ble_eq_true rfl)⟩) (fun r105 p106 => ?_)
    rcases p106 with ⟨rfl, t107, t108, t109, t110, t111, t112⟩ | ⟨rfl, t113⟩
    · refine lv_if_ne (tgt := 115) hx hb dX12_goBy_104 (by decide) (fun c114 => ?_) (fun c114 => absurd c114 (by decide))
      refine lv_bipush (v := nI 6) hx hb dX12_goBy_115 (by decide) ?_
      refine lv_iload hx hb dX12_goBy_117 (lv_at hl 0 rfl) ?_
      obtain ⟨n115, h116, e117⟩ := nat_of y99 6 (by decide) (lf_e_goBy_24 knowF klineF kn0 aq y1 y97 y99 ab_now sb_now ha he0 hl0 hl1 hl2 hl3 e2 c7 e98 e100 t107 t108 t109 t110 t111 t112)
      rw [e117]
      refine lv_imul hx hb dX12_goBy_119 ?_
      refine r_ti (nI (6 * n115)) (pk_mul _ _) ?_
      refine lv_iload_n hx hb dX12_goBy_120 rfl (lv_at hl 1 rfl) ?_
      obtain ⟨n118, h119, e120⟩ := nat_of y97 6 (by decide) (lf_e_goBy_25 knowF klineF kn0 aq y1 y97 y99 n115 ab_now sb_now ha he0 hl0 hl1 hl2 hl3 e2 c7 e98 e100 t107 t108 t109 t110 t111 t112 h116 e117)
      rw [e120]
      refine lv_iadd hx hb dX12_goBy_121 ?_
      refine r_ti (nI ((6 * n115) + n118)) (nI_add _ _) ?_
      refine lv_istore_n (lv' := [(3, .int (nI ((6 * n115) + n118))), (4, .int y99), (2, .int (nI 3)), (0, .ref o), (1, .int (nI aq))]) hx hb dX12_goBy_122 rfl hl (by decide) rfl (fun ls hl => ?_)
      refine lv_aload_n hx hb dX12_goBy_123 rfl (lv_at hl 3 rfl) ?_
      refine va_get (D := (dC, dI)) (ci := 12) (v := .ref kline) (C := RX12) (T := TX12) (N := 52) hx hb hts hin12 hown hK hP 0 rfl rfl 43 (by decide) (hts (.fieldLink RX12 163 "PorridgeSeaModel" "line" "[I") (List.mem_of_getElem? (i := 1) rfl)) (fun _ h9 => h9) rfl dX12_goBy_124 ?_
      refine lv_iload_n hx hb dX12_goBy_127 rfl (lv_at hl 4 rfl) ?_
      refine lv_iconst (v := nI 3) hx hb dX12_goBy_128 (by decide) ?_
      refine lv_iadd hx hb dX12_goBy_129 ?_
      refine r_ti (nI (aq + 3)) (nI_add _ _) ?_
      obtain ⟨y121, e122⟩ : ∃ z9, z9 = klineF (aq + 3) := ⟨_, rfl⟩
      refine r_iald hx hb hK hP 3 rfl (aq + 3) (lf_e_goBy_26 knowF klineF kn0 aq y1 y97 y99 n115 n118 y121 ab_now sb_now ha he0 hl0 hl1 hl2 hl3 e2 c7 e98 e100 t107 t108 t109 t110 t111 t112 h116 e117 h119 e120 e122) (by decide) y121 e122.symm dX12_goBy_130 ?_
      refine lv_istore (lv' := [(4, .int y121), (3, .int (nI ((6 * n115) + n118))), (2, .int (nI 3)), (0, .ref o), (1, .int (nI aq))]) hx hb dX12_goBy_131 hl (by decide) rfl (fun ls hl => ?_)
      refine lv_aload_n hx hb dX12_goBy_133 rfl (lv_at hl 3 rfl) ?_
      refine lv_iload_n hx hb dX12_goBy_134 rfl (lv_at hl 2 rfl) ?_
      refine lv_iload_n hx hb dX12_goBy_135 rfl (lv_at hl 1 rfl) ?_
      refine lv_iload hx hb dX12_goBy_136 (lv_at hl 0 rfl) ?_
      refine vp_callSi (W.runV (As := [.int (nI 3), .int (nI ((6 * n115) + n118)), .int y121]) (rest := []) ⟨hx, hb, hml, hown, hts⟩ (c_x_why3 l dC dI ky o kthrown ktape ktaped ksize klimit kto kfrom kkind knumber ksign kfault kplace kword ktold know kread kkept ksnaps kaside kname kreadName kkeptName kisKept konces ksnapMany khasCells kpoured kfar ksides ksideMany kwayDays khasWay klines kmet kmetMany ksunk ktrying ksunkMany ksending kfleets ktext ktexts kseed kline kwritten klineMany khasWritten knode knodes konesMany kwithin ktop knowF (nI ((6 * n115) + n118)) y121 iv_ko_0 iv_ko_1 iv_ko_2 iv_ko_3 iv_ko_4 iv_ko_5 iv_ko_6 iv_ko_7 iv_ko_8 iv_ko_9 iv_ko_10 iv_ko_11 iv_ko_12 iv_ko_13 iv_ko_14 ab_now (lf_e_goBy_27 knowF klineF kn0 aq y1 y97 y99 n115 n118 y121 ab_now sb_now ha he0 hl0 hl1 hl2 hl3 e2 c7 e98 e100 t107 t108 t109 t110 t111 t112 h116 e117 h119 e120 e122)) (cwV 3 hts gX12_goBy_X12_why rfl rfl rfl (by decide +kernel) ⟨(Nat.le_of_ble_eq_true rfl), (Nat.le_of_ble_eq_true rfl)⟩) (pre_PV hK hP [0, 1] rfl (ci := 12) (q0 := 0) rfl rfl) rfl rfl hl.1 rfl (lv_room (Nat.le_of_ble_eq_true rfl)) dX12_goBy_138 ⟨(Nat.le_of_ble_eq_true rfl), (Nat.le_of_ble_eq_true rfl)⟩) (fun r123 p124 => ?_)
      refine lv_istore (lv' := [(5, .int r123), (4, .int y121), (3, .int (nI ((6 * n115) + n118))), (2, .int (nI 3)), (0, .ref o), (1, .int (nI aq))]) hx hb dX12_goBy_141 hl (by decide) rfl (fun ls hl => ?_)
      refine lv_iload hx hb dX12_goBy_143 (lv_at hl 0 rfl) ?_
      refine lv_if_eq (tgt := 156) hx hb dX12_goBy_145 (by decide) (fun c125 => ?_) (fun c125 => ?_)
      · refine lv_aload_n hx hb dX12_goBy_156 rfl (lv_at hl 4 rfl) ?_
        refine lv_iload_n hx hb dX12_goBy_157 rfl (lv_at hl 3 rfl) ?_
        refine lv_iload_n hx hb dX12_goBy_158 rfl (lv_at hl 2 rfl) ?_
        refine lv_iload hx hb dX12_goBy_159 (lv_at hl 1 rfl) ?_
        refine r_call_v (wr := [(kpoured, .inl (ky 0, 36, .inl kpouredF)), (kline, .inl (ky 0, 160, .inl klineF))]) (va_runV (As := [.int (nI 3), .int (nI ((6 * n115) + n118)), .int y121]) (rest := []) ⟨hx, hb, hml, hown, hts⟩ (c_e_live3 l dC dI ky s.heap.size o kthrown ktape ktaped ksize klimit kto kfrom kkind knumber ksign kfault kplace kword ktold know kread kkept ksnaps kaside kname kreadName kkeptName kisKept konces ksnapMany khasCells kpoured kfar ksides ksideMany kwayDays khasWay klines kmet kmetMany ksunk ktrying ksunkMany ksending kfleets ktext ktexts kseed kline kwritten klineMany khasWritten knode knodes konesMany kwithin ktop knowF kn0 (nI ((6 * n115) + n118)) y121 iv_ko_0 iv_ko_1 iv_ko_2 iv_ko_3 iv_ko_4 iv_ko_5 iv_ko_6 iv_ko_7 iv_ko_8 iv_ko_9 iv_ko_10 iv_ko_11 iv_ko_12 iv_ko_13 iv_ko_14 ab_now sb_now (lf_e_goBy_28 knowF klineF kn0 aq y1 y97 y99 n115 n118 y121 ab_now sb_now ha he0 hl0 hl1 hl2 hl3 e2 c7 e98 e100 t107 t108 t109 t110 t111 t112 h116 e117 h119 e120 e122 p124) (lf_e_goBy_29 knowF klineF kn0 aq y1 y97 y99 n115 n118 y121 ab_now sb_now ha he0 hl0 hl1 hl2 hl3 e2 c7 e98 e100 t107 t108 t109 t110 t111 t112 h116 e117 h119 e120 e122 p124) he0) (cwV 3 hts gX12_goBy_X12_live rfl rfl rfl (by decide +kernel) ⟨(Nat.le_of_ble_eq_true rfl), (Nat.le_of_ble_eq_true rfl)⟩) (pre_UV hK hP hD [0, 1] (by decide) rfl (ci := 12) (q0 := 0) rfl rfl) rfl rfl hl.1 rfl (lv_room (Nat.le_of_ble_eq_true rfl)) dX12_goBy_161 ⟨(Nat.le_of_ble_eq_true rfl), (Nat.le_of_ble_eq_true rfl)⟩) hP hD hS hA [0, 1] [2, 3] rfl rfl (by decide) (by decide) (fun  u126 H locs p127 hP hD hS => ?_)
        obtain ⟨knowG_128, rfl⟩ : ∃ z, z = u126 := ⟨_, rfl⟩
        try dsimp only at p127
        obtain ⟨p129, p130, p131⟩ := p127
        refine W.widen (k := 0) (n := 0) (Nat.le_of_ble_eq_true rfl) (Nat.le_of_ble_eq_true rfl) ?_
        have hP : va_P (dC, dI) vwCl [(kpoured, .inl (ky 0, 36, .inl kpouredF)), (kline, .inl (ky 0, 160, .inl klineF)), (o, .inr (12, [.int kthrown, .ref ktape, .int (nI ktaped), .int (nI ksize), .int (nI klimit), .int (nI kto), .int (nI kfrom), .int kkind, .int knumber, .int ksign, .int kfault, .int kplace, .long kword, .int ktold, .ref know, .ref kread, .ref kkept, .ref ksnaps, .ref kaside, .ref kname, .ref kreadName, .ref kkeptName, .ref kisKept, .ref konces, .int (nI ksnapMany), .int khasCells, .ref kpoured, .ref kfar, .ref ksides, .int (nI ksideMany), .int kwayDays, .int khasWay, .ref klines, .ref kmet, .int (nI kmetMany), .ref ksunk, .ref ktrying, .int (nI ksunkMany), .int ksending, .int kfleets, .ref ktext, .int (nI ktexts), .int kseed, .ref kline, .ref kwritten, .int (nI klineMany), .int khasWritten, .ref knode, .int (nI knodes), .int (nI konesMany), .int (nI kwithin), .int (nI ktop)])), (know, .inl (ky 0, 373, .inl knowG_128))] H := hP
        have hD : va_D A [(kpoured, .inl (ky 0, 36, .inl kpouredF)), (kline, .inl (ky 0, 160, .inl klineF)), (o, .inr (12, [.int kthrown, .ref ktape, .int (nI ktaped), .int (nI ksize), .int (nI klimit), .int (nI kto), .int (nI kfrom), .int kkind, .int knumber, .int ksign, .int kfault, .int kplace, .long kword, .int ktold, .ref know, .ref kread, .ref kkept, .ref ksnaps, .ref kaside, .ref kname, .ref kreadName, .ref kkeptName, .ref kisKept, .ref konces, .int (nI ksnapMany), .int khasCells, .ref kpoured, .ref kfar, .ref ksides, .int (nI ksideMany), .int kwayDays, .int khasWay, .ref klines, .ref kmet, .int (nI kmetMany), .ref ksunk, .ref ktrying, .int (nI ksunkMany), .int ksending, .int kfleets, .ref ktext, .int (nI ktexts), .int kseed, .ref kline, .ref kwritten, .int (nI klineMany), .int khasWritten, .ref knode, .int (nI knodes), .int (nI konesMany), .int (nI kwithin), .int (nI ktop)])), (know, .inl (ky 0, 373, .inl knowG_128))] := hD
        refine lv_iconst (v := nI 0) hx hb dX12_goBy_164 (by decide) ?_
        rw [hQ]
        have hP9 := hP.sub (ws' := [(o, .inr (12, [.int kthrown, .ref ktape, .int (nI ktaped), .int (nI ksize), .int (nI klimit), .int (nI kto), .int (nI kfrom), .int kkind, .int knumber, .int ksign, .int kfault, .int kplace, .long kword, .int ktold, .ref know, .ref kread, .ref kkept, .ref ksnaps, .ref kaside, .ref kname, .ref kreadName, .ref kkeptName, .ref kisKept, .ref konces, .int (nI ksnapMany), .int khasCells, .ref kpoured, .ref kfar, .ref ksides, .int (nI ksideMany), .int kwayDays, .int khasWay, .ref klines, .ref kmet, .int (nI kmetMany), .ref ksunk, .ref ktrying, .int (nI ksunkMany), .int ksending, .int kfleets, .ref ktext, .int (nI ktexts), .int kseed, .ref kline, .ref kwritten, .int (nI klineMany), .int khasWritten, .ref knode, .int (nI knodes), .int (nI konesMany), .int (nI kwithin), .int (nI ktop)])), (know, .inl (ky 0, 373, .inl knowG_128)), (kpoured, .inl (ky 0, 36, .inl kpouredF)), (kline, .inl (ky 0, 160, .inl klineF))]) [2, 3, 0, 1] rfl
        have hD9 := hD.sub (ws' := [(o, .inr (12, [.int kthrown, .ref ktape, .int (nI ktaped), .int (nI ksize), .int (nI klimit), .int (nI kto), .int (nI kfrom), .int kkind, .int knumber, .int ksign, .int kfault, .int kplace, .long kword, .int ktold, .ref know, .ref kread, .ref kkept, .ref ksnaps, .ref kaside, .ref kname, .ref kreadName, .ref kkeptName, .ref kisKept, .ref konces, .int (nI ksnapMany), .int khasCells, .ref kpoured, .ref kfar, .ref ksides, .int (nI ksideMany), .int kwayDays, .int khasWay, .ref klines, .ref kmet, .int (nI kmetMany), .ref ksunk, .ref ktrying, .int (nI ksunkMany), .int ksending, .int kfleets, .ref ktext, .int (nI ktexts), .int kseed, .ref kline, .ref kwritten, .int (nI klineMany), .int khasWritten, .ref knode, .int (nI knodes), .int (nI konesMany), .int (nI kwithin), .int (nI ktop)])), (know, .inl (ky 0, 373, .inl knowG_128)), (kpoured, .inl (ky 0, 36, .inl kpouredF)), (kline, .inl (ky 0, 160, .inl klineF))]) [2, 3, 0, 1] (by decide) rfl
        exact W.iret (v := nI 0) hx hb hr (fun t9 ht9 hW9 => ⟨⟨nI 0, (knowG_128, kpouredF), rfl, ⟨p129, p130, ab_poured, p131⟩, by rw [ht9]; exact hP9, va_K.moved hW9.alike hK, hD9⟩, hS.F ht9⟩) hS.2.2 dX12_goBy_165
      · refine lv_bipush (v := nI 10) hx hb dX12_goBy_148 (by decide) ?_
        refine lv_iload_n hx hb dX12_goBy_150 rfl (lv_at hl 3 rfl) ?_
        refine lv_imul hx hb dX12_goBy_151 ?_
        refine r_ti (nI 30) (by decide) ?_
        refine lv_iload hx hb dX12_goBy_152 (lv_at hl 0 rfl) ?_
        refine lv_iadd hx hb dX12_goBy_154 ?_
        refine lv_topi (fun y132 e133 => ?_)
        rw [hQ]
        exact W.iret (v := y132) hx hb hr (fun t9 ht9 hW9 => ⟨⟨y132, (knowF, kpouredF), rfl, ⟨ab_now, sb_now, ab_poured, he0⟩, by rw [ht9]; exact hP, va_K.moved hW9.alike hK, hD⟩, hS.F ht9⟩) hS.2.2 dX12_goBy_155
    · refine lv_if_ne (tgt := 115) hx hb dX12_goBy_104 (by decide) (fun c134 => absurd c134 (by decide)) (fun c134 => ?_)
      refine lv_bipush (v := nI 10) hx hb dX12_goBy_107 (by decide) ?_
      refine lv_iload_n hx hb dX12_goBy_109 rfl (lv_at hl 2 rfl) ?_
      refine lv_imul hx hb dX12_goBy_110 ?_
      refine r_ti (nI 30) (by decide) ?_
      refine lv_bipush (v := nI 9) hx hb dX12_goBy_111 (by decide) ?_
      refine lv_iadd hx hb dX12_goBy_113 ?_
      refine r_ti (nI 39) (by decide) ?_
      rw [hQ]
      exact W.iret (v := nI 39) hx hb hr (fun t9 ht9 hW9 => ⟨⟨nI 39, (knowF, kpouredF), rfl, ⟨ab_now, sb_now, ab_poured, he0⟩, by rw [ht9]; exact hP, va_K.moved hW9.alike hK, hD⟩, hS.F ht9⟩) hS.2.2 dX12_goBy_114
  · refine r_ti (nI 4) c8 ?_
    refine lv_istore_n (lv' := [(2, .int (nI 4)), (0, .ref o), (1, .int (nI aq))]) hx hb dX12_goBy_6 rfl hl (by decide) rfl (fun ls hl => ?_)
    refine lv_aload_n hx hb dX12_goBy_7 rfl (lv_at hl 1 rfl) ?_
    refine va_get (D := (dC, dI)) (ci := 12) (v := .ref kline) (C := RX12) (T := TX12) (N := 52) hx hb hts hin12 hown hK hP 0 rfl rfl 43 (by decide) (hts (.fieldLink RX12 163 "PorridgeSeaModel" "line" "[I") (List.mem_of_getElem? (i := 1) rfl)) (fun _ h9 => h9) rfl dX12_goBy_8 ?_
    refine lv_iload_n hx hb dX12_goBy_11 rfl (lv_at hl 2 rfl) ?_
    refine lv_iconst (v := nI 1) hx hb dX12_goBy_12 (by decide) ?_
    refine lv_iadd hx hb dX12_goBy_13 ?_
    refine r_ti (nI (aq + 1)) (nI_add _ _) ?_
    obtain ⟨y135, e136⟩ : ∃ z9, z9 = klineF (aq + 1) := ⟨_, rfl⟩
    refine r_iald hx hb hK hP 3 rfl (aq + 1) (lf_e_goBy_30 klineF aq y1 y135 ha hl0 hl1 hl2 hl3 e2 c8 e136) (by decide) y135 e136.symm dX12_goBy_14 ?_
    refine lv_istore_n (lv' := [(3, .int y135), (2, .int (nI 4)), (0, .ref o), (1, .int (nI aq))]) hx hb dX12_goBy_15 rfl hl (by decide) rfl (fun ls hl => ?_)
    refine lv_aload_n hx hb dX12_goBy_16 rfl (lv_at hl 2 rfl) ?_
    refine va_get (D := (dC, dI)) (ci := 12) (v := .ref kline) (C := RX12) (T := TX12) (N := 52) hx hb hts hin12 hown hK hP 0 rfl rfl 43 (by decide) (hts (.fieldLink RX12 163 "PorridgeSeaModel" "line" "[I") (List.mem_of_getElem? (i := 1) rfl)) (fun _ h9 => h9) rfl dX12_goBy_17 ?_
    refine lv_iload_n hx hb dX12_goBy_20 rfl (lv_at hl 3 rfl) ?_
    refine lv_iconst (v := nI 2) hx hb dX12_goBy_21 (by decide) ?_
    refine lv_iadd hx hb dX12_goBy_22 ?_
    refine r_ti (nI (aq + 2)) (nI_add _ _) ?_
    obtain ⟨y137, e138⟩ : ∃ z9, z9 = klineF (aq + 2) := ⟨_, rfl⟩
    refine r_iald hx hb hK hP 3 rfl (aq + 2) (lf_e_goBy_31 klineF aq y1 y135 y137 ha hl0 hl1 hl2 hl3 e2 c8 e136 e138) (by decide) y137 e138.symm dX12_goBy_23 ?_
    refine lv_istore (lv' := [(4, .int y137), (3, .int y135), (2, .int (nI 4)), (0, .ref o), (1, .int (nI aq))]) hx hb dX12_goBy_24 hl (by decide) rfl (fun ls hl => ?_)
    refine lv_iload_n hx hb dX12_goBy_26 rfl (lv_at hl 2 rfl) ?_
    refine lv_iconst (v := nI 5) hx hb dX12_goBy_27 (by decide) ?_
    refine lv_icmp_ne (tgt := 57) hx hb dX12_goBy_28 (by decide) (fun c139 => ?_) (fun c139 => absurd c139 (by decide))
    refine lv_iload_n hx hb dX12_goBy_57 rfl (lv_at hl 2 rfl) ?_
    refine lv_if_ne (tgt := 87) hx hb dX12_goBy_58 (by decide) (fun c140 => ?_) (fun c140 => absurd c140 (by decide))
    refine lv_iload_n hx hb dX12_goBy_87 rfl (lv_at hl 2 rfl) ?_
    refine lv_iconst (v := nI 2) hx hb dX12_goBy_88 (by decide) ?_
    refine lv_icmp_eq (tgt := 97) hx hb dX12_goBy_89 (by decide) (fun c141 => absurd c141 (by decide)) (fun c141 => ?_)
    refine lv_iload_n hx hb dX12_goBy_92 rfl (lv_at hl 2 rfl) ?_
    refine lv_iconst (v := nI 3) hx hb dX12_goBy_93 (by decide) ?_
    refine lv_icmp_ne (tgt := 133) hx hb dX12_goBy_94 (by decide) (fun c142 => ?_) (fun c142 => absurd c142 (by decide))
    refine lv_aload_n hx hb dX12_goBy_133 rfl (lv_at hl 3 rfl) ?_
    refine lv_iload_n hx hb dX12_goBy_134 rfl (lv_at hl 2 rfl) ?_
    refine lv_iload_n hx hb dX12_goBy_135 rfl (lv_at hl 1 rfl) ?_
    refine lv_iload hx hb dX12_goBy_136 (lv_at hl 0 rfl) ?_
    refine vp_callSi (W.runV (As := [.int (nI 4), .int y135, .int y137]) (rest := []) ⟨hx, hb, hml, hown, hts⟩ (c_x_why4 l dC dI ky o kthrown ktape ktaped ksize klimit kto kfrom kkind knumber ksign kfault kplace kword ktold know kread kkept ksnaps kaside kname kreadName kkeptName kisKept konces ksnapMany khasCells kpoured kfar ksides ksideMany kwayDays khasWay klines kmet kmetMany ksunk ktrying ksunkMany ksending kfleets ktext ktexts kseed kline kwritten klineMany khasWritten knode knodes konesMany kwithin ktop knowF y135 y137 iv_ko_0 iv_ko_1 iv_ko_2 iv_ko_3 iv_ko_4 iv_ko_5 iv_ko_6 iv_ko_7 iv_ko_8 iv_ko_9 iv_ko_10 iv_ko_11 iv_ko_12 iv_ko_13 iv_ko_14 ab_now) (cwV 3 hts gX12_goBy_X12_why rfl rfl rfl (by decide +kernel) ⟨(Nat.le_of_ble_eq_true rfl), (Nat.le_of_ble_eq_true rfl)⟩) (pre_PV hK hP [0, 1] rfl (ci := 12) (q0 := 0) rfl rfl) rfl rfl hl.1 rfl (lv_room (Nat.le_of_ble_eq_true rfl)) dX12_goBy_138 ⟨(Nat.le_of_ble_eq_true rfl), (Nat.le_of_ble_eq_true rfl)⟩) (fun r143 p144 => ?_)
    refine lv_istore (lv' := [(5, .int r143), (4, .int y137), (3, .int y135), (2, .int (nI 4)), (0, .ref o), (1, .int (nI aq))]) hx hb dX12_goBy_141 hl (by decide) rfl (fun ls hl => ?_)
    refine lv_iload hx hb dX12_goBy_143 (lv_at hl 0 rfl) ?_
    refine lv_if_eq (tgt := 156) hx hb dX12_goBy_145 (by decide) (fun c145 => ?_) (fun c145 => ?_)
    · refine lv_aload_n hx hb dX12_goBy_156 rfl (lv_at hl 4 rfl) ?_
      refine lv_iload_n hx hb dX12_goBy_157 rfl (lv_at hl 3 rfl) ?_
      refine lv_iload_n hx hb dX12_goBy_158 rfl (lv_at hl 2 rfl) ?_
      refine lv_iload hx hb dX12_goBy_159 (lv_at hl 1 rfl) ?_
      refine r_call_v (wr := [(kpoured, .inl (ky 0, 36, .inl kpouredF)), (kline, .inl (ky 0, 160, .inl klineF))]) (va_runV (As := [.int (nI 4), .int y135, .int y137]) (rest := []) ⟨hx, hb, hml, hown, hts⟩ (c_e_live4 l dC dI ky s.heap.size o kthrown ktape ktaped ksize klimit kto kfrom kkind knumber ksign kfault kplace kword ktold know kread kkept ksnaps kaside kname kreadName kkeptName kisKept konces ksnapMany khasCells kpoured kfar ksides ksideMany kwayDays khasWay klines kmet kmetMany ksunk ktrying ksunkMany ksending kfleets ktext ktexts kseed kline kwritten klineMany khasWritten knode knodes konesMany kwithin ktop knowF kn0 y135 y137 iv_ko_0 iv_ko_1 iv_ko_2 iv_ko_3 iv_ko_4 iv_ko_5 iv_ko_6 iv_ko_7 iv_ko_8 iv_ko_9 iv_ko_10 iv_ko_11 iv_ko_12 iv_ko_13 iv_ko_14 ab_now sb_now he0) (cwV 3 hts gX12_goBy_X12_live rfl rfl rfl (by decide +kernel) ⟨(Nat.le_of_ble_eq_true rfl), (Nat.le_of_ble_eq_true rfl)⟩) (pre_UV hK hP hD [0, 1] (by decide) rfl (ci := 12) (q0 := 0) rfl rfl) rfl rfl hl.1 rfl (lv_room (Nat.le_of_ble_eq_true rfl)) dX12_goBy_161 ⟨(Nat.le_of_ble_eq_true rfl), (Nat.le_of_ble_eq_true rfl)⟩) hP hD hS hA [0, 1] [2, 3] rfl rfl (by decide) (by decide) (fun  u146 H locs p147 hP hD hS => ?_)
      obtain ⟨knowG_148, rfl⟩ : ∃ z, z = u146 := ⟨_, rfl⟩
      try dsimp only at p147
      obtain ⟨p149, p150, p151⟩ := p147
      refine W.widen (k := 0) (n := 0) (Nat.le_of_ble_eq_true rfl) (Nat.le_of_ble_eq_true rfl) ?_
      have hP : va_P (dC, dI) vwCl [(kpoured, .inl (ky 0, 36, .inl kpouredF)), (kline, .inl (ky 0, 160, .inl klineF)), (o, .inr (12, [.int kthrown, .ref ktape, .int (nI ktaped), .int (nI ksize), .int (nI klimit), .int (nI kto), .int (nI kfrom), .int kkind, .int knumber, .int ksign, .int kfault, .int kplace, .long kword, .int ktold, .ref know, .ref kread, .ref kkept, .ref ksnaps, .ref kaside, .ref kname, .ref kreadName, .ref kkeptName, .ref kisKept, .ref konces, .int (nI ksnapMany), .int khasCells, .ref kpoured, .ref kfar, .ref ksides, .int (nI ksideMany), .int kwayDays, .int khasWay, .ref klines, .ref kmet, .int (nI kmetMany), .ref ksunk, .ref ktrying, .int (nI ksunkMany), .int ksending, .int kfleets, .ref ktext, .int (nI ktexts), .int kseed, .ref kline, .ref kwritten, .int (nI klineMany), .int khasWritten, .ref knode, .int (nI knodes), .int (nI konesMany), .int (nI kwithin), .int (nI ktop)])), (know, .inl (ky 0, 373, .inl knowG_148))] H := hP
      have hD : va_D A [(kpoured, .inl (ky 0, 36, .inl kpouredF)), (kline, .inl (ky 0, 160, .inl klineF)), (o, .inr (12, [.int kthrown, .ref ktape, .int (nI ktaped), .int (nI ksize), .int (nI klimit), .int (nI kto), .int (nI kfrom), .int kkind, .int knumber, .int ksign, .int kfault, .int kplace, .long kword, .int ktold, .ref know, .ref kread, .ref kkept, .ref ksnaps, .ref kaside, .ref kname, .ref kreadName, .ref kkeptName, .ref kisKept, .ref konces, .int (nI ksnapMany), .int khasCells, .ref kpoured, .ref kfar, .ref ksides, .int (nI ksideMany), .int kwayDays, .int khasWay, .ref klines, .ref kmet, .int (nI kmetMany), .ref ksunk, .ref ktrying, .int (nI ksunkMany), .int ksending, .int kfleets, .ref ktext, .int (nI ktexts), .int kseed, .ref kline, .ref kwritten, .int (nI klineMany), .int khasWritten, .ref knode, .int (nI knodes), .int (nI konesMany), .int (nI kwithin), .int (nI ktop)])), (know, .inl (ky 0, 373, .inl knowG_148))] := hD
      refine lv_iconst (v := nI 0) hx hb dX12_goBy_164 (by decide) ?_
      rw [hQ]
      have hP9 := hP.sub (ws' := [(o, .inr (12, [.int kthrown, .ref ktape, .int (nI ktaped), .int (nI ksize), .int (nI klimit), .int (nI kto), .int (nI kfrom), .int kkind, .int knumber, .int ksign, .int kfault, .int kplace, .long kword, .int ktold, .ref know, .ref kread, .ref kkept, .ref ksnaps, .ref kaside, .ref kname, .ref kreadName, .ref kkeptName, .ref kisKept, .ref konces, .int (nI ksnapMany), .int khasCells, .ref kpoured, .ref kfar, .ref ksides, .int (nI ksideMany), .int kwayDays, .int khasWay, .ref klines, .ref kmet, .int (nI kmetMany), .ref ksunk, .ref ktrying, .int (nI ksunkMany), .int ksending, .int kfleets, .ref ktext, .int (nI ktexts), .int kseed, .ref kline, .ref kwritten, .int (nI klineMany), .int khasWritten, .ref knode, .int (nI knodes), .int (nI konesMany), .int (nI kwithin), .int (nI ktop)])), (know, .inl (ky 0, 373, .inl knowG_148)), (kpoured, .inl (ky 0, 36, .inl kpouredF)), (kline, .inl (ky 0, 160, .inl klineF))]) [2, 3, 0, 1] rfl
      have hD9 := hD.sub (ws' := [(o, .inr (12, [.int kthrown, .ref ktape, .int (nI ktaped), .int (nI ksize), .int (nI klimit), .int (nI kto), .int (nI kfrom), .int kkind, .int knumber, .int ksign, .int kfault, .int kplace, .long kword, .int ktold, .ref know, .ref kread, .ref kkept, .ref ksnaps, .ref kaside, .ref kname, .ref kreadName, .ref kkeptName, .ref kisKept, .ref konces, .int (nI ksnapMany), .int khasCells, .ref kpoured, .ref kfar, .ref ksides, .int (nI ksideMany), .int kwayDays, .int khasWay, .ref klines, .ref kmet, .int (nI kmetMany), .ref ksunk, .ref ktrying, .int (nI ksunkMany), .int ksending, .int kfleets, .ref ktext, .int (nI ktexts), .int kseed, .ref kline, .ref kwritten, .int (nI klineMany), .int khasWritten, .ref knode, .int (nI knodes), .int (nI konesMany), .int (nI kwithin), .int (nI ktop)])), (know, .inl (ky 0, 373, .inl knowG_148)), (kpoured, .inl (ky 0, 36, .inl kpouredF)), (kline, .inl (ky 0, 160, .inl klineF))]) [2, 3, 0, 1] (by decide) rfl
      exact W.iret (v := nI 0) hx hb hr (fun t9 ht9 hW9 => ⟨⟨nI 0, (knowG_148, kpouredF), rfl, ⟨p149, p150, ab_poured, p151⟩, by rw [ht9]; exact hP9, va_K.moved hW9.alike hK, hD9⟩, hS.F ht9⟩) hS.2.2 dX12_goBy_165
    · refine lv_bipush (v := nI 10) hx hb dX12_goBy_148 (by decide) ?_
      refine lv_iload_n hx hb dX12_goBy_150 rfl (lv_at hl 3 rfl) ?_
      refine lv_imul hx hb dX12_goBy_151 ?_
      refine r_ti (nI 40) (by decide) ?_
      refine lv_iload hx hb dX12_goBy_152 (lv_at hl 0 rfl) ?_
      refine lv_iadd hx hb dX12_goBy_154 ?_
      refine lv_topi (fun y152 e153 => ?_)
      rw [hQ]
      exact W.iret (v := y152) hx hb hr (fun t9 ht9 hW9 => ⟨⟨y152, (knowF, kpouredF), rfl, ⟨ab_now, sb_now, ab_poured, he0⟩, by rw [ht9]; exact hP, va_K.moved hW9.alike hK, hD⟩, hS.F ht9⟩) hS.2.2 dX12_goBy_155
  · refine r_ti (nI 5) c9 ?_
    refine lv_istore_n (lv' := [(2, .int (nI 5)), (0, .ref o), (1, .int (nI aq))]) hx hb dX12_goBy_6 rfl hl (by decide) rfl (fun ls hl => ?_)
    refine lv_aload_n hx hb dX12_goBy_7 rfl (lv_at hl 1 rfl) ?_
    refine va_get (D := (dC, dI)) (ci := 12) (v := .ref kline) (C := RX12) (T := TX12) (N := 52) hx hb hts hin12 hown hK hP 0 rfl rfl 43 (by decide) (hts (.fieldLink RX12 163 "PorridgeSeaModel" "line" "[I") (List.mem_of_getElem? (i := 1) rfl)) (fun _ h9 => h9) rfl dX12_goBy_8 ?_
    refine lv_iload_n hx hb dX12_goBy_11 rfl (lv_at hl 2 rfl) ?_
    refine lv_iconst (v := nI 1) hx hb dX12_goBy_12 (by decide) ?_
    refine lv_iadd hx hb dX12_goBy_13 ?_
    refine r_ti (nI (aq + 1)) (nI_add _ _) ?_
    obtain ⟨y154, e155⟩ : ∃ z9, z9 = klineF (aq + 1) := ⟨_, rfl⟩
    refine r_iald hx hb hK hP 3 rfl (aq + 1) (lf_e_goBy_32 klineF aq y1 y154 ha hl0 hl1 hl2 hl3 e2 c9 e155) (by decide) y154 e155.symm dX12_goBy_14 ?_
    refine lv_istore_n (lv' := [(3, .int y154), (2, .int (nI 5)), (0, .ref o), (1, .int (nI aq))]) hx hb dX12_goBy_15 rfl hl (by decide) rfl (fun ls hl => ?_)
    refine lv_aload_n hx hb dX12_goBy_16 rfl (lv_at hl 2 rfl) ?_
    refine va_get (D := (dC, dI)) (ci := 12) (v := .ref kline) (C := RX12) (T := TX12) (N := 52) hx hb hts hin12 hown hK hP 0 rfl rfl 43 (by decide) (hts (.fieldLink RX12 163 "PorridgeSeaModel" "line" "[I") (List.mem_of_getElem? (i := 1) rfl)) (fun _ h9 => h9) rfl dX12_goBy_17 ?_
    refine lv_iload_n hx hb dX12_goBy_20 rfl (lv_at hl 3 rfl) ?_
    refine lv_iconst (v := nI 2) hx hb dX12_goBy_21 (by decide) ?_
    refine lv_iadd hx hb dX12_goBy_22 ?_
    refine r_ti (nI (aq + 2)) (nI_add _ _) ?_
    obtain ⟨y156, e157⟩ : ∃ z9, z9 = klineF (aq + 2) := ⟨_, rfl⟩
    refine r_iald hx hb hK hP 3 rfl (aq + 2) (lf_e_goBy_33 klineF aq y1 y154 y156 ha hl0 hl1 hl2 hl3 e2 c9 e155 e157) (by decide) y156 e157.symm dX12_goBy_23 ?_
    refine lv_istore (lv' := [(4, .int y156), (3, .int y154), (2, .int (nI 5)), (0, .ref o), (1, .int (nI aq))]) hx hb dX12_goBy_24 hl (by decide) rfl (fun ls hl => ?_)
    refine lv_iload_n hx hb dX12_goBy_26 rfl (lv_at hl 2 rfl) ?_
    refine lv_iconst (v := nI 5) hx hb dX12_goBy_27 (by decide) ?_
    refine lv_icmp_ne (tgt := 57) hx hb dX12_goBy_28 (by decide) (fun c158 => absurd c158 (by decide)) (fun c158 => ?_)
    refine lv_aload_n hx hb dX12_goBy_31 rfl (lv_at hl 3 rfl) ?_
    refine va_get (D := (dC, dI)) (ci := 12) (v := .ref know) (C := RX12) (T := TX12) (N := 52) hx hb hts hin12 hown hK hP 0 rfl rfl 14 (by decide) (hts (.fieldLink RX12 98 "PorridgeSeaModel" "now" "[I") (List.mem_of_getElem? (i := 2) rfl)) (fun _ h9 => h9) rfl dX12_goBy_32 ?_
    refine lv_bipush (v := nI 67) hx hb dX12_goBy_35 (by decide) ?_
    obtain ⟨y159, e160⟩ : ∃ z9, z9 = knowF 67 := ⟨_, rfl⟩
    refine r_iald hx hb hK hP 1 rfl 67 (by decide) (by decide) y159 e160.symm dX12_goBy_37 ?_
    refine lv_iload_n hx hb dX12_goBy_38 rfl (lv_at hl 1 rfl) ?_
    refine lv_iadd hx hb dX12_goBy_39 ?_
    refine lv_topi (fun y161 e162 => ?_)
    refine lv_sipush (v := nI 400) hx hb dX12_goBy_40 (by decide) ?_
    refine lv_icmp_le (tgt := 49) hx hb dX12_goBy_43 (by decide) (fun c163 => ?_) (fun c163 => ?_)
    · refine lv_aload_n hx hb dX12_goBy_49 rfl (lv_at hl 3 rfl) ?_
      refine lv_iload_n hx hb dX12_goBy_50 rfl (lv_at hl 1 rfl) ?_
      refine r_call_i (wr := [(kpoured, .inl (ky 0, 36, .inl kpouredF)), (kline, .inl (ky 0, 160, .inl klineF))]) (va_runV (As := [.int y154]) (rest := []) ⟨hx, hb, hml, hown, hts⟩ (c_e_passDays l dC dI ky s.heap.size o kthrown ktape ktaped ksize klimit kto kfrom kkind knumber ksign kfault kplace kword ktold know kread kkept ksnaps kaside kname kreadName kkeptName kisKept konces ksnapMany khasCells kpoured kfar ksides ksideMany kwayDays khasWay klines kmet kmetMany ksunk ktrying ksunkMany ksending kfleets ktext ktexts kseed kline kwritten klineMany khasWritten knode knodes konesMany kwithin ktop knowF kn0 y154 iv_ko_0 iv_ko_1 iv_ko_2 iv_ko_3 iv_ko_4 iv_ko_5 iv_ko_6 iv_ko_7 iv_ko_8 iv_ko_9 iv_ko_10 iv_ko_11 iv_ko_12 iv_ko_13 iv_ko_14 ab_now sb_now he0) (cwV 1 hts gX12_goBy_X12_passDays rfl rfl rfl (by decide +kernel) ⟨(Nat.le_of_ble_eq_true rfl), (Nat.le_of_ble_eq_true rfl)⟩) (pre_UV hK hP hD [0, 1] (by decide) rfl (ci := 12) (q0 := 0) rfl rfl) rfl rfl hl.1 rfl (lv_room (Nat.le_of_ble_eq_true rfl)) dX12_goBy_51 ⟨(Nat.le_of_ble_eq_true rfl), (Nat.le_of_ble_eq_true rfl)⟩) hP hD hS hA [0, 1] [2, 3] rfl rfl (by decide) (by decide) (fun r166 u164 H locs p165 hP hD hS => ?_)
      obtain ⟨knowG_167, rfl⟩ : ∃ z, z = u164 := ⟨_, rfl⟩
      try dsimp only at p165
      obtain ⟨p168, p169, p170⟩ := p165
      refine W.widen (k := 0) (n := 0) (Nat.le_of_ble_eq_true rfl) (Nat.le_of_ble_eq_true rfl) ?_
      have hP : va_P (dC, dI) vwCl [(kpoured, .inl (ky 0, 36, .inl kpouredF)), (kline, .inl (ky 0, 160, .inl klineF)), (o, .inr (12, [.int kthrown, .ref ktape, .int (nI ktaped), .int (nI ksize), .int (nI klimit), .int (nI kto), .int (nI kfrom), .int kkind, .int knumber, .int ksign, .int kfault, .int kplace, .long kword, .int ktold, .ref know, .ref kread, .ref kkept, .ref ksnaps, .ref kaside, .ref kname, .ref kreadName, .ref kkeptName, .ref kisKept, .ref konces, .int (nI ksnapMany), .int khasCells, .ref kpoured, .ref kfar, .ref ksides, .int (nI ksideMany), .int kwayDays, .int khasWay, .ref klines, .ref kmet, .int (nI kmetMany), .ref ksunk, .ref ktrying, .int (nI ksunkMany), .int ksending, .int kfleets, .ref ktext, .int (nI ktexts), .int kseed, .ref kline, .ref kwritten, .int (nI klineMany), .int khasWritten, .ref knode, .int (nI knodes), .int (nI konesMany), .int (nI kwithin), .int (nI ktop)])), (know, .inl (ky 0, 373, .inl knowG_167))] H := hP
      have hD : va_D A [(kpoured, .inl (ky 0, 36, .inl kpouredF)), (kline, .inl (ky 0, 160, .inl klineF)), (o, .inr (12, [.int kthrown, .ref ktape, .int (nI ktaped), .int (nI ksize), .int (nI klimit), .int (nI kto), .int (nI kfrom), .int kkind, .int knumber, .int ksign, .int kfault, .int kplace, .long kword, .int ktold, .ref know, .ref kread, .ref kkept, .ref ksnaps, .ref kaside, .ref kname, .ref kreadName, .ref kkeptName, .ref kisKept, .ref konces, .int (nI ksnapMany), .int khasCells, .ref kpoured, .ref kfar, .ref ksides, .int (nI ksideMany), .int kwayDays, .int khasWay, .ref klines, .ref kmet, .int (nI kmetMany), .ref ksunk, .ref ktrying, .int (nI ksunkMany), .int ksending, .int kfleets, .ref ktext, .int (nI ktexts), .int kseed, .ref kline, .ref kwritten, .int (nI klineMany), .int khasWritten, .ref knode, .int (nI knodes), .int (nI konesMany), .int (nI kwithin), .int (nI ktop)])), (know, .inl (ky 0, 373, .inl knowG_167))] := hD
      refine lv_pop hx hb dX12_goBy_54 rfl ?_
      refine lv_iconst (v := nI 0) hx hb dX12_goBy_55 (by decide) ?_
      rw [hQ]
      have hP9 := hP.sub (ws' := [(o, .inr (12, [.int kthrown, .ref ktape, .int (nI ktaped), .int (nI ksize), .int (nI klimit), .int (nI kto), .int (nI kfrom), .int kkind, .int knumber, .int ksign, .int kfault, .int kplace, .long kword, .int ktold, .ref know, .ref kread, .ref kkept, .ref ksnaps, .ref kaside, .ref kname, .ref kreadName, .ref kkeptName, .ref kisKept, .ref konces, .int (nI ksnapMany), .int khasCells, .ref kpoured, .ref kfar, .ref ksides, .int (nI ksideMany), .int kwayDays, .int khasWay, .ref klines, .ref kmet, .int (nI kmetMany), .ref ksunk, .ref ktrying, .int (nI ksunkMany), .int ksending, .int kfleets, .ref ktext, .int (nI ktexts), .int kseed, .ref kline, .ref kwritten, .int (nI klineMany), .int khasWritten, .ref knode, .int (nI knodes), .int (nI konesMany), .int (nI kwithin), .int (nI ktop)])), (know, .inl (ky 0, 373, .inl knowG_167)), (kpoured, .inl (ky 0, 36, .inl kpouredF)), (kline, .inl (ky 0, 160, .inl klineF))]) [2, 3, 0, 1] rfl
      have hD9 := hD.sub (ws' := [(o, .inr (12, [.int kthrown, .ref ktape, .int (nI ktaped), .int (nI ksize), .int (nI klimit), .int (nI kto), .int (nI kfrom), .int kkind, .int knumber, .int ksign, .int kfault, .int kplace, .long kword, .int ktold, .ref know, .ref kread, .ref kkept, .ref ksnaps, .ref kaside, .ref kname, .ref kreadName, .ref kkeptName, .ref kisKept, .ref konces, .int (nI ksnapMany), .int khasCells, .ref kpoured, .ref kfar, .ref ksides, .int (nI ksideMany), .int kwayDays, .int khasWay, .ref klines, .ref kmet, .int (nI kmetMany), .ref ksunk, .ref ktrying, .int (nI ksunkMany), .int ksending, .int kfleets, .ref ktext, .int (nI ktexts), .int kseed, .ref kline, .ref kwritten, .int (nI klineMany), .int khasWritten, .ref knode, .int (nI knodes), .int (nI konesMany), .int (nI kwithin), .int (nI ktop)])), (know, .inl (ky 0, 373, .inl knowG_167)), (kpoured, .inl (ky 0, 36, .inl kpouredF)), (kline, .inl (ky 0, 160, .inl klineF))]) [2, 3, 0, 1] (by decide) rfl
      exact W.iret (v := nI 0) hx hb hr (fun t9 ht9 hW9 => ⟨⟨nI 0, (knowG_167, kpouredF), rfl, ⟨p168, p169, ab_poured, p170⟩, by rw [ht9]; exact hP9, va_K.moved hW9.alike hK, hD9⟩, hS.F ht9⟩) hS.2.2 dX12_goBy_56
    · refine lv_bipush (v := nI 51) hx hb dX12_goBy_46 (by decide) ?_
      rw [hQ]
      exact W.iret (v := nI 51) hx hb hr (fun t9 ht9 hW9 => ⟨⟨nI 51, (knowF, kpouredF), rfl, ⟨ab_now, sb_now, ab_poured, he0⟩, by rw [ht9]; exact hP, va_K.moved hW9.alike hK, hD⟩, hS.F ht9⟩) hS.2.2 dX12_goBy_48
set_option maxRecDepth 20000 in
theorem lf_e_stay_1 (knowF : Nat → Int32) (kn0 : Nat → Int32) (k17 : Nat) (f18 : Nat → Int32) (n26 : Nat) (y43 : Int32) (ab_now : NB knowF) (sb_now : SB knowF) (he0 : HE kn0 knowF) (j20 : k17 ≤ 64) (j21 : NB f18) (j22 : SB f18) (j23 : HE kn0 f18) (hm28 : 64 - k17 < n26 + 1) (c29 : k17 < 64) (e44 : y43 = f18 (67 + k17)) : (67 + k17) < 373 := by
  have b_y43 := ia_b y43
  try simp only [ia_lt, ia_le, ia_eq, ia_m1, ia_0, ia_1, ne_eq, true_and, and_true, false_and, and_false, or_false, false_or, or_true, true_or, not_true_eq_false, not_false_eq_true] at *
  all_goals omega
set_option maxRecDepth 20000 in
theorem lf_e_stay_2 (knowF : Nat → Int32) (kn0 : Nat → Int32) (k17 : Nat) (f18 : Nat → Int32) (f19 : Nat → Int32) (n26 : Nat) (y43 : Int32) (y45 : Int32) (ab_now : NB knowF) (sb_now : SB knowF) (he0 : HE kn0 knowF) (j20 : k17 ≤ 64) (j21 : NB f18) (j22 : SB f18) (j23 : HE kn0 f18) (j24 : AB64 f19) (hm28 : 64 - k17 < n26 + 1) (c29 : k17 < 64) (e44 : y43 = f18 (67 + k17)) (e46 : y45 = f19 k17) : k17 < 64 := by
  have b_y43 := ia_b y43
  have b_y45 := ia_b y45
  try simp only [ia_lt, ia_le, ia_eq, ia_m1, ia_0, ia_1, ne_eq, true_and, and_true, false_and, and_false, or_false, false_or, or_true, true_or, not_true_eq_false, not_false_eq_true] at *
  all_goals omega
set_option maxRecDepth 20000 in
theorem lf_e_stay_3 (knowF : Nat → Int32) (kn0 : Nat → Int32) (k17 : Nat) (f18 : Nat → Int32) (f19 : Nat → Int32) (n26 : Nat) (y43 : Int32) (y45 : Int32) (ab_now : NB knowF) (sb_now : SB knowF) (he0 : HE kn0 knowF) (j20 : k17 ≤ 64) (j21 : NB f18) (j22 : SB f18) (j23 : HE kn0 f18) (j24 : AB64 f19) (hm28 : 64 - k17 < n26 + 1) (c29 : k17 < 64) (e44 : y43 = f18 (67 + k17)) (e46 : y45 = f19 k17) : (67 + k17) < 373 := by
  have b_y43 := ia_b y43
  have b_y45 := ia_b y45
  try simp only [ia_lt, ia_le, ia_eq, ia_m1, ia_0, ia_1, ne_eq, true_and, and_true, false_and, and_false, or_false, false_or, or_true, true_or, not_true_eq_false, not_false_eq_true] at *
  all_goals omega
set_option maxRecDepth 20000 in
theorem lf_e_stay_4 (knowF : Nat → Int32) (kn0 : Nat → Int32) (k17 : Nat) (f18 : Nat → Int32) (f19 : Nat → Int32) (n26 : Nat) (y43 : Int32) (y45 : Int32) (ab_now : NB knowF) (sb_now : SB knowF) (he0 : HE kn0 knowF) (j20 : k17 ≤ 64) (j21 : NB f18) (j22 : SB f18) (j23 : HE kn0 f18) (j24 : AB64 f19) (hm28 : 64 - k17 < n26 + 1) (c29 : k17 < 64) (e44 : y43 = f18 (67 + k17)) (e46 : y45 = f19 k17) : 67 ≤ (67 + k17) := by
  have b_y43 := ia_b y43
  have b_y45 := ia_b y45
  try simp only [ia_lt, ia_le, ia_eq, ia_m1, ia_0, ia_1, ne_eq, true_and, and_true, false_and, and_false, or_false, false_or, or_true, true_or, not_true_eq_false, not_false_eq_true] at *
  all_goals omega
set_option maxRecDepth 20000 in
theorem lf_e_stay_5 (knowF : Nat → Int32) (kn0 : Nat → Int32) (k17 : Nat) (f18 : Nat → Int32) (f19 : Nat → Int32) (n26 : Nat) (y43 : Int32) (y45 : Int32) (g47 : Nat → Int32) (ab_now : NB knowF) (sb_now : SB knowF) (he0 : HE kn0 knowF) (j20 : k17 ≤ 64) (j21 : NB f18) (j22 : SB f18) (j23 : HE kn0 f18) (j24 : AB64 f19) (hm28 : 64 - k17 < n26 + 1) (c29 : k17 < 64) (e44 : y43 = f18 (67 + k17)) (e46 : y45 = f19 k17) (nb49 : NB g47) (sb50 : SB g47) (he51 : HE kn0 g47) : k17 < 64 := by
  have b_y43 := ia_b y43
  have b_y45 := ia_b y45
  try simp only [ia_lt, ia_le, ia_eq, ia_m1, ia_0, ia_1, ne_eq, true_and, and_true, false_and, and_false, or_false, false_or, or_true, true_or, not_true_eq_false, not_false_eq_true] at *
  all_goals omega
set_option maxRecDepth 20000 in
theorem lf_e_stay_6 (knowF : Nat → Int32) (kn0 : Nat → Int32) (k17 : Nat) (f18 : Nat → Int32) (f19 : Nat → Int32) (n26 : Nat) (y43 : Int32) (y45 : Int32) (g47 : Nat → Int32) (ab_now : NB knowF) (sb_now : SB knowF) (he0 : HE kn0 knowF) (j20 : k17 ≤ 64) (j21 : NB f18) (j22 : SB f18) (j23 : HE kn0 f18) (j24 : AB64 f19) (hm28 : 64 - k17 < n26 + 1) (c29 : k17 < 64) (e44 : y43 = f18 (67 + k17)) (e46 : y45 = f19 k17) (nb49 : NB g47) (sb50 : SB g47) (he51 : HE kn0 g47) : (k17 + 1) ≤ 64 := by
  have b_y43 := ia_b y43
  have b_y45 := ia_b y45
  try simp only [ia_lt, ia_le, ia_eq, ia_m1, ia_0, ia_1, ne_eq, true_and, and_true, false_and, and_false, or_false, false_or, or_true, true_or, not_true_eq_false, not_false_eq_true] at *
  all_goals omega
set_option maxRecDepth 20000 in
theorem lf_e_stay_7 (knowF : Nat → Int32) (kn0 : Nat → Int32) (k17 : Nat) (f18 : Nat → Int32) (f19 : Nat → Int32) (n26 : Nat) (y43 : Int32) (y45 : Int32) (g47 : Nat → Int32) (ab_now : NB knowF) (sb_now : SB knowF) (he0 : HE kn0 knowF) (j20 : k17 ≤ 64) (j21 : NB f18) (j22 : SB f18) (j23 : HE kn0 f18) (j24 : AB64 f19) (hm28 : 64 - k17 < n26 + 1) (c29 : k17 < 64) (e44 : y43 = f18 (67 + k17)) (e46 : y45 = f19 k17) (nb49 : NB g47) (sb50 : SB g47) (he51 : HE kn0 g47) : 64 - (k17 + 1) < n26 := by
  have b_y43 := ia_b y43
  have b_y45 := ia_b y45
  try simp only [ia_lt, ia_le, ia_eq, ia_m1, ia_0, ia_1, ne_eq, true_and, and_true, false_and, and_false, or_false, false_or, or_true, true_or, not_true_eq_false, not_false_eq_true] at *
  all_goals omega
set_option maxRecDepth 20000 in
theorem lf_e_stay_8   : 0 ≤ 64 := by
  try simp only [ia_lt, ia_le, ia_eq, ia_m1, ia_0, ia_1, ne_eq, true_and, and_true, false_and, and_false, or_false, false_or, or_true, true_or, not_true_eq_false, not_false_eq_true] at *
  all_goals omega
set_option maxHeartbeats 4000000 in
set_option maxRecDepth 100000 in
theorem c_e_stay (l : Launch) (dC : Nat → ClassId) (dI : Nat → Nat → Nat) (ky : Nat → ClassId) (sz : Nat) (o : Nat) (kthrown : Int32) (ktape : Nat) (ktaped : Nat) (ksize : Nat) (klimit : Nat) (kto : Nat) (kfrom : Nat) (kkind : Int32) (knumber : Int32) (ksign : Int32) (kfault : Int32) (kplace : Int32) (kword : Int64) (ktold : Int32) (know : Nat) (kread : Nat) (kkept : Nat) (ksnaps : Nat) (kaside : Nat) (kname : Nat) (kreadName : Nat) (kkeptName : Nat) (kisKept : Nat) (konces : Nat) (ksnapMany : Nat) (khasCells : Int32) (kpoured : Nat) (kfar : Nat) (ksides : Nat) (ksideMany : Nat) (kwayDays : Int32) (khasWay : Int32) (klines : Nat) (kmet : Nat) (kmetMany : Nat) (ksunk : Nat) (ktrying : Nat) (ksunkMany : Nat) (ksending : Int32) (kfleets : Int32) (ktext : Nat) (ktexts : Nat) (kseed : Int32) (kline : Nat) (kwritten : Nat) (klineMany : Nat) (khasWritten : Int32) (knode : Nat) (knodes : Nat) (konesMany : Nat) (kwithin : Nat) (ktop : Nat) (knowF : Nat → Int32) (kasideF : Nat → Int32) (ksnapsF : Nat → Int32) (kn0 : Nat → Int32) (x : Int32) (iv_ko_0 : ktaped ≤ 940) (iv_ko_1 : ksize ≤ 940) (iv_ko_2 : klimit ≤ 900) (iv_ko_3 : kto ≤ ksize) (iv_ko_4 : kfrom ≤ 940) (iv_ko_5 : ksnapMany ≤ 8) (iv_ko_6 : ksideMany ≤ 36) (iv_ko_7 : kmetMany ≤ 3) (iv_ko_8 : ksunkMany ≤ 36) (iv_ko_9 : ktexts ≤ 64) (iv_ko_10 : klineMany ≤ 40) (iv_ko_11 : knodes ≤ 60) (iv_ko_12 : konesMany ≤ 20) (iv_ko_13 : kwithin ≤ 8) (iv_ko_14 : ktop ≤ 59) (ab_now : NB knowF) (ab_aside : AB64 kasideF) (ab_snaps : AB512 ksnapsF) (sb_now : SB knowF) (he0 : HE kn0 knowF) : Met l yX12_stay wsX12_stay ({ frames := 1, cells := 0, slots := 0, locals := 21 }) (PcU dC dI ky [.ref o, .int x] [(o, .inr (12, [.int kthrown, .ref ktape, .int (nI ktaped), .int (nI ksize), .int (nI klimit), .int (nI kto), .int (nI kfrom), .int kkind, .int knumber, .int ksign, .int kfault, .int kplace, .long kword, .int ktold, .ref know, .ref kread, .ref kkept, .ref ksnaps, .ref kaside, .ref kname, .ref kreadName, .ref kkeptName, .ref kisKept, .ref konces, .int (nI ksnapMany), .int khasCells, .ref kpoured, .ref kfar, .ref ksides, .int (nI ksideMany), .int kwayDays, .int khasWay, .ref klines, .ref kmet, .int (nI kmetMany), .ref ksunk, .ref ktrying, .int (nI ksunkMany), .int ksending, .int kfleets, .ref ktext, .int (nI ktexts), .int kseed, .ref kline, .ref kwritten, .int (nI klineMany), .int khasWritten, .ref knode, .int (nI knodes), .int (nI konesMany), .int (nI kwithin), .int (nI ktop)])), (know, .inl (ky 0, 373, .inl knowF)), (kaside, .inl (ky 0, 64, .inl kasideF)), (ksnaps, .inl (ky 0, 512, .inl ksnapsF))] sz) (va_Qv (fun (u : Nat × (Nat → Int32) × (Nat → Int32) × (Nat → Int32)) => match u with | (ksnapManyG, knowG, kasideG, ksnapsG) => (ksnapManyG ≤ 8) ∧ (NB knowG) ∧ (SB knowG) ∧ (AB64 kasideG) ∧ (AB512 ksnapsG) ∧ (HE kn0 knowG)) (BU dC dI ky (fun (u : Nat × (Nat → Int32) × (Nat → Int32) × (Nat → Int32)) => match u with | (ksnapManyG, knowG, kasideG, ksnapsG) => [(o, .inr (12, [.int kthrown, .ref ktape, .int (nI ktaped), .int (nI ksize), .int (nI klimit), .int (nI kto), .int (nI kfrom), .int kkind, .int knumber, .int ksign, .int kfault, .int kplace, .long kword, .int ktold, .ref know, .ref kread, .ref kkept, .ref ksnaps, .ref kaside, .ref kname, .ref kreadName, .ref kkeptName, .ref kisKept, .ref konces, .int (nI ksnapManyG), .int khasCells, .ref kpoured, .ref kfar, .ref ksides, .int (nI ksideMany), .int kwayDays, .int khasWay, .ref klines, .ref kmet, .int (nI kmetMany), .ref ksunk, .ref ktrying, .int (nI ksunkMany), .int ksending, .int kfleets, .ref ktext, .int (nI ktexts), .int kseed, .ref kline, .ref kwritten, .int (nI klineMany), .int khasWritten, .ref knode, .int (nI knodes), .int (nI konesMany), .int (nI kwithin), .int (nI ktop)])), (know, .inl (ky 0, 373, .inl knowG)), (kaside, .inl (ky 0, 64, .inl kasideG)), (ksnaps, .inl (ky 0, 512, .inl ksnapsG))]) (va_A [(o, .inr (12, [.int kthrown, .ref ktape, .int (nI ktaped), .int (nI ksize), .int (nI klimit), .int (nI kto), .int (nI kfrom), .int kkind, .int knumber, .int ksign, .int kfault, .int kplace, .long kword, .int ktold, .ref know, .ref kread, .ref kkept, .ref ksnaps, .ref kaside, .ref kname, .ref kreadName, .ref kkeptName, .ref kisKept, .ref konces, .int (nI ksnapMany), .int khasCells, .ref kpoured, .ref kfar, .ref ksides, .int (nI ksideMany), .int kwayDays, .int khasWay, .ref klines, .ref kmet, .int (nI kmetMany), .ref ksunk, .ref ktrying, .int (nI ksunkMany), .int ksending, .int kfleets, .ref ktext, .int (nI ktexts), .int kseed, .ref kline, .ref kwritten, .int (nI klineMany), .int khasWritten, .ref knode, .int (nI knodes), .int (nI konesMany), .int (nI kwithin), .int (nI ktop)])), (know, .inl (ky 0, 373, .inl knowF)), (kaside, .inl (ky 0, 64, .inl kasideF)), (ksnaps, .inl (ky 0, 512, .inl ksnapsF))] sz)) (va_A [(o, .inr (12, [.int kthrown, .ref ktape, .int (nI ktaped), .int (nI ksize), .int (nI klimit), .int (nI kto), .int (nI kfrom), .int kkind, .int knumber, .int ksign, .int kfault, .int kplace, .long kword, .int ktold, .ref know, .ref kread, .ref kkept, .ref ksnaps, .ref kaside, .ref kname, .ref kreadName, .ref kkeptName, .ref kisKept, .ref konces, .int (nI ksnapMany), .int khasCells, .ref kpoured, .ref kfar, .ref ksides, .int (nI ksideMany), .int kwayDays, .int khasWay, .ref klines, .ref kmet, .int (nI kmetMany), .ref ksunk, .ref ktrying, .int (nI ksunkMany), .int ksending, .int kfleets, .ref ktext, .int (nI ktexts), .int kseed, .ref kline, .ref kwritten, .int (nI klineMany), .int khasWritten, .ref knode, .int (nI knodes), .int (nI konesMany), .int (nI kwithin), .int (nI ktop)])), (know, .inl (ky 0, 373, .inl knowF)), (kaside, .inl (ky 0, 64, .inl kasideF)), (ksnaps, .inl (ky 0, 512, .inl ksnapsF))] sz)) 0 0 (va_A [(o, .inr (12, [.int kthrown, .ref ktape, .int (nI ktaped), .int (nI ksize), .int (nI klimit), .int (nI kto), .int (nI kfrom), .int kkind, .int knumber, .int ksign, .int kfault, .int kplace, .long kword, .int ktold, .ref know, .ref kread, .ref kkept, .ref ksnaps, .ref kaside, .ref kname, .ref kreadName, .ref kkeptName, .ref kisKept, .ref konces, .int (nI ksnapMany), .int khasCells, .ref kpoured, .ref kfar, .ref ksides, .int (nI ksideMany), .int kwayDays, .int khasWay, .ref klines, .ref kmet, .int (nI kmetMany), .ref ksunk, .ref ktrying, .int (nI ksunkMany), .int ksending, .int kfleets, .ref ktext, .int (nI ktexts), .int kseed, .ref kline, .ref kwritten, .int (nI klineMany), .int khasWritten, .ref knode, .int (nI knodes), .int (nI konesMany), .int (nI kwithin), .int (nI ktop)])), (know, .inl (ky 0, 373, .inl knowF)), (kaside, .inl (ky 0, 64, .inl kasideF)), (ksnaps, .inl (ky 0, 512, .inl ksnapsF))] sz) := by
  refine Met.ofW (cc := cX12_stay) (maxL := 4) (ret := none) (by decide) rfl ?_
  intro p e s m args below meth c s₁ B hml hv
  obtain ⟨rfl, hsz, hP, hK, hD0⟩ := hv
  have hx := B.exec
  have hb := B.bytes
  have hr := B.returns
  have hts := atoms_spec (ws := wsX12_stay) B.pre
  have hown : s.vm.findClass RX12 = some m.cls := findClass_of_methodNamed B.named
  have hlocks := B.notSynchronized
  have hin12 : ∀ w ∈ u_ws RX12 TX12 52, w ∈ wsX12_stay := by decide +kernel
  subst hsz
  have hD := hD0.self (sz := s.heap.size)
  generalize hAe : va_A [(o, .inr (12, [.int kthrown, .ref ktape, .int (nI ktaped), .int (nI ksize), .int (nI klimit), .int (nI kto), .int (nI kfrom), .int kkind, .int knumber, .int ksign, .int kfault, .int kplace, .long kword, .int ktold, .ref know, .ref kread, .ref kkept, .ref ksnaps, .ref kaside, .ref kname, .ref kreadName, .ref kkeptName, .ref kisKept, .ref konces, .int (nI ksnapMany), .int khasCells, .ref kpoured, .ref kfar, .ref ksides, .int (nI ksideMany), .int kwayDays, .int khasWay, .ref klines, .ref kmet, .int (nI kmetMany), .ref ksunk, .ref ktrying, .int (nI ksunkMany), .int ksending, .int kfleets, .ref ktext, .int (nI ktexts), .int kseed, .ref kline, .ref kwritten, .int (nI klineMany), .int khasWritten, .ref knode, .int (nI knodes), .int (nI konesMany), .int (nI kwithin), .int (nI ktop)])), (know, .inl (ky 0, 373, .inl knowF)), (kaside, .inl (ky 0, 64, .inl kasideF)), (ksnaps, .inl (ky 0, 512, .inl ksnapsF))] s.heap.size = A at hD ⊢
  have hA : ∀ q : Nat, s.heap.size ≤ q → A q := fun q h => by rw [← hAe]; exact Or.inr h
  have hS : va_S A s.heap s.heap [] := va_S.rf
  have hl := lv_entry ([.ref o, .int x]) (n := 4) (Nat.le_of_ble_eq_true rfl)
  rw [lg_entry_eq]
  generalize (lg_sl ([.ref o, .int x]) ++ List.replicate (4 - (lg_sl ([.ref o, .int x])).length) Slot.unset).toArray = ls at hl ⊢
  have hl : lv_has ls 4 [(0, .ref o), (1, .int x)] := hl
  refine q_name (fun Q hQ => ?_)
  generalize ([.ref o, .int x] : List Value).toArray = args at hts hQ ⊢
  refine lv_iconst (v := nI 0) hx hb dX12_stay_0 (by decide) ?_
  refine lv_istore_n (lv' := [(2, .int (nI 0)), (0, .ref o), (1, .int x)]) hx hb dX12_stay_1 rfl hl (by decide) rfl (fun ls hl => ?_)
  have hL25 : ∀ (n26 : Nat) (k17 : Nat) (f18 : Nat → Int32) (f19 : Nat → Int32), (k17 ≤ 64) → (NB f18) → (SB f18) → (HE kn0 f18) → (AB64 f19) → 64 - k17 < n26 → ∀ (H : Heap) (locs : List Loc) (ls : Array Slot), va_P (dC, dI) vwCl [(o, .inr (12, [.int kthrown, .ref ktape, .int (nI ktaped), .int (nI ksize), .int (nI klimit), .int (nI kto), .int (nI kfrom), .int kkind, .int knumber, .int ksign, .int kfault, .int kplace, .long kword, .int ktold, .ref know, .ref kread, .ref kkept, .ref ksnaps, .ref kaside, .ref kname, .ref kreadName, .ref kkeptName, .ref kisKept, .ref konces, .int (nI ksnapMany), .int khasCells, .ref kpoured, .ref kfar, .ref ksides, .int (nI ksideMany), .int kwayDays, .int khasWay, .ref klines, .ref kmet, .int (nI kmetMany), .ref ksunk, .ref ktrying, .int (nI ksunkMany), .int ksending, .int kfleets, .ref ktext, .int (nI ktexts), .int kseed, .ref kline, .ref kwritten, .int (nI klineMany), .int khasWritten, .ref knode, .int (nI knodes), .int (nI konesMany), .int (nI kwithin), .int (nI ktop)])), (know, .inl (ky 0, 373, .inl f18)), (kaside, .inl (ky 0, 64, .inl f19)), (ksnaps, .inl (ky 0, 512, .inl ksnapsF))] H → va_D A [(o, .inr (12, [.int kthrown, .ref ktape, .int (nI ktaped), .int (nI ksize), .int (nI klimit), .int (nI kto), .int (nI kfrom), .int kkind, .int knumber, .int ksign, .int kfault, .int kplace, .long kword, .int ktold, .ref know, .ref kread, .ref kkept, .ref ksnaps, .ref kaside, .ref kname, .ref kreadName, .ref kkeptName, .ref kisKept, .ref konces, .int (nI ksnapMany), .int khasCells, .ref kpoured, .ref kfar, .ref ksides, .int (nI ksideMany), .int kwayDays, .int khasWay, .ref klines, .ref kmet, .int (nI kmetMany), .ref ksunk, .ref ktrying, .int (nI ksunkMany), .int ksending, .int kfleets, .ref ktext, .int (nI ktexts), .int kseed, .ref kline, .ref kwritten, .int (nI klineMany), .int khasWritten, .ref knode, .int (nI knodes), .int (nI konesMany), .int (nI kwithin), .int (nI ktop)])), (know, .inl (ky 0, 373, .inl f18)), (kaside, .inl (ky 0, 64, .inl f19)), (ksnaps, .inl (ky 0, 512, .inl ksnapsF))] → va_S A s.heap H locs → lv_has ls 4 [(2, .int (nI k17)), (0, .ref o), (1, .int x)] → W p l e (headSpec wsX12_stay ({ frames := 1, cells := 0, slots := 0, locals := 21 })).room s m args below meth c H locs 0 0 Q (F0 m 2 ls []) := by
    intro n26
    induction n26 with
    | zero => intro k17 f18 f19 _ _ _ _ _ h9; exact absurd h9 (Nat.not_lt_zero _)
    | succ n26 ih27 =>
      intro k17 f18 f19 j20 j21 j22 j23 j24 hm28 H locs ls hP hD hS hl
      refine lv_iload_n hx hb dX12_stay_2 rfl (lv_at hl 0 rfl) ?_
      refine lv_bipush (v := nI 64) hx hb dX12_stay_3 (by decide) ?_
      refine n_icmp_ge (x := k17) (y := 64) (tgt := 46) hx hb (by omega) (by omega) dX12_stay_5 (by decide) (fun c29 => ?_) (fun c29 => ?_)
      · refine lv_iload_n hx hb dX12_stay_46 rfl (lv_at hl 2 rfl) ?_
        refine lv_if_ne (tgt := 51) hx hb dX12_stay_47 (by decide) (fun c30 => ?_) (fun c30 => ?_)
        · refine lv_aload_n hx hb dX12_stay_51 rfl (lv_at hl 1 rfl) ?_
          refine r_call_v (wr := [(kaside, .inl (ky 0, 64, .inl f19))]) (va_runV (As := []) (rest := []) ⟨hx, hb, hml, hown, hts⟩ (c_x_snap l dC dI ky H.size o kthrown ktape ktaped ksize klimit kto kfrom kkind knumber ksign kfault kplace kword ktold know kread kkept ksnaps kaside kname kreadName kkeptName kisKept konces ksnapMany khasCells kpoured kfar ksides ksideMany kwayDays khasWay klines kmet kmetMany ksunk ktrying ksunkMany ksending kfleets ktext ktexts kseed kline kwritten klineMany khasWritten knode knodes konesMany kwithin ktop f18 ksnapsF iv_ko_0 iv_ko_1 iv_ko_2 iv_ko_3 iv_ko_4 iv_ko_5 iv_ko_6 iv_ko_7 iv_ko_8 iv_ko_9 iv_ko_10 iv_ko_11 iv_ko_12 iv_ko_13 iv_ko_14 j21 ab_snaps) (cwV 0 hts gX12_stay_X12_snap rfl rfl rfl (by decide +kernel) ⟨(Nat.le_of_ble_eq_true rfl), (Nat.le_of_ble_eq_true rfl)⟩) (pre_UV hK hP hD [0, 1, 3] (by decide) rfl (ci := 12) (q0 := 0) rfl rfl) rfl rfl hl.1 rfl (lv_room (Nat.le_of_ble_eq_true rfl)) dX12_stay_52 ⟨(Nat.le_of_ble_eq_true rfl), (Nat.le_of_ble_eq_true rfl)⟩) hP hD hS hA [0, 1, 3] [2] rfl rfl (by decide) (by decide) (fun  u31 H locs p32 hP hD hS => ?_)
          obtain ⟨ksnapManyG_33, ksnapsG_34⟩ := u31
          try dsimp only at p32
          obtain ⟨p35, p36⟩ := p32
          refine W.widen (k := 0) (n := 0) (Nat.le_of_ble_eq_true rfl) (Nat.le_of_ble_eq_true rfl) ?_
          have hP : va_P (dC, dI) vwCl [(kaside, .inl (ky 0, 64, .inl f19)), (o, .inr (12, [.int kthrown, .ref ktape, .int (nI ktaped), .int (nI ksize), .int (nI klimit), .int (nI kto), .int (nI kfrom), .int kkind, .int knumber, .int ksign, .int kfault, .int kplace, .long kword, .int ktold, .ref know, .ref kread, .ref kkept, .ref ksnaps, .ref kaside, .ref kname, .ref kreadName, .ref kkeptName, .ref kisKept, .ref konces, .int (nI ksnapManyG_33), .int khasCells, .ref kpoured, .ref kfar, .ref ksides, .int (nI ksideMany), .int kwayDays, .int khasWay, .ref klines, .ref kmet, .int (nI kmetMany), .ref ksunk, .ref ktrying, .int (nI ksunkMany), .int ksending, .int kfleets, .ref ktext, .int (nI ktexts), .int kseed, .ref kline, .ref kwritten, .int (nI klineMany), .int khasWritten, .ref knode, .int (nI knodes), .int (nI konesMany), .int (nI kwithin), .int (nI ktop)])), (know, .inl (ky 0, 373, .inl f18)), (ksnaps, .inl (ky 0, 512, .inl ksnapsG_34))] H := hP
          have hD : va_D A [(kaside, .inl (ky 0, 64, .inl f19)), (o, .inr (12, [.int kthrown, .ref ktape, .int (nI ktaped), .int (nI ksize), .int (nI klimit), .int (nI kto), .int (nI kfrom), .int kkind, .int knumber, .int ksign, .int kfault, .int kplace, .long kword, .int ktold, .ref know, .ref kread, .ref kkept, .ref ksnaps, .ref kaside, .ref kname, .ref kreadName, .ref kkeptName, .ref kisKept, .ref konces, .int (nI ksnapManyG_33), .int khasCells, .ref kpoured, .ref kfar, .ref ksides, .int (nI ksideMany), .int kwayDays, .int khasWay, .ref klines, .ref kmet, .int (nI kmetMany), .ref ksunk, .ref ktrying, .int (nI ksunkMany), .int ksending, .int kfleets, .ref ktext, .int (nI ktexts), .int kseed, .ref kline, .ref kwritten, .int (nI klineMany), .int khasWritten, .ref knode, .int (nI knodes), .int (nI konesMany), .int (nI kwithin), .int (nI ktop)])), (know, .inl (ky 0, 373, .inl f18)), (ksnaps, .inl (ky 0, 512, .inl ksnapsG_34))] := hD
          refine lv_aload_n hx hb dX12_stay_55 rfl (lv_at hl 1 rfl) ?_
          refine r_call_v (wr := [(ksnaps, .inl (ky 0, 512, .inl ksnapsG_34))]) (va_runV (As := []) (rest := []) ⟨hx, hb, hml, hown, hts⟩ (c_e_takeBack l dC dI ky H.size o kthrown ktape ktaped ksize klimit kto kfrom kkind knumber ksign kfault kplace kword ktold know kread kkept ksnaps kaside kname kreadName kkeptName kisKept konces ksnapManyG_33 khasCells kpoured kfar ksides ksideMany kwayDays khasWay klines kmet kmetMany ksunk ktrying ksunkMany ksending kfleets ktext ktexts kseed kline kwritten klineMany khasWritten knode knodes konesMany kwithin ktop f18 f19 kn0 iv_ko_0 iv_ko_1 iv_ko_2 iv_ko_3 iv_ko_4 p35 iv_ko_6 iv_ko_7 iv_ko_8 iv_ko_9 iv_ko_10 iv_ko_11 iv_ko_12 iv_ko_13 iv_ko_14 j21 j24 j22 j23) (cwV 0 hts gX12_stay_X12_takeBack rfl rfl rfl (by decide +kernel) ⟨(Nat.le_of_ble_eq_true rfl), (Nat.le_of_ble_eq_true rfl)⟩) (pre_UV hK hP hD [1, 2, 0] (by decide) rfl (ci := 12) (q0 := 1) rfl rfl) rfl rfl hl.1 rfl (lv_room (Nat.le_of_ble_eq_true rfl)) dX12_stay_56 ⟨(Nat.le_of_ble_eq_true rfl), (Nat.le_of_ble_eq_true rfl)⟩) hP hD hS hA [1, 2, 0] [3] rfl rfl (by decide) (by decide) (fun  u37 H locs p38 hP hD hS => ?_)
          obtain ⟨knowG_39, rfl⟩ : ∃ z, z = u37 := ⟨_, rfl⟩
          try dsimp only at p38
          obtain ⟨p40, p41, p42⟩ := p38
          refine W.widen (k := 0) (n := 0) (Nat.le_of_ble_eq_true rfl) (Nat.le_of_ble_eq_true rfl) ?_
          have hP : va_P (dC, dI) vwCl [(ksnaps, .inl (ky 0, 512, .inl ksnapsG_34)), (o, .inr (12, [.int kthrown, .ref ktape, .int (nI ktaped), .int (nI ksize), .int (nI klimit), .int (nI kto), .int (nI kfrom), .int kkind, .int knumber, .int ksign, .int kfault, .int kplace, .long kword, .int ktold, .ref know, .ref kread, .ref kkept, .ref ksnaps, .ref kaside, .ref kname, .ref kreadName, .ref kkeptName, .ref kisKept, .ref konces, .int (nI ksnapManyG_33), .int khasCells, .ref kpoured, .ref kfar, .ref ksides, .int (nI ksideMany), .int kwayDays, .int khasWay, .ref klines, .ref kmet, .int (nI kmetMany), .ref ksunk, .ref ktrying, .int (nI ksunkMany), .int ksending, .int kfleets, .ref ktext, .int (nI ktexts), .int kseed, .ref kline, .ref kwritten, .int (nI klineMany), .int khasWritten, .ref knode, .int (nI knodes), .int (nI konesMany), .int (nI kwithin), .int (nI ktop)])), (know, .inl (ky 0, 373, .inl knowG_39)), (kaside, .inl (ky 0, 64, .inl f19))] H := hP
          have hD : va_D A [(ksnaps, .inl (ky 0, 512, .inl ksnapsG_34)), (o, .inr (12, [.int kthrown, .ref ktape, .int (nI ktaped), .int (nI ksize), .int (nI klimit), .int (nI kto), .int (nI kfrom), .int kkind, .int knumber, .int ksign, .int kfault, .int kplace, .long kword, .int ktold, .ref know, .ref kread, .ref kkept, .ref ksnaps, .ref kaside, .ref kname, .ref kreadName, .ref kkeptName, .ref kisKept, .ref konces, .int (nI ksnapManyG_33), .int khasCells, .ref kpoured, .ref kfar, .ref ksides, .int (nI ksideMany), .int kwayDays, .int khasWay, .ref klines, .ref kmet, .int (nI kmetMany), .ref ksunk, .ref ktrying, .int (nI ksunkMany), .int ksending, .int kfleets, .ref ktext, .int (nI ktexts), .int kseed, .ref kline, .ref kwritten, .int (nI klineMany), .int khasWritten, .ref knode, .int (nI knodes), .int (nI konesMany), .int (nI kwithin), .int (nI ktop)])), (know, .inl (ky 0, 373, .inl knowG_39)), (kaside, .inl (ky 0, 64, .inl f19))] := hD
          rw [hQ]
          have hP9 := hP.sub (ws' := [(o, .inr (12, [.int kthrown, .ref ktape, .int (nI ktaped), .int (nI ksize), .int (nI klimit), .int (nI kto), .int (nI kfrom), .int kkind, .int knumber, .int ksign, .int kfault, .int kplace, .long kword, .int ktold, .ref know, .ref kread, .ref kkept, .ref ksnaps, .ref kaside, .ref kname, .ref kreadName, .ref kkeptName, .ref kisKept, .ref konces, .int (nI ksnapManyG_33), .int khasCells, .ref kpoured, .ref kfar, .ref ksides, .int (nI ksideMany), .int kwayDays, .int khasWay, .ref klines, .ref kmet, .int (nI kmetMany), .ref ksunk, .ref ktrying, .int (nI ksunkMany), .int ksending, .int kfleets, .ref ktext, .int (nI ktexts), .int kseed, .ref kline, .ref kwritten, .int (nI klineMany), .int khasWritten, .ref knode, .int (nI knodes), .int (nI konesMany), .int (nI kwithin), .int (nI ktop)])), (know, .inl (ky 0, 373, .inl knowG_39)), (kaside, .inl (ky 0, 64, .inl f19)), (ksnaps, .inl (ky 0, 512, .inl ksnapsG_34))]) [1, 2, 3, 0] rfl
          have hD9 := hD.sub (ws' := [(o, .inr (12, [.int kthrown, .ref ktape, .int (nI ktaped), .int (nI ksize), .int (nI klimit), .int (nI kto), .int (nI kfrom), .int kkind, .int knumber, .int ksign, .int kfault, .int kplace, .long kword, .int ktold, .ref know, .ref kread, .ref kkept, .ref ksnaps, .ref kaside, .ref kname, .ref kreadName, .ref kkeptName, .ref kisKept, .ref konces, .int (nI ksnapManyG_33), .int khasCells, .ref kpoured, .ref kfar, .ref ksides, .int (nI ksideMany), .int kwayDays, .int khasWay, .ref klines, .ref kmet, .int (nI kmetMany), .ref ksunk, .ref ktrying, .int (nI ksunkMany), .int ksending, .int kfleets, .ref ktext, .int (nI ktexts), .int kseed, .ref kline, .ref kwritten, .int (nI klineMany), .int khasWritten, .ref knode, .int (nI knodes), .int (nI konesMany), .int (nI kwithin), .int (nI ktop)])), (know, .inl (ky 0, 373, .inl knowG_39)), (kaside, .inl (ky 0, 64, .inl f19)), (ksnaps, .inl (ky 0, 512, .inl ksnapsG_34))]) [1, 2, 3, 0] (by decide) rfl
          exact W.vret hx hb hr (fun t9 ht9 hW9 => ⟨⟨(ksnapManyG_33, knowG_39, f19, ksnapsG_34), rfl, ⟨p35, p40, p41, j24, p36, p42⟩, by rw [ht9]; exact hP9, va_K.moved hW9.alike hK, hD9⟩, hS.F ht9⟩) hS.2.2 dX12_stay_59
        · rw [hQ]
          exact W.vret hx hb hr (fun t9 ht9 hW9 => ⟨⟨(ksnapMany, f18, f19, ksnapsF), rfl, ⟨iv_ko_5, j21, j22, j24, ab_snaps, j23⟩, by rw [ht9]; exact hP, va_K.moved hW9.alike hK, hD⟩, hS.F ht9⟩) hS.2.2 dX12_stay_50
      · refine lv_aload_n hx hb dX12_stay_8 rfl (lv_at hl 1 rfl) ?_
        refine va_get (D := (dC, dI)) (ci := 12) (v := .ref know) (C := RX12) (T := TX12) (N := 52) hx hb hts hin12 hown hK hP 0 rfl rfl 14 (by decide) (hts (.fieldLink RX12 98 "PorridgeSeaModel" "now" "[I") (List.mem_of_getElem? (i := 1) rfl)) (fun _ h9 => h9) rfl dX12_stay_9 ?_
        refine lv_bipush (v := nI 67) hx hb dX12_stay_12 (by decide) ?_
        refine lv_iload_n hx hb dX12_stay_14 rfl (lv_at hl 0 rfl) ?_
        refine lv_iadd hx hb dX12_stay_15 ?_
        refine r_ti (nI (67 + k17)) (nI_add _ _) ?_
        obtain ⟨y43, e44⟩ : ∃ z9, z9 = f18 (67 + k17) := ⟨_, rfl⟩
        refine r_iald hx hb hK hP 1 rfl (67 + k17) (lf_e_stay_1 knowF kn0 k17 f18 n26 y43 ab_now sb_now he0 j20 j21 j22 j23 hm28 c29 e44) (by decide) y43 e44.symm dX12_stay_16 ?_
        refine lv_istore_n (lv' := [(3, .int y43), (2, .int (nI k17)), (0, .ref o), (1, .int x)]) hx hb dX12_stay_17 rfl hl (by decide) rfl (fun ls hl => ?_)
        refine lv_aload_n hx hb dX12_stay_18 rfl (lv_at hl 2 rfl) ?_
        refine va_get (D := (dC, dI)) (ci := 12) (v := .ref know) (C := RX12) (T := TX12) (N := 52) hx hb hts hin12 hown hK hP 0 rfl rfl 14 (by decide) (hts (.fieldLink RX12 98 "PorridgeSeaModel" "now" "[I") (List.mem_of_getElem? (i := 1) rfl)) (fun _ h9 => h9) rfl dX12_stay_19 ?_
        refine lv_bipush (v := nI 67) hx hb dX12_stay_22 (by decide) ?_
        refine lv_iload_n hx hb dX12_stay_24 rfl (lv_at hl 1 rfl) ?_
        refine lv_iadd hx hb dX12_stay_25 ?_
        refine r_ti (nI (67 + k17)) (nI_add _ _) ?_
        refine lv_aload_n hx hb dX12_stay_26 rfl (lv_at hl 2 rfl) ?_
        refine va_get (D := (dC, dI)) (ci := 12) (v := .ref kaside) (C := RX12) (T := TX12) (N := 52) hx hb hts hin12 hown hK hP 0 rfl rfl 18 (by decide) (hts (.fieldLink RX12 110 "PorridgeSeaModel" "aside" "[I") (List.mem_of_getElem? (i := 2) rfl)) (fun _ h9 => h9) rfl dX12_stay_27 ?_
        refine lv_iload_n hx hb dX12_stay_30 rfl (lv_at hl 1 rfl) ?_
        obtain ⟨y45, e46⟩ : ∃ z9, z9 = f19 k17 := ⟨_, rfl⟩
        refine r_iald hx hb hK hP 2 rfl k17 (lf_e_stay_2 knowF kn0 k17 f18 f19 n26 y43 y45 ab_now sb_now he0 j20 j21 j22 j23 j24 hm28 c29 e44 e46) (by decide) y45 e46.symm dX12_stay_31 ?_
        refine r_iast (x := y45) hx hb hK hP hD hS 1 rfl (67 + k17) (lf_e_stay_3 knowF kn0 k17 f18 f19 n26 y43 y45 ab_now sb_now he0 j20 j21 j22 j23 j24 hm28 c29 e44 e46) (by decide) dX12_stay_32 (fun H locs hP hD hS => ?_)
        obtain ⟨g47, e48⟩ : ∃ z9, z9 = upd f18 (67 + k17) y45 := ⟨_, rfl⟩
        rw [← e48] at hP hD
        have nb49 : NB g47 := by rw [e48]; rw [e46]; exact nb_back j21 j24 _ (by omega)
        have sb50 : SB g47 := by rw [e48]; exact SB_lo j22 _ _ (by omega)
        have he51 : HE kn0 g47 := by rw [e48]; exact HE_upd j23 (lf_e_stay_4 knowF kn0 k17 f18 f19 n26 y43 y45 ab_now sb_now he0 j20 j21 j22 j23 j24 hm28 c29 e44 e46) _
        have hP : va_P (dC, dI) vwCl [(o, .inr (12, [.int kthrown, .ref ktape, .int (nI ktaped), .int (nI ksize), .int (nI klimit), .int (nI kto), .int (nI kfrom), .int kkind, .int knumber, .int ksign, .int kfault, .int kplace, .long kword, .int ktold, .ref know, .ref kread, .ref kkept, .ref ksnaps, .ref kaside, .ref kname, .ref kreadName, .ref kkeptName, .ref kisKept, .ref konces, .int (nI ksnapMany), .int khasCells, .ref kpoured, .ref kfar, .ref ksides, .int (nI ksideMany), .int kwayDays, .int khasWay, .ref klines, .ref kmet, .int (nI kmetMany), .ref ksunk, .ref ktrying, .int (nI ksunkMany), .int ksending, .int kfleets, .ref ktext, .int (nI ktexts), .int kseed, .ref kline, .ref kwritten, .int (nI klineMany), .int khasWritten, .ref knode, .int (nI knodes), .int (nI konesMany), .int (nI kwithin), .int (nI ktop)])), (know, .inl (ky 0, 373, .inl g47)), (kaside, .inl (ky 0, 64, .inl f19)), (ksnaps, .inl (ky 0, 512, .inl ksnapsF))] H := hP
        have hD : va_D A [(o, .inr (12, [.int kthrown, .ref ktape, .int (nI ktaped), .int (nI ksize), .int (nI klimit), .int (nI kto), .int (nI kfrom), .int kkind, .int knumber, .int ksign, .int kfault, .int kplace, .long kword, .int ktold, .ref know, .ref kread, .ref kkept, .ref ksnaps, .ref kaside, .ref kname, .ref kreadName, .ref kkeptName, .ref kisKept, .ref konces, .int (nI ksnapMany), .int khasCells, .ref kpoured, .ref kfar, .ref ksides, .int (nI ksideMany), .int kwayDays, .int khasWay, .ref klines, .ref kmet, .int (nI kmetMany), .ref ksunk, .ref ktrying, .int (nI ksunkMany), .int ksending, .int kfleets, .ref ktext, .int (nI ktexts), .int kseed, .ref kline, .ref kwritten, .int (nI klineMany), .int khasWritten, .ref knode, .int (nI knodes), .int (nI konesMany), .int (nI kwithin), .int (nI ktop)])), (know, .inl (ky 0, 373, .inl g47)), (kaside, .inl (ky 0, 64, .inl f19)), (ksnaps, .inl (ky 0, 512, .inl ksnapsF))] := hD
        refine lv_aload_n hx hb dX12_stay_33 rfl (lv_at hl 2 rfl) ?_
        refine va_get (D := (dC, dI)) (ci := 12) (v := .ref kaside) (C := RX12) (T := TX12) (N := 52) hx hb hts hin12 hown hK hP 0 rfl rfl 18 (by decide) (hts (.fieldLink RX12 110 "PorridgeSeaModel" "aside" "[I") (List.mem_of_getElem? (i := 2) rfl)) (fun _ h9 => h9) rfl dX12_stay_34 ?_
        refine lv_iload_n hx hb dX12_stay_37 rfl (lv_at hl 1 rfl) ?_
        refine lv_iload_n hx hb dX12_stay_38 rfl (lv_at hl 0 rfl) ?_
        refine r_iast (x := y43) hx hb hK hP hD hS 2 rfl k17 (lf_e_stay_5 knowF kn0 k17 f18 f19 n26 y43 y45 g47 ab_now sb_now he0 j20 j21 j22 j23 j24 hm28 c29 e44 e46 nb49 sb50 he51) (by decide) dX12_stay_39 (fun H locs hP hD hS => ?_)
        obtain ⟨g52, e53⟩ : ∃ z9, z9 = upd f19 k17 y43 := ⟨_, rfl⟩
        rw [← e53] at hP hD
        have nb54 : AB64 g52 := by rw [e53]; rw [e44]; exact ab64_aside j24 j21 _ (by omega)
        have hP : va_P (dC, dI) vwCl [(o, .inr (12, [.int kthrown, .ref ktape, .int (nI ktaped), .int (nI ksize), .int (nI klimit), .int (nI kto), .int (nI kfrom), .int kkind, .int knumber, .int ksign, .int kfault, .int kplace, .long kword, .int ktold, .ref know, .ref kread, .ref kkept, .ref ksnaps, .ref kaside, .ref kname, .ref kreadName, .ref kkeptName, .ref kisKept, .ref konces, .int (nI ksnapMany), .int khasCells, .ref kpoured, .ref kfar, .ref ksides, .int (nI ksideMany), .int kwayDays, .int khasWay, .ref klines, .ref kmet, .int (nI kmetMany), .ref ksunk, .ref ktrying, .int (nI ksunkMany), .int ksending, .int kfleets, .ref ktext, .int (nI ktexts), .int kseed, .ref kline, .ref kwritten, .int (nI klineMany), .int khasWritten, .ref knode, .int (nI knodes), .int (nI konesMany), .int (nI kwithin), .int (nI ktop)])), (know, .inl (ky 0, 373, .inl g47)), (kaside, .inl (ky 0, 64, .inl g52)), (ksnaps, .inl (ky 0, 512, .inl ksnapsF))] H := hP
        have hD : va_D A [(o, .inr (12, [.int kthrown, .ref ktape, .int (nI ktaped), .int (nI ksize), .int (nI klimit), .int (nI kto), .int (nI kfrom), .int kkind, .int knumber, .int ksign, .int kfault, .int kplace, .long kword, .int ktold, .ref know, .ref kread, .ref kkept, .ref ksnaps, .ref kaside, .ref kname, .ref kreadName, .ref kkeptName, .ref kisKept, .ref konces, .int (nI ksnapMany), .int khasCells, .ref kpoured, .ref kfar, .ref ksides, .int (nI ksideMany), .int kwayDays, .int khasWay, .ref klines, .ref kmet, .int (nI kmetMany), .ref ksunk, .ref ktrying, .int (nI ksunkMany), .int ksending, .int kfleets, .ref ktext, .int (nI ktexts), .int kseed, .ref kline, .ref kwritten, .int (nI klineMany), .int khasWritten, .ref knode, .int (nI knodes), .int (nI konesMany), .int (nI kwithin), .int (nI ktop)])), (know, .inl (ky 0, 373, .inl g47)), (kaside, .inl (ky 0, 64, .inl g52)), (ksnaps, .inl (ky 0, 512, .inl ksnapsF))] := hD
        refine lv_iinc (v := nI (k17 + 1)) (lv' := [(2, .int (nI (k17 + 1))), (3, .int y43), (0, .ref o), (1, .int x)]) hx hb dX12_stay_40 hl (k := 1) rfl (show nI k17 + nI 1 = nI (k17 + 1) from nI_add _ _) (by decide) rfl (fun ls hl => ?_)
        refine lv_goto (tgt := 2) hx hb dX12_stay_43 (by decide) ?_
        exact ih27 (k17 + 1) g47 g52 (lf_e_stay_6 knowF kn0 k17 f18 f19 n26 y43 y45 g47 ab_now sb_now he0 j20 j21 j22 j23 j24 hm28 c29 e44 e46 nb49 sb50 he51) nb49 sb50 he51 nb54 (lf_e_stay_7 knowF kn0 k17 f18 f19 n26 y43 y45 g47 ab_now sb_now he0 j20 j21 j22 j23 j24 hm28 c29 e44 e46 nb49 sb50 he51) _ _ _ hP hD hS (lv_sub hl [0, 2, 3] rfl)
  exact hL25 ((64 - 0) + 1) 0 knowF kasideF (lf_e_stay_8) ab_now sb_now he0 ab_aside (Nat.lt_succ_self _) _ _ _ hP hD hS (lv_sub hl [0, 1, 2] rfl)
