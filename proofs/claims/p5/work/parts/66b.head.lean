set_option maxRecDepth 20000 in
theorem lf_e_doStir_1 (knowF : Nat → Int32) (kn0 : Nat → Int32) (f48 : Nat → Int32) (k70 : Nat) (f71 : Nat → Int32) (n77 : Nat) (y80 : Int32) (k97 : Nat) (f98 : Nat → Int32) (n104 : Nat) (y107 : Int32) (y112 : Int32) (y114 : Int32) (ab_now : NB knowF) (sb_now : SB knowF) (he0 : HE kn0 knowF) (j50 : NB f48) (j51 : SB f48) (j52 : HE kn0 f48) (j72 : k70 ≤ 6) (j73 : NB f71) (j74 : SB f71) (j75 : HE kn0 f71) (hm79 : 6 - k70 < n77 + 1) (e81 : y80 = f71 2) (b82 : 0 ≤ y80.toInt) (b83 : y80.toInt ≤ 6) (c84 : y80 ≤ nI k70) (j99 : k97 ≤ 6) (j100 : NB f98) (j101 : SB f98) (j102 : HE kn0 f98) (hm106 : 6 - k97 < n104 + 1) (e108 : y107 = f98 3) (b109 : 0 ≤ y107.toInt) (b110 : y107.toInt ≤ 6) (c111 : y107 ≤ nI k97) (e113 : y112 = f98 69) (e115 : y114 = y112 + (nI 1)) : -2147483648 ≤ (y114).toInt := by
  have b_y80 := ia_b y80
  have b_y107 := ia_b y107
  have b_y112 := ia_b y112
  have b_y114 := ia_b y114
  try have k_0 := ia_n k70 (by first | decide | omega)
  try have k_1 := ia_n k97 (by first | decide | omega)
  try have k_2 := ia_n 1 (by first | decide | omega)
  try simp only [ia_lt, ia_le, ia_eq, ia_m1, ia_0, ia_1, ne_eq, true_and, and_true, false_and, and_false, or_false, false_or, or_true, true_or, not_true_eq_false, not_false_eq_true] at *
  all_goals omega
set_option maxRecDepth 20000 in
theorem lf_e_doStir_2 (knowF : Nat → Int32) (kn0 : Nat → Int32) (f48 : Nat → Int32) (k70 : Nat) (f71 : Nat → Int32) (n77 : Nat) (y80 : Int32) (k97 : Nat) (f98 : Nat → Int32) (n104 : Nat) (y107 : Int32) (y112 : Int32) (y114 : Int32) (ab_now : NB knowF) (sb_now : SB knowF) (he0 : HE kn0 knowF) (j50 : NB f48) (j51 : SB f48) (j52 : HE kn0 f48) (j72 : k70 ≤ 6) (j73 : NB f71) (j74 : SB f71) (j75 : HE kn0 f71) (hm79 : 6 - k70 < n77 + 1) (e81 : y80 = f71 2) (b82 : 0 ≤ y80.toInt) (b83 : y80.toInt ≤ 6) (c84 : y80 ≤ nI k70) (j99 : k97 ≤ 6) (j100 : NB f98) (j101 : SB f98) (j102 : HE kn0 f98) (hm106 : 6 - k97 < n104 + 1) (e108 : y107 = f98 3) (b109 : 0 ≤ y107.toInt) (b110 : y107.toInt ≤ 6) (c111 : y107 ≤ nI k97) (e113 : y112 = f98 69) (e115 : y114 = y112 + (nI 1)) : (y114).toInt ≤ 2147483647 := by
  have b_y80 := ia_b y80
  have b_y107 := ia_b y107
  have b_y112 := ia_b y112
  have b_y114 := ia_b y114
  try have k_0 := ia_n k70 (by first | decide | omega)
  try have k_1 := ia_n k97 (by first | decide | omega)
  try have k_2 := ia_n 1 (by first | decide | omega)
  try simp only [ia_lt, ia_le, ia_eq, ia_m1, ia_0, ia_1, ne_eq, true_and, and_true, false_and, and_false, or_false, false_or, or_true, true_or, not_true_eq_false, not_false_eq_true] at *
  all_goals omega
set_option maxRecDepth 20000 in
theorem lf_e_doStir_3 (knowF : Nat → Int32) (kn0 : Nat → Int32) (f48 : Nat → Int32) (k70 : Nat) (f71 : Nat → Int32) (n77 : Nat) (y80 : Int32) (k97 : Nat) (f98 : Nat → Int32) (n104 : Nat) (y107 : Int32) (ab_now : NB knowF) (sb_now : SB knowF) (he0 : HE kn0 knowF) (j50 : NB f48) (j51 : SB f48) (j52 : HE kn0 f48) (j72 : k70 ≤ 6) (j73 : NB f71) (j74 : SB f71) (j75 : HE kn0 f71) (hm79 : 6 - k70 < n77 + 1) (e81 : y80 = f71 2) (b82 : 0 ≤ y80.toInt) (b83 : y80.toInt ≤ 6) (c84 : y80 ≤ nI k70) (j99 : k97 ≤ 6) (j100 : NB f98) (j101 : SB f98) (j102 : HE kn0 f98) (hm106 : 6 - k97 < n104 + 1) (e108 : y107 = f98 3) (b109 : 0 ≤ y107.toInt) (b110 : y107.toInt ≤ 6) (c111 : ¬ y107 ≤ nI k97) : k97 < 6 := by
  have b_y80 := ia_b y80
  have b_y107 := ia_b y107
  try have k_0 := ia_n k70 (by first | decide | omega)
  try have k_1 := ia_n k97 (by first | decide | omega)
  try simp only [ia_lt, ia_le, ia_eq, ia_m1, ia_0, ia_1, ne_eq, true_and, and_true, false_and, and_false, or_false, false_or, or_true, true_or, not_true_eq_false, not_false_eq_true] at *
  all_goals omega
set_option maxRecDepth 20000 in
theorem lf_e_doStir_4 (knowF : Nat → Int32) (kn0 : Nat → Int32) (f48 : Nat → Int32) (k70 : Nat) (f71 : Nat → Int32) (n77 : Nat) (y80 : Int32) (k97 : Nat) (f98 : Nat → Int32) (n104 : Nat) (y107 : Int32) (ab_now : NB knowF) (sb_now : SB knowF) (he0 : HE kn0 knowF) (j50 : NB f48) (j51 : SB f48) (j52 : HE kn0 f48) (j72 : k70 ≤ 6) (j73 : NB f71) (j74 : SB f71) (j75 : HE kn0 f71) (hm79 : 6 - k70 < n77 + 1) (e81 : y80 = f71 2) (b82 : 0 ≤ y80.toInt) (b83 : y80.toInt ≤ 6) (c84 : y80 ≤ nI k70) (j99 : k97 ≤ 6) (j100 : NB f98) (j101 : SB f98) (j102 : HE kn0 f98) (hm106 : 6 - k97 < n104 + 1) (e108 : y107 = f98 3) (b109 : 0 ≤ y107.toInt) (b110 : y107.toInt ≤ 6) (c111 : ¬ y107 ≤ nI k97) (t123 : f98 (125 + k97) = nI 3) : (k97 + 1) ≤ 6 := by
  have b_y80 := ia_b y80
  have b_y107 := ia_b y107
  try have k_0 := ia_n k70 (by first | decide | omega)
  try have k_1 := ia_n k97 (by first | decide | omega)
  try have k_2 := ia_n 3 (by first | decide | omega)
  try simp only [ia_lt, ia_le, ia_eq, ia_m1, ia_0, ia_1, ne_eq, true_and, and_true, false_and, and_false, or_false, false_or, or_true, true_or, not_true_eq_false, not_false_eq_true] at *
  all_goals omega
set_option maxRecDepth 20000 in
theorem lf_e_doStir_5 (knowF : Nat → Int32) (kn0 : Nat → Int32) (f48 : Nat → Int32) (k70 : Nat) (f71 : Nat → Int32) (n77 : Nat) (y80 : Int32) (k97 : Nat) (f98 : Nat → Int32) (n104 : Nat) (y107 : Int32) (ab_now : NB knowF) (sb_now : SB knowF) (he0 : HE kn0 knowF) (j50 : NB f48) (j51 : SB f48) (j52 : HE kn0 f48) (j72 : k70 ≤ 6) (j73 : NB f71) (j74 : SB f71) (j75 : HE kn0 f71) (hm79 : 6 - k70 < n77 + 1) (e81 : y80 = f71 2) (b82 : 0 ≤ y80.toInt) (b83 : y80.toInt ≤ 6) (c84 : y80 ≤ nI k70) (j99 : k97 ≤ 6) (j100 : NB f98) (j101 : SB f98) (j102 : HE kn0 f98) (hm106 : 6 - k97 < n104 + 1) (e108 : y107 = f98 3) (b109 : 0 ≤ y107.toInt) (b110 : y107.toInt ≤ 6) (c111 : ¬ y107 ≤ nI k97) (t123 : f98 (125 + k97) = nI 3) : 6 - (k97 + 1) < n104 := by
  have b_y80 := ia_b y80
  have b_y107 := ia_b y107
  try have k_0 := ia_n k70 (by first | decide | omega)
  try have k_1 := ia_n k97 (by first | decide | omega)
  try have k_2 := ia_n 3 (by first | decide | omega)
  try simp only [ia_lt, ia_le, ia_eq, ia_m1, ia_0, ia_1, ne_eq, true_and, and_true, false_and, and_false, or_false, false_or, or_true, true_or, not_true_eq_false, not_false_eq_true] at *
  all_goals omega
set_option maxRecDepth 20000 in
theorem lf_e_doStir_6 (knowF : Nat → Int32) (kn0 : Nat → Int32) (f48 : Nat → Int32) (k70 : Nat) (f71 : Nat → Int32) (n77 : Nat) (y80 : Int32) (k97 : Nat) (f98 : Nat → Int32) (n104 : Nat) (y107 : Int32) (y127 : Int32) (ab_now : NB knowF) (sb_now : SB knowF) (he0 : HE kn0 knowF) (j50 : NB f48) (j51 : SB f48) (j52 : HE kn0 f48) (j72 : k70 ≤ 6) (j73 : NB f71) (j74 : SB f71) (j75 : HE kn0 f71) (hm79 : 6 - k70 < n77 + 1) (e81 : y80 = f71 2) (b82 : 0 ≤ y80.toInt) (b83 : y80.toInt ≤ 6) (c84 : y80 ≤ nI k70) (j99 : k97 ≤ 6) (j100 : NB f98) (j101 : SB f98) (j102 : HE kn0 f98) (hm106 : 6 - k97 < n104 + 1) (e108 : y107 = f98 3) (b109 : 0 ≤ y107.toInt) (b110 : y107.toInt ≤ 6) (c111 : ¬ y107 ≤ nI k97) (t124 : ¬ f98 (125 + k97) = nI 3) (e128 : y127 = f98 (113 + k97)) : (113 + k97) < 373 := by
  have b_y80 := ia_b y80
  have b_y107 := ia_b y107
  have b_y127 := ia_b y127
  try have k_0 := ia_n k70 (by first | decide | omega)
  try have k_1 := ia_n k97 (by first | decide | omega)
  try have k_2 := ia_n 3 (by first | decide | omega)
  try simp only [ia_lt, ia_le, ia_eq, ia_m1, ia_0, ia_1, ne_eq, true_and, and_true, false_and, and_false, or_false, false_or, or_true, true_or, not_true_eq_false, not_false_eq_true] at *
  all_goals omega
set_option maxRecDepth 20000 in
theorem lf_e_doStir_7 (knowF : Nat → Int32) (kn0 : Nat → Int32) (f48 : Nat → Int32) (k70 : Nat) (f71 : Nat → Int32) (n77 : Nat) (y80 : Int32) (k97 : Nat) (f98 : Nat → Int32) (n104 : Nat) (y107 : Int32) (y127 : Int32) (ab_now : NB knowF) (sb_now : SB knowF) (he0 : HE kn0 knowF) (j50 : NB f48) (j51 : SB f48) (j52 : HE kn0 f48) (j72 : k70 ≤ 6) (j73 : NB f71) (j74 : SB f71) (j75 : HE kn0 f71) (hm79 : 6 - k70 < n77 + 1) (e81 : y80 = f71 2) (b82 : 0 ≤ y80.toInt) (b83 : y80.toInt ≤ 6) (c84 : y80 ≤ nI k70) (j99 : k97 ≤ 6) (j100 : NB f98) (j101 : SB f98) (j102 : HE kn0 f98) (hm106 : 6 - k97 < n104 + 1) (e108 : y107 = f98 3) (b109 : 0 ≤ y107.toInt) (b110 : y107.toInt ≤ 6) (c111 : ¬ y107 ≤ nI k97) (t124 : ¬ f98 (125 + k97) = nI 3) (e128 : y127 = f98 (113 + k97)) : 107 ≤ (113 + k97) := by
  have b_y80 := ia_b y80
  have b_y107 := ia_b y107
  have b_y127 := ia_b y127
  try have k_0 := ia_n k70 (by first | decide | omega)
  try have k_1 := ia_n k97 (by first | decide | omega)
  try have k_2 := ia_n 3 (by first | decide | omega)
  try simp only [ia_lt, ia_le, ia_eq, ia_m1, ia_0, ia_1, ne_eq, true_and, and_true, false_and, and_false, or_false, false_or, or_true, true_or, not_true_eq_false, not_false_eq_true] at *
  all_goals omega
set_option maxRecDepth 20000 in
theorem lf_e_doStir_8 (knowF : Nat → Int32) (kn0 : Nat → Int32) (f48 : Nat → Int32) (k70 : Nat) (f71 : Nat → Int32) (n77 : Nat) (y80 : Int32) (k97 : Nat) (f98 : Nat → Int32) (n104 : Nat) (y107 : Int32) (y127 : Int32) (ab_now : NB knowF) (sb_now : SB knowF) (he0 : HE kn0 knowF) (j50 : NB f48) (j51 : SB f48) (j52 : HE kn0 f48) (j72 : k70 ≤ 6) (j73 : NB f71) (j74 : SB f71) (j75 : HE kn0 f71) (hm79 : 6 - k70 < n77 + 1) (e81 : y80 = f71 2) (b82 : 0 ≤ y80.toInt) (b83 : y80.toInt ≤ 6) (c84 : y80 ≤ nI k70) (j99 : k97 ≤ 6) (j100 : NB f98) (j101 : SB f98) (j102 : HE kn0 f98) (hm106 : 6 - k97 < n104 + 1) (e108 : y107 = f98 3) (b109 : 0 ≤ y107.toInt) (b110 : y107.toInt ≤ 6) (c111 : ¬ y107 ≤ nI k97) (t124 : ¬ f98 (125 + k97) = nI 3) (e128 : y127 = f98 (113 + k97)) : (113 + k97) < 119 := by
  have b_y80 := ia_b y80
  have b_y107 := ia_b y107
  have b_y127 := ia_b y127
  try have k_0 := ia_n k70 (by first | decide | omega)
  try have k_1 := ia_n k97 (by first | decide | omega)
  try have k_2 := ia_n 3 (by first | decide | omega)
  try simp only [ia_lt, ia_le, ia_eq, ia_m1, ia_0, ia_1, ne_eq, true_and, and_true, false_and, and_false, or_false, false_or, or_true, true_or, not_true_eq_false, not_false_eq_true] at *
  all_goals omega
set_option maxRecDepth 20000 in
theorem lf_e_doStir_9 (knowF : Nat → Int32) (kn0 : Nat → Int32) (f48 : Nat → Int32) (k70 : Nat) (f71 : Nat → Int32) (n77 : Nat) (y80 : Int32) (k97 : Nat) (f98 : Nat → Int32) (n104 : Nat) (y107 : Int32) (y127 : Int32) (ab_now : NB knowF) (sb_now : SB knowF) (he0 : HE kn0 knowF) (j50 : NB f48) (j51 : SB f48) (j52 : HE kn0 f48) (j72 : k70 ≤ 6) (j73 : NB f71) (j74 : SB f71) (j75 : HE kn0 f71) (hm79 : 6 - k70 < n77 + 1) (e81 : y80 = f71 2) (b82 : 0 ≤ y80.toInt) (b83 : y80.toInt ≤ 6) (c84 : y80 ≤ nI k70) (j99 : k97 ≤ 6) (j100 : NB f98) (j101 : SB f98) (j102 : HE kn0 f98) (hm106 : 6 - k97 < n104 + 1) (e108 : y107 = f98 3) (b109 : 0 ≤ y107.toInt) (b110 : y107.toInt ≤ 6) (c111 : ¬ y107 ≤ nI k97) (t124 : ¬ f98 (125 + k97) = nI 3) (e128 : y127 = f98 (113 + k97)) (b129 : 0 ≤ y127.toInt) (b130 : y127.toInt ≤ 35) : 0 ≤ y127.toInt ∧ y127.toInt ≤ 35 := by
  have b_y80 := ia_b y80
  have b_y107 := ia_b y107
  have b_y127 := ia_b y127
  try have k_0 := ia_n k70 (by first | decide | omega)
  try have k_1 := ia_n k97 (by first | decide | omega)
  try have k_2 := ia_n 3 (by first | decide | omega)
  try simp only [ia_lt, ia_le, ia_eq, ia_m1, ia_0, ia_1, ne_eq, true_and, and_true, false_and, and_false, or_false, false_or, or_true, true_or, not_true_eq_false, not_false_eq_true] at *
  all_goals omega
set_option maxRecDepth 20000 in
theorem lf_e_doStir_10 (k133 : Nat) (h135 : k133 < 36) : 0 ≤ (nI k133).toInt := by
  try have k_0 := ia_n k133 (by first | decide | omega)
  try simp only [ia_lt, ia_le, ia_eq, ia_m1, ia_0, ia_1, ne_eq, true_and, and_true, false_and, and_false, or_false, false_or, or_true, true_or, not_true_eq_false, not_false_eq_true] at *
  all_goals omega
set_option maxRecDepth 20000 in
theorem lf_e_doStir_11 (k133 : Nat) (h135 : k133 < 36) : (nI k133).toInt ≤ 35 := by
  try have k_0 := ia_n k133 (by first | decide | omega)
  try simp only [ia_lt, ia_le, ia_eq, ia_m1, ia_0, ia_1, ne_eq, true_and, and_true, false_and, and_false, or_false, false_or, or_true, true_or, not_true_eq_false, not_false_eq_true] at *
  all_goals omega
set_option maxRecDepth 20000 in
theorem lf_e_doStir_12 (knowF : Nat → Int32) (kn0 : Nat → Int32) (f48 : Nat → Int32) (k70 : Nat) (f71 : Nat → Int32) (n77 : Nat) (y80 : Int32) (k97 : Nat) (f98 : Nat → Int32) (n104 : Nat) (y107 : Int32) (y127 : Int32) (ab_now : NB knowF) (sb_now : SB knowF) (he0 : HE kn0 knowF) (j50 : NB f48) (j51 : SB f48) (j52 : HE kn0 f48) (j72 : k70 ≤ 6) (j73 : NB f71) (j74 : SB f71) (j75 : HE kn0 f71) (hm79 : 6 - k70 < n77 + 1) (e81 : y80 = f71 2) (b82 : 0 ≤ y80.toInt) (b83 : y80.toInt ≤ 6) (c84 : y80 ≤ nI k70) (j99 : k97 ≤ 6) (j100 : NB f98) (j101 : SB f98) (j102 : HE kn0 f98) (hm106 : 6 - k97 < n104 + 1) (e108 : y107 = f98 3) (b109 : 0 ≤ y107.toInt) (b110 : y107.toInt ≤ 6) (c111 : ¬ y107 ≤ nI k97) (t124 : ¬ f98 (125 + k97) = nI 3) (e128 : y127 = f98 (113 + k97)) (b129 : 0 ≤ y127.toInt) (b130 : y127.toInt ≤ 35) : (113 + k97) < 373 := by
  have b_y80 := ia_b y80
  have b_y107 := ia_b y107
  have b_y127 := ia_b y127
  try have k_0 := ia_n k70 (by first | decide | omega)
  try have k_1 := ia_n k97 (by first | decide | omega)
  try have k_2 := ia_n 3 (by first | decide | omega)
  try simp only [ia_lt, ia_le, ia_eq, ia_m1, ia_0, ia_1, ne_eq, true_and, and_true, false_and, and_false, or_false, false_or, or_true, true_or, not_true_eq_false, not_false_eq_true] at *
  all_goals omega
set_option maxRecDepth 20000 in
theorem lf_e_doStir_13 (knowF : Nat → Int32) (kn0 : Nat → Int32) (f48 : Nat → Int32) (k70 : Nat) (f71 : Nat → Int32) (n77 : Nat) (y80 : Int32) (k97 : Nat) (f98 : Nat → Int32) (n104 : Nat) (y107 : Int32) (y127 : Int32) (ab_now : NB knowF) (sb_now : SB knowF) (he0 : HE kn0 knowF) (j50 : NB f48) (j51 : SB f48) (j52 : HE kn0 f48) (j72 : k70 ≤ 6) (j73 : NB f71) (j74 : SB f71) (j75 : HE kn0 f71) (hm79 : 6 - k70 < n77 + 1) (e81 : y80 = f71 2) (b82 : 0 ≤ y80.toInt) (b83 : y80.toInt ≤ 6) (c84 : y80 ≤ nI k70) (j99 : k97 ≤ 6) (j100 : NB f98) (j101 : SB f98) (j102 : HE kn0 f98) (hm106 : 6 - k97 < n104 + 1) (e108 : y107 = f98 3) (b109 : 0 ≤ y107.toInt) (b110 : y107.toInt ≤ 6) (c111 : ¬ y107 ≤ nI k97) (t124 : ¬ f98 (125 + k97) = nI 3) (e128 : y127 = f98 (113 + k97)) (b129 : 0 ≤ y127.toInt) (b130 : y127.toInt ≤ 35) : 107 ≤ (113 + k97) := by
  have b_y80 := ia_b y80
  have b_y107 := ia_b y107
  have b_y127 := ia_b y127
  try have k_0 := ia_n k70 (by first | decide | omega)
  try have k_1 := ia_n k97 (by first | decide | omega)
  try have k_2 := ia_n 3 (by first | decide | omega)
  try simp only [ia_lt, ia_le, ia_eq, ia_m1, ia_0, ia_1, ne_eq, true_and, and_true, false_and, and_false, or_false, false_or, or_true, true_or, not_true_eq_false, not_false_eq_true] at *
  all_goals omega
set_option maxRecDepth 20000 in
theorem lf_e_doStir_14 (knowF : Nat → Int32) (kn0 : Nat → Int32) (f48 : Nat → Int32) (k70 : Nat) (f71 : Nat → Int32) (n77 : Nat) (y80 : Int32) (k97 : Nat) (f98 : Nat → Int32) (n104 : Nat) (y107 : Int32) (y127 : Int32) (ab_now : NB knowF) (sb_now : SB knowF) (he0 : HE kn0 knowF) (j50 : NB f48) (j51 : SB f48) (j52 : HE kn0 f48) (j72 : k70 ≤ 6) (j73 : NB f71) (j74 : SB f71) (j75 : HE kn0 f71) (hm79 : 6 - k70 < n77 + 1) (e81 : y80 = f71 2) (b82 : 0 ≤ y80.toInt) (b83 : y80.toInt ≤ 6) (c84 : y80 ≤ nI k70) (j99 : k97 ≤ 6) (j100 : NB f98) (j101 : SB f98) (j102 : HE kn0 f98) (hm106 : 6 - k97 < n104 + 1) (e108 : y107 = f98 3) (b109 : 0 ≤ y107.toInt) (b110 : y107.toInt ≤ 6) (c111 : ¬ y107 ≤ nI k97) (t124 : ¬ f98 (125 + k97) = nI 3) (e128 : y127 = f98 (113 + k97)) (b129 : 0 ≤ y127.toInt) (b130 : y127.toInt ≤ 35) : (113 + k97) < 119 := by
  have b_y80 := ia_b y80
  have b_y107 := ia_b y107
  have b_y127 := ia_b y127
  try have k_0 := ia_n k70 (by first | decide | omega)
  try have k_1 := ia_n k97 (by first | decide | omega)
  try have k_2 := ia_n 3 (by first | decide | omega)
  try simp only [ia_lt, ia_le, ia_eq, ia_m1, ia_0, ia_1, ne_eq, true_and, and_true, false_and, and_false, or_false, false_or, or_true, true_or, not_true_eq_false, not_false_eq_true] at *
  all_goals omega
set_option maxRecDepth 20000 in
theorem lf_e_doStir_15 (knowF : Nat → Int32) (kn0 : Nat → Int32) (f48 : Nat → Int32) (k70 : Nat) (f71 : Nat → Int32) (n77 : Nat) (y80 : Int32) (k97 : Nat) (f98 : Nat → Int32) (n104 : Nat) (y107 : Int32) (y127 : Int32) (ab_now : NB knowF) (sb_now : SB knowF) (he0 : HE kn0 knowF) (j50 : NB f48) (j51 : SB f48) (j52 : HE kn0 f48) (j72 : k70 ≤ 6) (j73 : NB f71) (j74 : SB f71) (j75 : HE kn0 f71) (hm79 : 6 - k70 < n77 + 1) (e81 : y80 = f71 2) (b82 : 0 ≤ y80.toInt) (b83 : y80.toInt ≤ 6) (c84 : y80 ≤ nI k70) (j99 : k97 ≤ 6) (j100 : NB f98) (j101 : SB f98) (j102 : HE kn0 f98) (hm106 : 6 - k97 < n104 + 1) (e108 : y107 = f98 3) (b109 : 0 ≤ y107.toInt) (b110 : y107.toInt ≤ 6) (c111 : ¬ y107 ≤ nI k97) (t124 : ¬ f98 (125 + k97) = nI 3) (e128 : y127 = f98 (113 + k97)) (b129 : 0 ≤ y127.toInt) (b130 : y127.toInt ≤ 35) : 67 ≤ (113 + k97) := by
  have b_y80 := ia_b y80
  have b_y107 := ia_b y107
  have b_y127 := ia_b y127
  try have k_0 := ia_n k70 (by first | decide | omega)
  try have k_1 := ia_n k97 (by first | decide | omega)
  try have k_2 := ia_n 3 (by first | decide | omega)
  try simp only [ia_lt, ia_le, ia_eq, ia_m1, ia_0, ia_1, ne_eq, true_and, and_true, false_and, and_false, or_false, false_or, or_true, true_or, not_true_eq_false, not_false_eq_true] at *
  all_goals omega
set_option maxRecDepth 20000 in
theorem lf_e_doStir_16 (knowF : Nat → Int32) (kn0 : Nat → Int32) (f48 : Nat → Int32) (k70 : Nat) (f71 : Nat → Int32) (n77 : Nat) (y80 : Int32) (k97 : Nat) (f98 : Nat → Int32) (n104 : Nat) (y107 : Int32) (y127 : Int32) (g136 : Nat → Int32) (ab_now : NB knowF) (sb_now : SB knowF) (he0 : HE kn0 knowF) (j50 : NB f48) (j51 : SB f48) (j52 : HE kn0 f48) (j72 : k70 ≤ 6) (j73 : NB f71) (j74 : SB f71) (j75 : HE kn0 f71) (hm79 : 6 - k70 < n77 + 1) (e81 : y80 = f71 2) (b82 : 0 ≤ y80.toInt) (b83 : y80.toInt ≤ 6) (c84 : y80 ≤ nI k70) (j99 : k97 ≤ 6) (j100 : NB f98) (j101 : SB f98) (j102 : HE kn0 f98) (hm106 : 6 - k97 < n104 + 1) (e108 : y107 = f98 3) (b109 : 0 ≤ y107.toInt) (b110 : y107.toInt ≤ 6) (c111 : ¬ y107 ≤ nI k97) (t124 : ¬ f98 (125 + k97) = nI 3) (e128 : y127 = f98 (113 + k97)) (b129 : 0 ≤ y127.toInt) (b130 : y127.toInt ≤ 35) (nb138 : NB g136) (sb139 : SB g136) (he140 : HE kn0 g136) : (k97 + 1) ≤ 6 := by
  have b_y80 := ia_b y80
  have b_y107 := ia_b y107
  have b_y127 := ia_b y127
  try have k_0 := ia_n k70 (by first | decide | omega)
  try have k_1 := ia_n k97 (by first | decide | omega)
  try have k_2 := ia_n 3 (by first | decide | omega)
  try simp only [ia_lt, ia_le, ia_eq, ia_m1, ia_0, ia_1, ne_eq, true_and, and_true, false_and, and_false, or_false, false_or, or_true, true_or, not_true_eq_false, not_false_eq_true] at *
  all_goals omega
set_option maxRecDepth 20000 in
theorem lf_e_doStir_17 (knowF : Nat → Int32) (kn0 : Nat → Int32) (f48 : Nat → Int32) (k70 : Nat) (f71 : Nat → Int32) (n77 : Nat) (y80 : Int32) (k97 : Nat) (f98 : Nat → Int32) (n104 : Nat) (y107 : Int32) (y127 : Int32) (g136 : Nat → Int32) (ab_now : NB knowF) (sb_now : SB knowF) (he0 : HE kn0 knowF) (j50 : NB f48) (j51 : SB f48) (j52 : HE kn0 f48) (j72 : k70 ≤ 6) (j73 : NB f71) (j74 : SB f71) (j75 : HE kn0 f71) (hm79 : 6 - k70 < n77 + 1) (e81 : y80 = f71 2) (b82 : 0 ≤ y80.toInt) (b83 : y80.toInt ≤ 6) (c84 : y80 ≤ nI k70) (j99 : k97 ≤ 6) (j100 : NB f98) (j101 : SB f98) (j102 : HE kn0 f98) (hm106 : 6 - k97 < n104 + 1) (e108 : y107 = f98 3) (b109 : 0 ≤ y107.toInt) (b110 : y107.toInt ≤ 6) (c111 : ¬ y107 ≤ nI k97) (t124 : ¬ f98 (125 + k97) = nI 3) (e128 : y127 = f98 (113 + k97)) (b129 : 0 ≤ y127.toInt) (b130 : y127.toInt ≤ 35) (nb138 : NB g136) (sb139 : SB g136) (he140 : HE kn0 g136) : 6 - (k97 + 1) < n104 := by
  have b_y80 := ia_b y80
  have b_y107 := ia_b y107
  have b_y127 := ia_b y127
  try have k_0 := ia_n k70 (by first | decide | omega)
  try have k_1 := ia_n k97 (by first | decide | omega)
  try have k_2 := ia_n 3 (by first | decide | omega)
  try simp only [ia_lt, ia_le, ia_eq, ia_m1, ia_0, ia_1, ne_eq, true_and, and_true, false_and, and_false, or_false, false_or, or_true, true_or, not_true_eq_false, not_false_eq_true] at *
  all_goals omega
set_option maxRecDepth 20000 in
theorem lf_e_doStir_18   : 0 ≤ 6 := by
  try simp only [ia_lt, ia_le, ia_eq, ia_m1, ia_0, ia_1, ne_eq, true_and, and_true, false_and, and_false, or_false, false_or, or_true, true_or, not_true_eq_false, not_false_eq_true] at *
  all_goals omega
set_option maxRecDepth 20000 in
theorem lf_e_doStir_19 (knowF : Nat → Int32) (kn0 : Nat → Int32) (f48 : Nat → Int32) (k70 : Nat) (f71 : Nat → Int32) (n77 : Nat) (y80 : Int32) (y141 : Int32) (ab_now : NB knowF) (sb_now : SB knowF) (he0 : HE kn0 knowF) (j50 : NB f48) (j51 : SB f48) (j52 : HE kn0 f48) (j72 : k70 ≤ 6) (j73 : NB f71) (j74 : SB f71) (j75 : HE kn0 f71) (hm79 : 6 - k70 < n77 + 1) (e81 : y80 = f71 2) (b82 : 0 ≤ y80.toInt) (b83 : y80.toInt ≤ 6) (c84 : ¬ y80 ≤ nI k70) (e142 : y141 = f71 (107 + k70)) : (107 + k70) < 373 := by
  have b_y80 := ia_b y80
  have b_y141 := ia_b y141
  try have k_0 := ia_n k70 (by first | decide | omega)
  try simp only [ia_lt, ia_le, ia_eq, ia_m1, ia_0, ia_1, ne_eq, true_and, and_true, false_and, and_false, or_false, false_or, or_true, true_or, not_true_eq_false, not_false_eq_true] at *
  all_goals omega
set_option maxRecDepth 20000 in
theorem lf_e_doStir_20 (knowF : Nat → Int32) (kn0 : Nat → Int32) (f48 : Nat → Int32) (k70 : Nat) (f71 : Nat → Int32) (n77 : Nat) (y80 : Int32) (y141 : Int32) (ab_now : NB knowF) (sb_now : SB knowF) (he0 : HE kn0 knowF) (j50 : NB f48) (j51 : SB f48) (j52 : HE kn0 f48) (j72 : k70 ≤ 6) (j73 : NB f71) (j74 : SB f71) (j75 : HE kn0 f71) (hm79 : 6 - k70 < n77 + 1) (e81 : y80 = f71 2) (b82 : 0 ≤ y80.toInt) (b83 : y80.toInt ≤ 6) (c84 : ¬ y80 ≤ nI k70) (e142 : y141 = f71 (107 + k70)) : 107 ≤ (107 + k70) := by
  have b_y80 := ia_b y80
  have b_y141 := ia_b y141
  try have k_0 := ia_n k70 (by first | decide | omega)
  try simp only [ia_lt, ia_le, ia_eq, ia_m1, ia_0, ia_1, ne_eq, true_and, and_true, false_and, and_false, or_false, false_or, or_true, true_or, not_true_eq_false, not_false_eq_true] at *
  all_goals omega
set_option maxRecDepth 20000 in
theorem lf_e_doStir_21 (knowF : Nat → Int32) (kn0 : Nat → Int32) (f48 : Nat → Int32) (k70 : Nat) (f71 : Nat → Int32) (n77 : Nat) (y80 : Int32) (y141 : Int32) (ab_now : NB knowF) (sb_now : SB knowF) (he0 : HE kn0 knowF) (j50 : NB f48) (j51 : SB f48) (j52 : HE kn0 f48) (j72 : k70 ≤ 6) (j73 : NB f71) (j74 : SB f71) (j75 : HE kn0 f71) (hm79 : 6 - k70 < n77 + 1) (e81 : y80 = f71 2) (b82 : 0 ≤ y80.toInt) (b83 : y80.toInt ≤ 6) (c84 : ¬ y80 ≤ nI k70) (e142 : y141 = f71 (107 + k70)) : (107 + k70) < 119 := by
  have b_y80 := ia_b y80
  have b_y141 := ia_b y141
  try have k_0 := ia_n k70 (by first | decide | omega)
  try simp only [ia_lt, ia_le, ia_eq, ia_m1, ia_0, ia_1, ne_eq, true_and, and_true, false_and, and_false, or_false, false_or, or_true, true_or, not_true_eq_false, not_false_eq_true] at *
  all_goals omega
set_option maxRecDepth 20000 in
theorem lf_e_doStir_22 (knowF : Nat → Int32) (kn0 : Nat → Int32) (f48 : Nat → Int32) (k70 : Nat) (f71 : Nat → Int32) (n77 : Nat) (y80 : Int32) (y141 : Int32) (ab_now : NB knowF) (sb_now : SB knowF) (he0 : HE kn0 knowF) (j50 : NB f48) (j51 : SB f48) (j52 : HE kn0 f48) (j72 : k70 ≤ 6) (j73 : NB f71) (j74 : SB f71) (j75 : HE kn0 f71) (hm79 : 6 - k70 < n77 + 1) (e81 : y80 = f71 2) (b82 : 0 ≤ y80.toInt) (b83 : y80.toInt ≤ 6) (c84 : ¬ y80 ≤ nI k70) (e142 : y141 = f71 (107 + k70)) (b143 : 0 ≤ y141.toInt) (b144 : y141.toInt ≤ 35) : 0 ≤ y141.toInt ∧ y141.toInt ≤ 35 := by
  have b_y80 := ia_b y80
  have b_y141 := ia_b y141
  try have k_0 := ia_n k70 (by first | decide | omega)
  try simp only [ia_lt, ia_le, ia_eq, ia_m1, ia_0, ia_1, ne_eq, true_and, and_true, false_and, and_false, or_false, false_or, or_true, true_or, not_true_eq_false, not_false_eq_true] at *
  all_goals omega
set_option maxRecDepth 20000 in
theorem lf_e_doStir_23 (k147 : Nat) (h149 : k147 < 36) : 0 ≤ (nI k147).toInt := by
  try have k_0 := ia_n k147 (by first | decide | omega)
  try simp only [ia_lt, ia_le, ia_eq, ia_m1, ia_0, ia_1, ne_eq, true_and, and_true, false_and, and_false, or_false, false_or, or_true, true_or, not_true_eq_false, not_false_eq_true] at *
  all_goals omega
set_option maxRecDepth 20000 in
theorem lf_e_doStir_24 (k147 : Nat) (h149 : k147 < 36) : (nI k147).toInt ≤ 35 := by
  try have k_0 := ia_n k147 (by first | decide | omega)
  try simp only [ia_lt, ia_le, ia_eq, ia_m1, ia_0, ia_1, ne_eq, true_and, and_true, false_and, and_false, or_false, false_or, or_true, true_or, not_true_eq_false, not_false_eq_true] at *
  all_goals omega
set_option maxRecDepth 20000 in
theorem lf_e_doStir_25 (knowF : Nat → Int32) (kn0 : Nat → Int32) (f48 : Nat → Int32) (k70 : Nat) (f71 : Nat → Int32) (n77 : Nat) (y80 : Int32) (y141 : Int32) (ab_now : NB knowF) (sb_now : SB knowF) (he0 : HE kn0 knowF) (j50 : NB f48) (j51 : SB f48) (j52 : HE kn0 f48) (j72 : k70 ≤ 6) (j73 : NB f71) (j74 : SB f71) (j75 : HE kn0 f71) (hm79 : 6 - k70 < n77 + 1) (e81 : y80 = f71 2) (b82 : 0 ≤ y80.toInt) (b83 : y80.toInt ≤ 6) (c84 : ¬ y80 ≤ nI k70) (e142 : y141 = f71 (107 + k70)) (b143 : 0 ≤ y141.toInt) (b144 : y141.toInt ≤ 35) : (107 + k70) < 373 := by
  have b_y80 := ia_b y80
  have b_y141 := ia_b y141
  try have k_0 := ia_n k70 (by first | decide | omega)
  try simp only [ia_lt, ia_le, ia_eq, ia_m1, ia_0, ia_1, ne_eq, true_and, and_true, false_and, and_false, or_false, false_or, or_true, true_or, not_true_eq_false, not_false_eq_true] at *
  all_goals omega
set_option maxRecDepth 20000 in
theorem lf_e_doStir_26 (knowF : Nat → Int32) (kn0 : Nat → Int32) (f48 : Nat → Int32) (k70 : Nat) (f71 : Nat → Int32) (n77 : Nat) (y80 : Int32) (y141 : Int32) (ab_now : NB knowF) (sb_now : SB knowF) (he0 : HE kn0 knowF) (j50 : NB f48) (j51 : SB f48) (j52 : HE kn0 f48) (j72 : k70 ≤ 6) (j73 : NB f71) (j74 : SB f71) (j75 : HE kn0 f71) (hm79 : 6 - k70 < n77 + 1) (e81 : y80 = f71 2) (b82 : 0 ≤ y80.toInt) (b83 : y80.toInt ≤ 6) (c84 : ¬ y80 ≤ nI k70) (e142 : y141 = f71 (107 + k70)) (b143 : 0 ≤ y141.toInt) (b144 : y141.toInt ≤ 35) : 107 ≤ (107 + k70) := by
  have b_y80 := ia_b y80
  have b_y141 := ia_b y141
  try have k_0 := ia_n k70 (by first | decide | omega)
  try simp only [ia_lt, ia_le, ia_eq, ia_m1, ia_0, ia_1, ne_eq, true_and, and_true, false_and, and_false, or_false, false_or, or_true, true_or, not_true_eq_false, not_false_eq_true] at *
  all_goals omega
set_option maxRecDepth 20000 in
theorem lf_e_doStir_27 (knowF : Nat → Int32) (kn0 : Nat → Int32) (f48 : Nat → Int32) (k70 : Nat) (f71 : Nat → Int32) (n77 : Nat) (y80 : Int32) (y141 : Int32) (ab_now : NB knowF) (sb_now : SB knowF) (he0 : HE kn0 knowF) (j50 : NB f48) (j51 : SB f48) (j52 : HE kn0 f48) (j72 : k70 ≤ 6) (j73 : NB f71) (j74 : SB f71) (j75 : HE kn0 f71) (hm79 : 6 - k70 < n77 + 1) (e81 : y80 = f71 2) (b82 : 0 ≤ y80.toInt) (b83 : y80.toInt ≤ 6) (c84 : ¬ y80 ≤ nI k70) (e142 : y141 = f71 (107 + k70)) (b143 : 0 ≤ y141.toInt) (b144 : y141.toInt ≤ 35) : (107 + k70) < 119 := by
  have b_y80 := ia_b y80
  have b_y141 := ia_b y141
  try have k_0 := ia_n k70 (by first | decide | omega)
  try simp only [ia_lt, ia_le, ia_eq, ia_m1, ia_0, ia_1, ne_eq, true_and, and_true, false_and, and_false, or_false, false_or, or_true, true_or, not_true_eq_false, not_false_eq_true] at *
  all_goals omega
set_option maxRecDepth 20000 in
theorem lf_e_doStir_28 (knowF : Nat → Int32) (kn0 : Nat → Int32) (f48 : Nat → Int32) (k70 : Nat) (f71 : Nat → Int32) (n77 : Nat) (y80 : Int32) (y141 : Int32) (ab_now : NB knowF) (sb_now : SB knowF) (he0 : HE kn0 knowF) (j50 : NB f48) (j51 : SB f48) (j52 : HE kn0 f48) (j72 : k70 ≤ 6) (j73 : NB f71) (j74 : SB f71) (j75 : HE kn0 f71) (hm79 : 6 - k70 < n77 + 1) (e81 : y80 = f71 2) (b82 : 0 ≤ y80.toInt) (b83 : y80.toInt ≤ 6) (c84 : ¬ y80 ≤ nI k70) (e142 : y141 = f71 (107 + k70)) (b143 : 0 ≤ y141.toInt) (b144 : y141.toInt ≤ 35) : 67 ≤ (107 + k70) := by
  have b_y80 := ia_b y80
  have b_y141 := ia_b y141
  try have k_0 := ia_n k70 (by first | decide | omega)
  try simp only [ia_lt, ia_le, ia_eq, ia_m1, ia_0, ia_1, ne_eq, true_and, and_true, false_and, and_false, or_false, false_or, or_true, true_or, not_true_eq_false, not_false_eq_true] at *
  all_goals omega
set_option maxRecDepth 20000 in
theorem lf_e_doStir_29 (knowF : Nat → Int32) (kn0 : Nat → Int32) (f48 : Nat → Int32) (k70 : Nat) (f71 : Nat → Int32) (n77 : Nat) (y80 : Int32) (y141 : Int32) (g150 : Nat → Int32) (ab_now : NB knowF) (sb_now : SB knowF) (he0 : HE kn0 knowF) (j50 : NB f48) (j51 : SB f48) (j52 : HE kn0 f48) (j72 : k70 ≤ 6) (j73 : NB f71) (j74 : SB f71) (j75 : HE kn0 f71) (hm79 : 6 - k70 < n77 + 1) (e81 : y80 = f71 2) (b82 : 0 ≤ y80.toInt) (b83 : y80.toInt ≤ 6) (c84 : ¬ y80 ≤ nI k70) (e142 : y141 = f71 (107 + k70)) (b143 : 0 ≤ y141.toInt) (b144 : y141.toInt ≤ 35) (nb152 : NB g150) (sb153 : SB g150) (he154 : HE kn0 g150) : (k70 + 1) ≤ 6 := by
  have b_y80 := ia_b y80
  have b_y141 := ia_b y141
  try have k_0 := ia_n k70 (by first | decide | omega)
  try simp only [ia_lt, ia_le, ia_eq, ia_m1, ia_0, ia_1, ne_eq, true_and, and_true, false_and, and_false, or_false, false_or, or_true, true_or, not_true_eq_false, not_false_eq_true] at *
  all_goals omega
set_option maxRecDepth 20000 in
theorem lf_e_doStir_30 (knowF : Nat → Int32) (kn0 : Nat → Int32) (f48 : Nat → Int32) (k70 : Nat) (f71 : Nat → Int32) (n77 : Nat) (y80 : Int32) (y141 : Int32) (g150 : Nat → Int32) (ab_now : NB knowF) (sb_now : SB knowF) (he0 : HE kn0 knowF) (j50 : NB f48) (j51 : SB f48) (j52 : HE kn0 f48) (j72 : k70 ≤ 6) (j73 : NB f71) (j74 : SB f71) (j75 : HE kn0 f71) (hm79 : 6 - k70 < n77 + 1) (e81 : y80 = f71 2) (b82 : 0 ≤ y80.toInt) (b83 : y80.toInt ≤ 6) (c84 : ¬ y80 ≤ nI k70) (e142 : y141 = f71 (107 + k70)) (b143 : 0 ≤ y141.toInt) (b144 : y141.toInt ≤ 35) (nb152 : NB g150) (sb153 : SB g150) (he154 : HE kn0 g150) : 6 - (k70 + 1) < n77 := by
  have b_y80 := ia_b y80
  have b_y141 := ia_b y141
  try have k_0 := ia_n k70 (by first | decide | omega)
  try simp only [ia_lt, ia_le, ia_eq, ia_m1, ia_0, ia_1, ne_eq, true_and, and_true, false_and, and_false, or_false, false_or, or_true, true_or, not_true_eq_false, not_false_eq_true] at *
  all_goals omega
set_option maxRecDepth 20000 in
theorem lf_e_doStir_31   : 0 ≤ 6 := by
  try simp only [ia_lt, ia_le, ia_eq, ia_m1, ia_0, ia_1, ne_eq, true_and, and_true, false_and, and_false, or_false, false_or, or_true, true_or, not_true_eq_false, not_false_eq_true] at *
  all_goals omega
set_option maxRecDepth 20000 in
theorem lf_e_doStir_32 (f27 : Nat → Int32) (k47 : Nat) (n54 : Nat) (y155 : Int32) (j29 : AP36 f27) (j49 : k47 ≤ 36) (hm56 : 36 - k47 < n54 + 1) (c57 : k47 < 36) (e156 : y155 = f27 k47) : k47 < 36 := by
  have b_y155 := ia_b y155
  try simp only [ia_lt, ia_le, ia_eq, ia_m1, ia_0, ia_1, ne_eq, true_and, and_true, false_and, and_false, or_false, false_or, or_true, true_or, not_true_eq_false, not_false_eq_true] at *
  all_goals omega
set_option maxRecDepth 20000 in
theorem lf_e_doStir_33 (f27 : Nat → Int32) (k47 : Nat) (n54 : Nat) (y155 : Int32) (j29 : AP36 f27) (j49 : k47 ≤ 36) (hm56 : 36 - k47 < n54 + 1) (c57 : k47 < 36) (e156 : y155 = f27 k47) : 0 ≤ k47 := by
  have b_y155 := ia_b y155
  try simp only [ia_lt, ia_le, ia_eq, ia_m1, ia_0, ia_1, ne_eq, true_and, and_true, false_and, and_false, or_false, false_or, or_true, true_or, not_true_eq_false, not_false_eq_true] at *
  all_goals omega
set_option maxRecDepth 20000 in
theorem lf_e_doStir_34 (f27 : Nat → Int32) (k47 : Nat) (n54 : Nat) (y155 : Int32) (j29 : AP36 f27) (j49 : k47 ≤ 36) (hm56 : 36 - k47 < n54 + 1) (c57 : k47 < 36) (e156 : y155 = f27 k47) : k47 < 36 := by
  have b_y155 := ia_b y155
  try simp only [ia_lt, ia_le, ia_eq, ia_m1, ia_0, ia_1, ne_eq, true_and, and_true, false_and, and_false, or_false, false_or, or_true, true_or, not_true_eq_false, not_false_eq_true] at *
  all_goals omega
set_option maxRecDepth 20000 in
theorem lf_e_doStir_35 (f27 : Nat → Int32) (k47 : Nat) (n54 : Nat) (y155 : Int32) (j29 : AP36 f27) (j49 : k47 ≤ 36) (hm56 : 36 - k47 < n54 + 1) (c57 : k47 < 36) (e156 : y155 = f27 k47) (b157 : 0 ≤ y155.toInt) (b158 : y155.toInt ≤ 9) : 0 ≤ (y155).toInt := by
  have b_y155 := ia_b y155
  try simp only [ia_lt, ia_le, ia_eq, ia_m1, ia_0, ia_1, ne_eq, true_and, and_true, false_and, and_false, or_false, false_or, or_true, true_or, not_true_eq_false, not_false_eq_true] at *
  all_goals omega
set_option maxRecDepth 20000 in
theorem lf_e_doStir_36 (f27 : Nat → Int32) (k47 : Nat) (n54 : Nat) (y155 : Int32) (j29 : AP36 f27) (j49 : k47 ≤ 36) (hm56 : 36 - k47 < n54 + 1) (c57 : k47 < 36) (e156 : y155 = f27 k47) (b157 : 0 ≤ y155.toInt) (b158 : y155.toInt ≤ 9) : (y155).toInt ≤ 9 := by
  have b_y155 := ia_b y155
  try simp only [ia_lt, ia_le, ia_eq, ia_m1, ia_0, ia_1, ne_eq, true_and, and_true, false_and, and_false, or_false, false_or, or_true, true_or, not_true_eq_false, not_false_eq_true] at *
  all_goals omega
set_option maxRecDepth 20000 in
theorem lf_e_doStir_37 (f27 : Nat → Int32) (k47 : Nat) (n54 : Nat) (y155 : Int32) (j29 : AP36 f27) (j49 : k47 ≤ 36) (hm56 : 36 - k47 < n54 + 1) (c57 : k47 < 36) (e156 : y155 = f27 k47) (b157 : 0 ≤ y155.toInt) (b158 : y155.toInt ≤ 9) : (71 + k47) < 373 := by
  have b_y155 := ia_b y155
  try simp only [ia_lt, ia_le, ia_eq, ia_m1, ia_0, ia_1, ne_eq, true_and, and_true, false_and, and_false, or_false, false_or, or_true, true_or, not_true_eq_false, not_false_eq_true] at *
  all_goals omega
set_option maxRecDepth 20000 in
theorem lf_e_doStir_38 (f27 : Nat → Int32) (k47 : Nat) (n54 : Nat) (y155 : Int32) (j29 : AP36 f27) (j49 : k47 ≤ 36) (hm56 : 36 - k47 < n54 + 1) (c57 : k47 < 36) (e156 : y155 = f27 k47) (b157 : 0 ≤ y155.toInt) (b158 : y155.toInt ≤ 9) : 71 ≤ (71 + k47) := by
  have b_y155 := ia_b y155
  try simp only [ia_lt, ia_le, ia_eq, ia_m1, ia_0, ia_1, ne_eq, true_and, and_true, false_and, and_false, or_false, false_or, or_true, true_or, not_true_eq_false, not_false_eq_true] at *
  all_goals omega
set_option maxRecDepth 20000 in
theorem lf_e_doStir_39 (f27 : Nat → Int32) (k47 : Nat) (n54 : Nat) (y155 : Int32) (j29 : AP36 f27) (j49 : k47 ≤ 36) (hm56 : 36 - k47 < n54 + 1) (c57 : k47 < 36) (e156 : y155 = f27 k47) (b157 : 0 ≤ y155.toInt) (b158 : y155.toInt ≤ 9) : (71 + k47) < 107 := by
  have b_y155 := ia_b y155
  try simp only [ia_lt, ia_le, ia_eq, ia_m1, ia_0, ia_1, ne_eq, true_and, and_true, false_and, and_false, or_false, false_or, or_true, true_or, not_true_eq_false, not_false_eq_true] at *
  all_goals omega
set_option maxRecDepth 20000 in
theorem lf_e_doStir_40 (f27 : Nat → Int32) (k47 : Nat) (n54 : Nat) (y155 : Int32) (j29 : AP36 f27) (j49 : k47 ≤ 36) (hm56 : 36 - k47 < n54 + 1) (c57 : k47 < 36) (e156 : y155 = f27 k47) (b157 : 0 ≤ y155.toInt) (b158 : y155.toInt ≤ 9) : 67 ≤ (71 + k47) := by
  have b_y155 := ia_b y155
  try simp only [ia_lt, ia_le, ia_eq, ia_m1, ia_0, ia_1, ne_eq, true_and, and_true, false_and, and_false, or_false, false_or, or_true, true_or, not_true_eq_false, not_false_eq_true] at *
  all_goals omega
set_option maxRecDepth 20000 in
theorem lf_e_doStir_41 (f27 : Nat → Int32) (k47 : Nat) (n54 : Nat) (y155 : Int32) (j29 : AP36 f27) (j49 : k47 ≤ 36) (hm56 : 36 - k47 < n54 + 1) (c57 : k47 < 36) (e156 : y155 = f27 k47) (b157 : 0 ≤ y155.toInt) (b158 : y155.toInt ≤ 9) : (k47 + 1) ≤ 36 := by
  have b_y155 := ia_b y155
  try simp only [ia_lt, ia_le, ia_eq, ia_m1, ia_0, ia_1, ne_eq, true_and, and_true, false_and, and_false, or_false, false_or, or_true, true_or, not_true_eq_false, not_false_eq_true] at *
  all_goals omega
set_option maxRecDepth 20000 in
theorem lf_e_doStir_42 (f27 : Nat → Int32) (k47 : Nat) (n54 : Nat) (y155 : Int32) (j29 : AP36 f27) (j49 : k47 ≤ 36) (hm56 : 36 - k47 < n54 + 1) (c57 : k47 < 36) (e156 : y155 = f27 k47) (b157 : 0 ≤ y155.toInt) (b158 : y155.toInt ≤ 9) : 36 - (k47 + 1) < n54 := by
  have b_y155 := ia_b y155
  try simp only [ia_lt, ia_le, ia_eq, ia_m1, ia_0, ia_1, ne_eq, true_and, and_true, false_and, and_false, or_false, false_or, or_true, true_or, not_true_eq_false, not_false_eq_true] at *
  all_goals omega
set_option maxRecDepth 20000 in
theorem lf_e_doStir_43   : 0 ≤ 36 := by
  try simp only [ia_lt, ia_le, ia_eq, ia_m1, ia_0, ia_1, ne_eq, true_and, and_true, false_and, and_false, or_false, false_or, or_true, true_or, not_true_eq_false, not_false_eq_true] at *
  all_goals omega
set_option maxRecDepth 20000 in
theorem lf_e_doStir_44 (knowF : Nat → Int32) (kn0 : Nat → Int32) (k26 : Nat) (n31 : Nat) (ab_now : NB knowF) (sb_now : SB knowF) (he0 : HE kn0 knowF) (j28 : k26 ≤ 36) (hm33 : 36 - k26 < n31 + 1) (c34 : k26 < 36) (t166 : inS knowF k26) : 0 ≤ (nI k26).toInt ∧ (nI k26).toInt ≤ 35 := by
  try have k_0 := ia_n k26 (by first | decide | omega)
  try simp only [ia_lt, ia_le, ia_eq, ia_m1, ia_0, ia_1, ne_eq, true_and, and_true, false_and, and_false, or_false, false_or, or_true, true_or, not_true_eq_false, not_false_eq_true] at *
  all_goals omega
set_option maxRecDepth 20000 in
theorem lf_e_doStir_45 (knowF : Nat → Int32) (kn0 : Nat → Int32) (k26 : Nat) (n31 : Nat) (y174 : Int32) (ab_now : NB knowF) (sb_now : SB knowF) (he0 : HE kn0 knowF) (j28 : k26 ≤ 36) (hm33 : 36 - k26 < n31 + 1) (c34 : k26 < 36) (t166 : inS knowF k26) (e175 : y174 = knowF (71 + k26)) : (71 + k26) < 373 := by
  have b_y174 := ia_b y174
  try simp only [ia_lt, ia_le, ia_eq, ia_m1, ia_0, ia_1, ne_eq, true_and, and_true, false_and, and_false, or_false, false_or, or_true, true_or, not_true_eq_false, not_false_eq_true] at *
  all_goals omega
set_option maxRecDepth 20000 in
theorem lf_e_doStir_46 (knowF : Nat → Int32) (kn0 : Nat → Int32) (k26 : Nat) (n31 : Nat) (y174 : Int32) (ab_now : NB knowF) (sb_now : SB knowF) (he0 : HE kn0 knowF) (j28 : k26 ≤ 36) (hm33 : 36 - k26 < n31 + 1) (c34 : k26 < 36) (t166 : inS knowF k26) (e175 : y174 = knowF (71 + k26)) : 71 ≤ (71 + k26) := by
  have b_y174 := ia_b y174
  try simp only [ia_lt, ia_le, ia_eq, ia_m1, ia_0, ia_1, ne_eq, true_and, and_true, false_and, and_false, or_false, false_or, or_true, true_or, not_true_eq_false, not_false_eq_true] at *
  all_goals omega
set_option maxRecDepth 20000 in
theorem lf_e_doStir_47 (knowF : Nat → Int32) (kn0 : Nat → Int32) (k26 : Nat) (n31 : Nat) (y174 : Int32) (ab_now : NB knowF) (sb_now : SB knowF) (he0 : HE kn0 knowF) (j28 : k26 ≤ 36) (hm33 : 36 - k26 < n31 + 1) (c34 : k26 < 36) (t166 : inS knowF k26) (e175 : y174 = knowF (71 + k26)) : (71 + k26) < 107 := by
  have b_y174 := ia_b y174
  try simp only [ia_lt, ia_le, ia_eq, ia_m1, ia_0, ia_1, ne_eq, true_and, and_true, false_and, and_false, or_false, false_or, or_true, true_or, not_true_eq_false, not_false_eq_true] at *
  all_goals omega
set_option maxRecDepth 20000 in
theorem lf_e_doStir_48 (knowF : Nat → Int32) (kn0 : Nat → Int32) (k26 : Nat) (n31 : Nat) (y174 : Int32) (ab_now : NB knowF) (sb_now : SB knowF) (he0 : HE kn0 knowF) (j28 : k26 ≤ 36) (hm33 : 36 - k26 < n31 + 1) (c34 : k26 < 36) (t166 : inS knowF k26) (e175 : y174 = knowF (71 + k26)) (b176 : 0 ≤ y174.toInt) (b177 : y174.toInt ≤ 9) : 0 ≤ (y174).toInt := by
  have b_y174 := ia_b y174
  try simp only [ia_lt, ia_le, ia_eq, ia_m1, ia_0, ia_1, ne_eq, true_and, and_true, false_and, and_false, or_false, false_or, or_true, true_or, not_true_eq_false, not_false_eq_true] at *
  all_goals omega
set_option maxRecDepth 20000 in
theorem lf_e_doStir_49 (knowF : Nat → Int32) (kn0 : Nat → Int32) (k26 : Nat) (n31 : Nat) (y174 : Int32) (ab_now : NB knowF) (sb_now : SB knowF) (he0 : HE kn0 knowF) (j28 : k26 ≤ 36) (hm33 : 36 - k26 < n31 + 1) (c34 : k26 < 36) (t166 : inS knowF k26) (e175 : y174 = knowF (71 + k26)) (b176 : 0 ≤ y174.toInt) (b177 : y174.toInt ≤ 9) : (y174).toInt ≤ 9 := by
  have b_y174 := ia_b y174
  try simp only [ia_lt, ia_le, ia_eq, ia_m1, ia_0, ia_1, ne_eq, true_and, and_true, false_and, and_false, or_false, false_or, or_true, true_or, not_true_eq_false, not_false_eq_true] at *
  all_goals omega
set_option maxRecDepth 20000 in
theorem lf_e_doStir_50 (k171 : Nat) (h173 : k171 < 36) : k171 < 36 := by
  try simp only [ia_lt, ia_le, ia_eq, ia_m1, ia_0, ia_1, ne_eq, true_and, and_true, false_and, and_false, or_false, false_or, or_true, true_or, not_true_eq_false, not_false_eq_true] at *
  all_goals omega
set_option maxRecDepth 20000 in
theorem lf_e_doStir_51 (k171 : Nat) (h173 : k171 < 36) : 0 ≤ k171 := by
  try simp only [ia_lt, ia_le, ia_eq, ia_m1, ia_0, ia_1, ne_eq, true_and, and_true, false_and, and_false, or_false, false_or, or_true, true_or, not_true_eq_false, not_false_eq_true] at *
  all_goals omega
set_option maxRecDepth 20000 in
theorem lf_e_doStir_52 (k171 : Nat) (h173 : k171 < 36) : k171 < 36 := by
  try simp only [ia_lt, ia_le, ia_eq, ia_m1, ia_0, ia_1, ne_eq, true_and, and_true, false_and, and_false, or_false, false_or, or_true, true_or, not_true_eq_false, not_false_eq_true] at *
  all_goals omega
set_option maxRecDepth 20000 in
theorem lf_e_doStir_53 (knowF : Nat → Int32) (kn0 : Nat → Int32) (k26 : Nat) (n31 : Nat) (y174 : Int32) (ab_now : NB knowF) (sb_now : SB knowF) (he0 : HE kn0 knowF) (j28 : k26 ≤ 36) (hm33 : 36 - k26 < n31 + 1) (c34 : k26 < 36) (t166 : inS knowF k26) (e175 : y174 = knowF (71 + k26)) (b176 : 0 ≤ y174.toInt) (b177 : y174.toInt ≤ 9) : (k26 + 1) ≤ 36 := by
  have b_y174 := ia_b y174
  try simp only [ia_lt, ia_le, ia_eq, ia_m1, ia_0, ia_1, ne_eq, true_and, and_true, false_and, and_false, or_false, false_or, or_true, true_or, not_true_eq_false, not_false_eq_true] at *
  all_goals omega
set_option maxRecDepth 20000 in
theorem lf_e_doStir_54 (knowF : Nat → Int32) (kn0 : Nat → Int32) (k26 : Nat) (n31 : Nat) (y174 : Int32) (ab_now : NB knowF) (sb_now : SB knowF) (he0 : HE kn0 knowF) (j28 : k26 ≤ 36) (hm33 : 36 - k26 < n31 + 1) (c34 : k26 < 36) (t166 : inS knowF k26) (e175 : y174 = knowF (71 + k26)) (b176 : 0 ≤ y174.toInt) (b177 : y174.toInt ≤ 9) : 36 - (k26 + 1) < n31 := by
  have b_y174 := ia_b y174
  try simp only [ia_lt, ia_le, ia_eq, ia_m1, ia_0, ia_1, ne_eq, true_and, and_true, false_and, and_false, or_false, false_or, or_true, true_or, not_true_eq_false, not_false_eq_true] at *
  all_goals omega
set_option maxRecDepth 20000 in
theorem lf_e_doStir_55 (knowF : Nat → Int32) (kn0 : Nat → Int32) (k26 : Nat) (n31 : Nat) (ab_now : NB knowF) (sb_now : SB knowF) (he0 : HE kn0 knowF) (j28 : k26 ≤ 36) (hm33 : 36 - k26 < n31 + 1) (c34 : k26 < 36) (t167 : ¬ inS knowF k26) : (k26 + 1) ≤ 36 := by
  try simp only [ia_lt, ia_le, ia_eq, ia_m1, ia_0, ia_1, ne_eq, true_and, and_true, false_and, and_false, or_false, false_or, or_true, true_or, not_true_eq_false, not_false_eq_true] at *
  all_goals omega
set_option maxRecDepth 20000 in
theorem lf_e_doStir_56 (knowF : Nat → Int32) (kn0 : Nat → Int32) (k26 : Nat) (n31 : Nat) (ab_now : NB knowF) (sb_now : SB knowF) (he0 : HE kn0 knowF) (j28 : k26 ≤ 36) (hm33 : 36 - k26 < n31 + 1) (c34 : k26 < 36) (t167 : ¬ inS knowF k26) : 36 - (k26 + 1) < n31 := by
  try simp only [ia_lt, ia_le, ia_eq, ia_m1, ia_0, ia_1, ne_eq, true_and, and_true, false_and, and_false, or_false, false_or, or_true, true_or, not_true_eq_false, not_false_eq_true] at *
  all_goals omega
set_option maxRecDepth 20000 in
theorem lf_e_doStir_57   : 0 ≤ 36 := by
  try simp only [ia_lt, ia_le, ia_eq, ia_m1, ia_0, ia_1, ne_eq, true_and, and_true, false_and, and_false, or_false, false_or, or_true, true_or, not_true_eq_false, not_false_eq_true] at *
  all_goals omega
set_option maxRecDepth 20000 in
theorem lf_e_doStir_58   : 0 ≤ (nI 0).toInt := by
  try have k_0 := ia_n 0 (by first | decide | omega)
  try simp only [ia_lt, ia_le, ia_eq, ia_m1, ia_0, ia_1, ne_eq, true_and, and_true, false_and, and_false, or_false, false_or, or_true, true_or, not_true_eq_false, not_false_eq_true] at *
  all_goals omega
set_option maxRecDepth 20000 in
theorem lf_e_doStir_59   : (nI 0).toInt ≤ 9 := by
  try have k_0 := ia_n 0 (by first | decide | omega)
  try simp only [ia_lt, ia_le, ia_eq, ia_m1, ia_0, ia_1, ne_eq, true_and, and_true, false_and, and_false, or_false, false_or, or_true, true_or, not_true_eq_false, not_false_eq_true] at *
  all_goals omega
set_option maxRecDepth 20000 in
theorem lf_e_doStir_60 (k9 : Nat) (n14 : Nat) (j11 : k9 ≤ 36) (hm16 : 36 - k9 < n14 + 1) (c17 : k9 < 36) : k9 < 36 := by
  try simp only [ia_lt, ia_le, ia_eq, ia_m1, ia_0, ia_1, ne_eq, true_and, and_true, false_and, and_false, or_false, false_or, or_true, true_or, not_true_eq_false, not_false_eq_true] at *
  all_goals omega
set_option maxRecDepth 20000 in
theorem lf_e_doStir_61 (k9 : Nat) (n14 : Nat) (j11 : k9 ≤ 36) (hm16 : 36 - k9 < n14 + 1) (c17 : k9 < 36) : 0 ≤ k9 := by
  try simp only [ia_lt, ia_le, ia_eq, ia_m1, ia_0, ia_1, ne_eq, true_and, and_true, false_and, and_false, or_false, false_or, or_true, true_or, not_true_eq_false, not_false_eq_true] at *
  all_goals omega
set_option maxRecDepth 20000 in
theorem lf_e_doStir_62 (k9 : Nat) (n14 : Nat) (j11 : k9 ≤ 36) (hm16 : 36 - k9 < n14 + 1) (c17 : k9 < 36) : k9 < 36 := by
  try simp only [ia_lt, ia_le, ia_eq, ia_m1, ia_0, ia_1, ne_eq, true_and, and_true, false_and, and_false, or_false, false_or, or_true, true_or, not_true_eq_false, not_false_eq_true] at *
  all_goals omega
set_option maxRecDepth 20000 in
theorem lf_e_doStir_63 (k9 : Nat) (n14 : Nat) (j11 : k9 ≤ 36) (hm16 : 36 - k9 < n14 + 1) (c17 : k9 < 36) : (k9 + 1) ≤ 36 := by
  try simp only [ia_lt, ia_le, ia_eq, ia_m1, ia_0, ia_1, ne_eq, true_and, and_true, false_and, and_false, or_false, false_or, or_true, true_or, not_true_eq_false, not_false_eq_true] at *
  all_goals omega
set_option maxRecDepth 20000 in
theorem lf_e_doStir_64 (k9 : Nat) (n14 : Nat) (j11 : k9 ≤ 36) (hm16 : 36 - k9 < n14 + 1) (c17 : k9 < 36) : 36 - (k9 + 1) < n14 := by
  try simp only [ia_lt, ia_le, ia_eq, ia_m1, ia_0, ia_1, ne_eq, true_and, and_true, false_and, and_false, or_false, false_or, or_true, true_or, not_true_eq_false, not_false_eq_true] at *
  all_goals omega
set_option maxRecDepth 20000 in
theorem lf_e_doStir_65   : 0 ≤ 36 := by
  try simp only [ia_lt, ia_le, ia_eq, ia_m1, ia_0, ia_1, ne_eq, true_and, and_true, false_and, and_false, or_false, false_or, or_true, true_or, not_true_eq_false, not_false_eq_true] at *
  all_goals omega
set_option maxHeartbeats 4000000 in
set_option maxRecDepth 100000 in
theorem c_e_doStir (l : Launch) (dC : Nat → ClassId) (dI : Nat → Nat → Nat) (ky : Nat → ClassId) (sz : Nat) (o : Nat) (kthrown : Int32) (ktape : Nat) (ktaped : Nat) (ksize : Nat) (klimit : Nat) (kto : Nat) (kfrom : Nat) (kkind : Int32) (knumber : Int32) (ksign : Int32) (kfault : Int32) (kplace : Int32) (kword : Int64) (ktold : Int32) (know : Nat) (kread : Nat) (kkept : Nat) (ksnaps : Nat) (kaside : Nat) (kname : Nat) (kreadName : Nat) (kkeptName : Nat) (kisKept : Nat) (konces : Nat) (ksnapMany : Nat) (khasCells : Int32) (kpoured : Nat) (kfar : Nat) (ksides : Nat) (ksideMany : Nat) (kwayDays : Int32) (khasWay : Int32) (klines : Nat) (kmet : Nat) (kmetMany : Nat) (ksunk : Nat) (ktrying : Nat) (ksunkMany : Nat) (ksending : Int32) (kfleets : Int32) (ktext : Nat) (ktexts : Nat) (kseed : Int32) (kline : Nat) (kwritten : Nat) (klineMany : Nat) (khasWritten : Int32) (knode : Nat) (knodes : Nat) (konesMany : Nat) (kwithin : Nat) (ktop : Nat) (knowF : Nat → Int32) (kpouredF : Nat → Int32) (kn0 : Nat → Int32) (x : Int32) (iv_ko_0 : ktaped ≤ 940) (iv_ko_1 : ksize ≤ 940) (iv_ko_2 : klimit ≤ 900) (iv_ko_3 : kto ≤ ksize) (iv_ko_4 : kfrom ≤ 940) (iv_ko_5 : ksnapMany ≤ 8) (iv_ko_6 : ksideMany ≤ 36) (iv_ko_7 : kmetMany ≤ 3) (iv_ko_8 : ksunkMany ≤ 36) (iv_ko_9 : ktexts ≤ 64) (iv_ko_10 : klineMany ≤ 40) (iv_ko_11 : knodes ≤ 60) (iv_ko_12 : konesMany ≤ 20) (iv_ko_13 : kwithin ≤ 8) (iv_ko_14 : ktop ≤ 59) (ab_now : NB knowF) (ab_poured : AP36 kpouredF) (sb_now : SB knowF) (hl_x : 0 ≤ x.toInt ∧ x.toInt ≤ 23) (he0 : HE kn0 knowF) : Met l yX12_doStir wsX12_doStir ({ frames := 1, cells := 0, slots := 0, locals := 27 }) (PcU dC dI ky [.ref o, .int x] [(o, .inr (12, [.int kthrown, .ref ktape, .int (nI ktaped), .int (nI ksize), .int (nI klimit), .int (nI kto), .int (nI kfrom), .int kkind, .int knumber, .int ksign, .int kfault, .int kplace, .long kword, .int ktold, .ref know, .ref kread, .ref kkept, .ref ksnaps, .ref kaside, .ref kname, .ref kreadName, .ref kkeptName, .ref kisKept, .ref konces, .int (nI ksnapMany), .int khasCells, .ref kpoured, .ref kfar, .ref ksides, .int (nI ksideMany), .int kwayDays, .int khasWay, .ref klines, .ref kmet, .int (nI kmetMany), .ref ksunk, .ref ktrying, .int (nI ksunkMany), .int ksending, .int kfleets, .ref ktext, .int (nI ktexts), .int kseed, .ref kline, .ref kwritten, .int (nI klineMany), .int khasWritten, .ref knode, .int (nI knodes), .int (nI konesMany), .int (nI kwithin), .int (nI ktop)])), (know, .inl (ky 0, 373, .inl knowF)), (kpoured, .inl (ky 0, 36, .inl kpouredF))] sz) (va_Qv (fun (u : (Nat → Int32) × (Nat → Int32)) => match u with | (knowG, kpouredG) => (NB knowG) ∧ (SB knowG) ∧ (AP36 kpouredG) ∧ (HE kn0 knowG)) (BU dC dI ky (fun (u : (Nat → Int32) × (Nat → Int32)) => match u with | (knowG, kpouredG) => [(o, .inr (12, [.int kthrown, .ref ktape, .int (nI ktaped), .int (nI ksize), .int (nI klimit), .int (nI kto), .int (nI kfrom), .int kkind, .int knumber, .int ksign, .int kfault, .int kplace, .long kword, .int ktold, .ref know, .ref kread, .ref kkept, .ref ksnaps, .ref kaside, .ref kname, .ref kreadName, .ref kkeptName, .ref kisKept, .ref konces, .int (nI ksnapMany), .int khasCells, .ref kpoured, .ref kfar, .ref ksides, .int (nI ksideMany), .int kwayDays, .int khasWay, .ref klines, .ref kmet, .int (nI kmetMany), .ref ksunk, .ref ktrying, .int (nI ksunkMany), .int ksending, .int kfleets, .ref ktext, .int (nI ktexts), .int kseed, .ref kline, .ref kwritten, .int (nI klineMany), .int khasWritten, .ref knode, .int (nI knodes), .int (nI konesMany), .int (nI kwithin), .int (nI ktop)])), (know, .inl (ky 0, 373, .inl knowG)), (kpoured, .inl (ky 0, 36, .inl kpouredG))]) (va_A [(o, .inr (12, [.int kthrown, .ref ktape, .int (nI ktaped), .int (nI ksize), .int (nI klimit), .int (nI kto), .int (nI kfrom), .int kkind, .int knumber, .int ksign, .int kfault, .int kplace, .long kword, .int ktold, .ref know, .ref kread, .ref kkept, .ref ksnaps, .ref kaside, .ref kname, .ref kreadName, .ref kkeptName, .ref kisKept, .ref konces, .int (nI ksnapMany), .int khasCells, .ref kpoured, .ref kfar, .ref ksides, .int (nI ksideMany), .int kwayDays, .int khasWay, .ref klines, .ref kmet, .int (nI kmetMany), .ref ksunk, .ref ktrying, .int (nI ksunkMany), .int ksending, .int kfleets, .ref ktext, .int (nI ktexts), .int kseed, .ref kline, .ref kwritten, .int (nI klineMany), .int khasWritten, .ref knode, .int (nI knodes), .int (nI konesMany), .int (nI kwithin), .int (nI ktop)])), (know, .inl (ky 0, 373, .inl knowF)), (kpoured, .inl (ky 0, 36, .inl kpouredF))] sz)) (va_A [(o, .inr (12, [.int kthrown, .ref ktape, .int (nI ktaped), .int (nI ksize), .int (nI klimit), .int (nI kto), .int (nI kfrom), .int kkind, .int knumber, .int ksign, .int kfault, .int kplace, .long kword, .int ktold, .ref know, .ref kread, .ref kkept, .ref ksnaps, .ref kaside, .ref kname, .ref kreadName, .ref kkeptName, .ref kisKept, .ref konces, .int (nI ksnapMany), .int khasCells, .ref kpoured, .ref kfar, .ref ksides, .int (nI ksideMany), .int kwayDays, .int khasWay, .ref klines, .ref kmet, .int (nI kmetMany), .ref ksunk, .ref ktrying, .int (nI ksunkMany), .int ksending, .int kfleets, .ref ktext, .int (nI ktexts), .int kseed, .ref kline, .ref kwritten, .int (nI klineMany), .int khasWritten, .ref knode, .int (nI knodes), .int (nI konesMany), .int (nI kwithin), .int (nI ktop)])), (know, .inl (ky 0, 373, .inl knowF)), (kpoured, .inl (ky 0, 36, .inl kpouredF))] sz)) 0 0 (va_A [(o, .inr (12, [.int kthrown, .ref ktape, .int (nI ktaped), .int (nI ksize), .int (nI klimit), .int (nI kto), .int (nI kfrom), .int kkind, .int knumber, .int ksign, .int kfault, .int kplace, .long kword, .int ktold, .ref know, .ref kread, .ref kkept, .ref ksnaps, .ref kaside, .ref kname, .ref kreadName, .ref kkeptName, .ref kisKept, .ref konces, .int (nI ksnapMany), .int khasCells, .ref kpoured, .ref kfar, .ref ksides, .int (nI ksideMany), .int kwayDays, .int khasWay, .ref klines, .ref kmet, .int (nI kmetMany), .ref ksunk, .ref ktrying, .int (nI ksunkMany), .int ksending, .int kfleets, .ref ktext, .int (nI ktexts), .int kseed, .ref kline, .ref kwritten, .int (nI klineMany), .int khasWritten, .ref knode, .int (nI knodes), .int (nI konesMany), .int (nI kwithin), .int (nI ktop)])), (know, .inl (ky 0, 373, .inl knowF)), (kpoured, .inl (ky 0, 36, .inl kpouredF))] sz) := by
  refine Met.ofW (cc := cX12_doStir) (maxL := 3) (ret := none) (by decide) rfl ?_
  intro p e s m args below meth c s₁ B hml hv
  obtain ⟨rfl, hsz, hP, hK, hD0⟩ := hv
  have hx := B.exec
  have hb := B.bytes
  have hr := B.returns
  have hts := atoms_spec (ws := wsX12_doStir) B.pre
  have hown : s.vm.findClass RX12 = some m.cls := findClass_of_methodNamed B.named
  have hlocks := B.notSynchronized
  have hin12 : ∀ w ∈ u_ws RX12 TX12 52, w ∈ wsX12_doStir := by decide +kernel
  subst hsz
  have hD := hD0.self (sz := s.heap.size)
  generalize hAe : va_A [(o, .inr (12, [.int kthrown, .ref ktape, .int (nI ktaped), .int (nI ksize), .int (nI klimit), .int (nI kto), .int (nI kfrom), .int kkind, .int knumber, .int ksign, .int kfault, .int kplace, .long kword, .int ktold, .ref know, .ref kread, .ref kkept, .ref ksnaps, .ref kaside, .ref kname, .ref kreadName, .ref kkeptName, .ref kisKept, .ref konces, .int (nI ksnapMany), .int khasCells, .ref kpoured, .ref kfar, .ref ksides, .int (nI ksideMany), .int kwayDays, .int khasWay, .ref klines, .ref kmet, .int (nI kmetMany), .ref ksunk, .ref ktrying, .int (nI ksunkMany), .int ksending, .int kfleets, .ref ktext, .int (nI ktexts), .int kseed, .ref kline, .ref kwritten, .int (nI klineMany), .int khasWritten, .ref knode, .int (nI knodes), .int (nI konesMany), .int (nI kwithin), .int (nI ktop)])), (know, .inl (ky 0, 373, .inl knowF)), (kpoured, .inl (ky 0, 36, .inl kpouredF))] s.heap.size = A at hD ⊢
  have hA : ∀ q : Nat, s.heap.size ≤ q → A q := fun q h => by rw [← hAe]; exact Or.inr h
  have hS : va_S A s.heap s.heap [] := va_S.rf
  have hl := lv_entry ([.ref o, .int x]) (n := 3) (Nat.le_of_ble_eq_true rfl)
  rw [lg_entry_eq]
  generalize (lg_sl ([.ref o, .int x]) ++ List.replicate (3 - (lg_sl ([.ref o, .int x])).length) Slot.unset).toArray = ls at hl ⊢
  have hl : lv_has ls 3 [(0, .ref o), (1, .int x)] := hl
  refine q_name (fun Q hQ => ?_)
  generalize ([.ref o, .int x] : List Value).toArray = args at hts hQ ⊢
  refine lv_iconst (v := nI 0) hx hb dX12_doStir_0 (by decide) ?_
  refine lv_istore_n (lv' := [(2, .int (nI 0)), (0, .ref o), (1, .int x)]) hx hb dX12_doStir_1 rfl hl (by decide) rfl (fun ls hl => ?_)
  have hL13 : ∀ (n14 : Nat) (k9 : Nat) (f10 : Nat → Int32), (k9 ≤ 36) → (AP36 f10) → 36 - k9 < n14 → ∀ (H : Heap) (locs : List Loc) (ls : Array Slot), va_P (dC, dI) vwCl [(o, .inr (12, [.int kthrown, .ref ktape, .int (nI ktaped), .int (nI ksize), .int (nI klimit), .int (nI kto), .int (nI kfrom), .int kkind, .int knumber, .int ksign, .int kfault, .int kplace, .long kword, .int ktold, .ref know, .ref kread, .ref kkept, .ref ksnaps, .ref kaside, .ref kname, .ref kreadName, .ref kkeptName, .ref kisKept, .ref konces, .int (nI ksnapMany), .int khasCells, .ref kpoured, .ref kfar, .ref ksides, .int (nI ksideMany), .int kwayDays, .int khasWay, .ref klines, .ref kmet, .int (nI kmetMany), .ref ksunk, .ref ktrying, .int (nI ksunkMany), .int ksending, .int kfleets, .ref ktext, .int (nI ktexts), .int kseed, .ref kline, .ref kwritten, .int (nI klineMany), .int khasWritten, .ref knode, .int (nI knodes), .int (nI konesMany), .int (nI kwithin), .int (nI ktop)])), (know, .inl (ky 0, 373, .inl knowF)), (kpoured, .inl (ky 0, 36, .inl f10))] H → va_D A [(o, .inr (12, [.int kthrown, .ref ktape, .int (nI ktaped), .int (nI ksize), .int (nI klimit), .int (nI kto), .int (nI kfrom), .int kkind, .int knumber, .int ksign, .int kfault, .int kplace, .long kword, .int ktold, .ref know, .ref kread, .ref kkept, .ref ksnaps, .ref kaside, .ref kname, .ref kreadName, .ref kkeptName, .ref kisKept, .ref konces, .int (nI ksnapMany), .int khasCells, .ref kpoured, .ref kfar, .ref ksides, .int (nI ksideMany), .int kwayDays, .int khasWay, .ref klines, .ref kmet, .int (nI kmetMany), .ref ksunk, .ref ktrying, .int (nI ksunkMany), .int ksending, .int kfleets, .ref ktext, .int (nI ktexts), .int kseed, .ref kline, .ref kwritten, .int (nI klineMany), .int khasWritten, .ref knode, .int (nI knodes), .int (nI konesMany), .int (nI kwithin), .int (nI ktop)])), (know, .inl (ky 0, 373, .inl knowF)), (kpoured, .inl (ky 0, 36, .inl f10))] → va_S A s.heap H locs → lv_has ls 3 [(2, .int (nI k9)), (0, .ref o), (1, .int x)] → W p l e (headSpec wsX12_doStir ({ frames := 1, cells := 0, slots := 0, locals := 27 })).room s m args below meth c H locs 0 0 Q (F0 m 2 ls []) := by
    intro n14
    induction n14 with
    | zero => intro k9 f10 _ _ h9; exact absurd h9 (Nat.not_lt_zero _)
    | succ n14 ih15 =>
      intro k9 f10 j11 j12 hm16 H locs ls hP hD hS hl
      refine lv_iload_n hx hb dX12_doStir_2 rfl (lv_at hl 0 rfl) ?_
      refine lv_bipush (v := nI 36) hx hb dX12_doStir_3 (by decide) ?_
      refine n_icmp_ge (x := k9) (y := 36) (tgt := 21) hx hb (by omega) (by omega) dX12_doStir_5 (by decide) (fun c17 => ?_) (fun c17 => ?_)
      · refine lv_iconst (v := nI 0) hx hb dX12_doStir_21 (by decide) ?_
        refine lv_istore_n (lv' := [(2, .int (nI 0)), (0, .ref o), (1, .int x)]) hx hb dX12_doStir_22 rfl hl (by decide) rfl (fun ls hl => ?_)
        have hL30 : ∀ (n31 : Nat) (k26 : Nat) (f27 : Nat → Int32), (k26 ≤ 36) → (AP36 f27) → 36 - k26 < n31 → ∀ (H : Heap) (locs : List Loc) (ls : Array Slot), va_P (dC, dI) vwCl [(o, .inr (12, [.int kthrown, .ref ktape, .int (nI ktaped), .int (nI ksize), .int (nI klimit), .int (nI kto), .int (nI kfrom), .int kkind, .int knumber, .int ksign, .int kfault, .int kplace, .long kword, .int ktold, .ref know, .ref kread, .ref kkept, .ref ksnaps, .ref kaside, .ref kname, .ref kreadName, .ref kkeptName, .ref kisKept, .ref konces, .int (nI ksnapMany), .int khasCells, .ref kpoured, .ref kfar, .ref ksides, .int (nI ksideMany), .int kwayDays, .int khasWay, .ref klines, .ref kmet, .int (nI kmetMany), .ref ksunk, .ref ktrying, .int (nI ksunkMany), .int ksending, .int kfleets, .ref ktext, .int (nI ktexts), .int kseed, .ref kline, .ref kwritten, .int (nI klineMany), .int khasWritten, .ref knode, .int (nI knodes), .int (nI konesMany), .int (nI kwithin), .int (nI ktop)])), (know, .inl (ky 0, 373, .inl knowF)), (kpoured, .inl (ky 0, 36, .inl f27))] H → va_D A [(o, .inr (12, [.int kthrown, .ref ktape, .int (nI ktaped), .int (nI ksize), .int (nI klimit), .int (nI kto), .int (nI kfrom), .int kkind, .int knumber, .int ksign, .int kfault, .int kplace, .long kword, .int ktold, .ref know, .ref kread, .ref kkept, .ref ksnaps, .ref kaside, .ref kname, .ref kreadName, .ref kkeptName, .ref kisKept, .ref konces, .int (nI ksnapMany), .int khasCells, .ref kpoured, .ref kfar, .ref ksides, .int (nI ksideMany), .int kwayDays, .int khasWay, .ref klines, .ref kmet, .int (nI kmetMany), .ref ksunk, .ref ktrying, .int (nI ksunkMany), .int ksending, .int kfleets, .ref ktext, .int (nI ktexts), .int kseed, .ref kline, .ref kwritten, .int (nI klineMany), .int khasWritten, .ref knode, .int (nI knodes), .int (nI konesMany), .int (nI kwithin), .int (nI ktop)])), (know, .inl (ky 0, 373, .inl knowF)), (kpoured, .inl (ky 0, 36, .inl f27))] → va_S A s.heap H locs → lv_has ls 3 [(2, .int (nI k26)), (0, .ref o), (1, .int x)] → W p l e (headSpec wsX12_doStir ({ frames := 1, cells := 0, slots := 0, locals := 27 })).room s m args below meth c H locs 0 0 Q (F0 m 23 ls []) := by
          intro n31
          induction n31 with
          | zero => intro k26 f27 _ _ h9; exact absurd h9 (Nat.not_lt_zero _)
          | succ n31 ih32 =>
            intro k26 f27 j28 j29 hm33 H locs ls hP hD hS hl
            refine lv_iload_n hx hb dX12_doStir_23 rfl (lv_at hl 0 rfl) ?_
            refine lv_bipush (v := nI 36) hx hb dX12_doStir_24 (by decide) ?_
            refine n_icmp_ge (x := k26) (y := 36) (tgt := 63) hx hb (by omega) (by omega) dX12_doStir_26 (by decide) (fun c34 => ?_) (fun c34 => ?_)
            · refine lv_iconst (v := nI 0) hx hb dX12_doStir_63 (by decide) ?_
              refine lv_istore_n (lv' := [(2, .int (nI 0)), (0, .ref o), (1, .int x)]) hx hb dX12_doStir_64 rfl hl (by decide) rfl (fun ls hl => ?_)
              have hL53 : ∀ (n54 : Nat) (k47 : Nat) (f48 : Nat → Int32), (k47 ≤ 36) → (NB f48) → (SB f48) → (HE kn0 f48) → 36 - k47 < n54 → ∀ (H : Heap) (locs : List Loc) (ls : Array Slot), va_P (dC, dI) vwCl [(o, .inr (12, [.int kthrown, .ref ktape, .int (nI ktaped), .int (nI ksize), .int (nI klimit), .int (nI kto), .int (nI kfrom), .int kkind, .int knumber, .int ksign, .int kfault, .int kplace, .long kword, .int ktold, .ref know, .ref kread, .ref kkept, .ref ksnaps, .ref kaside, .ref kname, .ref kreadName, .ref kkeptName, .ref kisKept, .ref konces, .int (nI ksnapMany), .int khasCells, .ref kpoured, .ref kfar, .ref ksides, .int (nI ksideMany), .int kwayDays, .int khasWay, .ref klines, .ref kmet, .int (nI kmetMany), .ref ksunk, .ref ktrying, .int (nI ksunkMany), .int ksending, .int kfleets, .ref ktext, .int (nI ktexts), .int kseed, .ref kline, .ref kwritten, .int (nI klineMany), .int khasWritten, .ref knode, .int (nI knodes), .int (nI konesMany), .int (nI kwithin), .int (nI ktop)])), (know, .inl (ky 0, 373, .inl f48)), (kpoured, .inl (ky 0, 36, .inl f27))] H → va_D A [(o, .inr (12, [.int kthrown, .ref ktape, .int (nI ktaped), .int (nI ksize), .int (nI klimit), .int (nI kto), .int (nI kfrom), .int kkind, .int knumber, .int ksign, .int kfault, .int kplace, .long kword, .int ktold, .ref know, .ref kread, .ref kkept, .ref ksnaps, .ref kaside, .ref kname, .ref kreadName, .ref kkeptName, .ref kisKept, .ref konces, .int (nI ksnapMany), .int khasCells, .ref kpoured, .ref kfar, .ref ksides, .int (nI ksideMany), .int kwayDays, .int khasWay, .ref klines, .ref kmet, .int (nI kmetMany), .ref ksunk, .ref ktrying, .int (nI ksunkMany), .int ksending, .int kfleets, .ref ktext, .int (nI ktexts), .int kseed, .ref kline, .ref kwritten, .int (nI klineMany), .int khasWritten, .ref knode, .int (nI knodes), .int (nI konesMany), .int (nI kwithin), .int (nI ktop)])), (know, .inl (ky 0, 373, .inl f48)), (kpoured, .inl (ky 0, 36, .inl f27))] → va_S A s.heap H locs → lv_has ls 3 [(2, .int (nI k47)), (0, .ref o), (1, .int x)] → W p l e (headSpec wsX12_doStir ({ frames := 1, cells := 0, slots := 0, locals := 27 })).room s m args below meth c H locs 0 0 Q (F0 m 65 ls []) := by
                intro n54
                induction n54 with
                | zero => intro k47 f48 _ _ _ _ h9; exact absurd h9 (Nat.not_lt_zero _)
                | succ n54 ih55 =>
                  intro k47 f48 j49 j50 j51 j52 hm56 H locs ls hP hD hS hl
                  refine lv_iload_n hx hb dX12_doStir_65 rfl (lv_at hl 0 rfl) ?_
                  refine lv_bipush (v := nI 36) hx hb dX12_doStir_66 (by decide) ?_
                  refine n_icmp_ge (x := k47) (y := 36) (tgt := 92) hx hb (by omega) (by omega) dX12_doStir_68 (by decide) (fun c57 => ?_) (fun c57 => ?_)
                  · refine lv_iconst (v := nI 0) hx hb dX12_doStir_92 (by decide) ?_
                    refine lv_istore_n (lv' := [(2, .int (nI 0)), (0, .ref o), (1, .int x)]) hx hb dX12_doStir_93 rfl hl (by decide) rfl (fun ls hl => ?_)
                    have hL76 : ∀ (n77 : Nat) (k70 : Nat) (f71 : Nat → Int32), (k70 ≤ 6) → (NB f71) → (SB f71) → (HE kn0 f71) → 6 - k70 < n77 → ∀ (H : Heap) (locs : List Loc) (ls : Array Slot), va_P (dC, dI) vwCl [(o, .inr (12, [.int kthrown, .ref ktape, .int (nI ktaped), .int (nI ksize), .int (nI klimit), .int (nI kto), .int (nI kfrom), .int kkind, .int knumber, .int ksign, .int kfault, .int kplace, .long kword, .int ktold, .ref know, .ref kread, .ref kkept, .ref ksnaps, .ref kaside, .ref kname, .ref kreadName, .ref kkeptName, .ref kisKept, .ref konces, .int (nI ksnapMany), .int khasCells, .ref kpoured, .ref kfar, .ref ksides, .int (nI ksideMany), .int kwayDays, .int khasWay, .ref klines, .ref kmet, .int (nI kmetMany), .ref ksunk, .ref ktrying, .int (nI ksunkMany), .int ksending, .int kfleets, .ref ktext, .int (nI ktexts), .int kseed, .ref kline, .ref kwritten, .int (nI klineMany), .int khasWritten, .ref knode, .int (nI knodes), .int (nI konesMany), .int (nI kwithin), .int (nI ktop)])), (know, .inl (ky 0, 373, .inl f71)), (kpoured, .inl (ky 0, 36, .inl f27))] H → va_D A [(o, .inr (12, [.int kthrown, .ref ktape, .int (nI ktaped), .int (nI ksize), .int (nI klimit), .int (nI kto), .int (nI kfrom), .int kkind, .int knumber, .int ksign, .int kfault, .int kplace, .long kword, .int ktold, .ref know, .ref kread, .ref kkept, .ref ksnaps, .ref kaside, .ref kname, .ref kreadName, .ref kkeptName, .ref kisKept, .ref konces, .int (nI ksnapMany), .int khasCells, .ref kpoured, .ref kfar, .ref ksides, .int (nI ksideMany), .int kwayDays, .int khasWay, .ref klines, .ref kmet, .int (nI kmetMany), .ref ksunk, .ref ktrying, .int (nI ksunkMany), .int ksending, .int kfleets, .ref ktext, .int (nI ktexts), .int kseed, .ref kline, .ref kwritten, .int (nI klineMany), .int khasWritten, .ref knode, .int (nI knodes), .int (nI konesMany), .int (nI kwithin), .int (nI ktop)])), (know, .inl (ky 0, 373, .inl f71)), (kpoured, .inl (ky 0, 36, .inl f27))] → va_S A s.heap H locs → lv_has ls 3 [(2, .int (nI k70)), (0, .ref o), (1, .int x)] → W p l e (headSpec wsX12_doStir ({ frames := 1, cells := 0, slots := 0, locals := 27 })).room s m args below meth c H locs 0 0 Q (F0 m 94 ls []) := by
                      intro n77
                      induction n77 with
                      | zero => intro k70 f71 _ _ _ _ h9; exact absurd h9 (Nat.not_lt_zero _)
                      | succ n77 ih78 =>
                        intro k70 f71 j72 j73 j74 j75 hm79 H locs ls hP hD hS hl
                        refine lv_iload_n hx hb dX12_doStir_94 rfl (lv_at hl 0 rfl) ?_
                        refine lv_aload_n hx hb dX12_doStir_95 rfl (lv_at hl 1 rfl) ?_
                        refine va_get (D := (dC, dI)) (ci := 12) (v := .ref know) (C := RX12) (T := TX12) (N := 52) hx hb hts hin12 hown hK hP 0 rfl rfl 14 (by decide) (hts (.fieldLink RX12 98 "PorridgeSeaModel" "now" "[I") (List.mem_of_getElem? (i := 2) rfl)) (fun _ h9 => h9) rfl dX12_doStir_96 ?_
                        refine lv_iconst (v := nI 2) hx hb dX12_doStir_99 (by decide) ?_
                        obtain ⟨y80, e81⟩ : ∃ z9, z9 = f71 2 := ⟨_, rfl⟩
                        refine r_iald hx hb hK hP 1 rfl 2 (by decide) (by decide) y80 e81.symm dX12_doStir_100 ?_
                        obtain ⟨b82, b83⟩ : (0 : Int) ≤ y80.toInt ∧ y80.toInt ≤ 6 := by rw [e81]; exact ld_NB_2 j73 2 (by decide) (by decide)
                        refine lv_icmp_ge (tgt := 133) hx hb dX12_doStir_101 (by decide) (fun c84 => ?_) (fun c84 => ?_)
                        · refine lv_iconst (v := nI 0) hx hb dX12_doStir_133 (by decide) ?_
                          refine lv_istore_n (lv' := [(2, .int (nI 0)), (0, .ref o), (1, .int x)]) hx hb dX12_doStir_134 rfl hl (by decide) rfl (fun ls hl => ?_)
                          have hL103 : ∀ (n104 : Nat) (k97 : Nat) (f98 : Nat → Int32), (k97 ≤ 6) → (NB f98) → (SB f98) → (HE kn0 f98) → 6 - k97 < n104 → ∀ (H : Heap) (locs : List Loc) (ls : Array Slot), va_P (dC, dI) vwCl [(o, .inr (12, [.int kthrown, .ref ktape, .int (nI ktaped), .int (nI ksize), .int (nI klimit), .int (nI kto), .int (nI kfrom), .int kkind, .int knumber, .int ksign, .int kfault, .int kplace, .long kword, .int ktold, .ref know, .ref kread, .ref kkept, .ref ksnaps, .ref kaside, .ref kname, .ref kreadName, .ref kkeptName, .ref kisKept, .ref konces, .int (nI ksnapMany), .int khasCells, .ref kpoured, .ref kfar, .ref ksides, .int (nI ksideMany), .int kwayDays, .int khasWay, .ref klines, .ref kmet, .int (nI kmetMany), .ref ksunk, .ref ktrying, .int (nI ksunkMany), .int ksending, .int kfleets, .ref ktext, .int (nI ktexts), .int kseed, .ref kline, .ref kwritten, .int (nI klineMany), .int khasWritten, .ref knode, .int (nI knodes), .int (nI konesMany), .int (nI kwithin), .int (nI ktop)])), (know, .inl (ky 0, 373, .inl f98)), (kpoured, .inl (ky 0, 36, .inl f27))] H → va_D A [(o, .inr (12, [.int kthrown, .ref ktape, .int (nI ktaped), .int (nI ksize), .int (nI klimit), .int (nI kto), .int (nI kfrom), .int kkind, .int knumber, .int ksign, .int kfault, .int kplace, .long kword, .int ktold, .ref know, .ref kread, .ref kkept, .ref ksnaps, .ref kaside, .ref kname, .ref kreadName, .ref kkeptName, .ref kisKept, .ref konces, .int (nI ksnapMany), .int khasCells, .ref kpoured, .ref kfar, .ref ksides, .int (nI ksideMany), .int kwayDays, .int khasWay, .ref klines, .ref kmet, .int (nI kmetMany), .ref ksunk, .ref ktrying, .int (nI ksunkMany), .int ksending, .int kfleets, .ref ktext, .int (nI ktexts), .int kseed, .ref kline, .ref kwritten, .int (nI klineMany), .int khasWritten, .ref knode, .int (nI knodes), .int (nI konesMany), .int (nI kwithin), .int (nI ktop)])), (know, .inl (ky 0, 373, .inl f98)), (kpoured, .inl (ky 0, 36, .inl f27))] → va_S A s.heap H locs → lv_has ls 3 [(2, .int (nI k97)), (0, .ref o), (1, .int x)] → W p l e (headSpec wsX12_doStir ({ frames := 1, cells := 0, slots := 0, locals := 27 })).room s m args below meth c H locs 0 0 Q (F0 m 135 ls []) := by
                            intro n104
                            induction n104 with
                            | zero => intro k97 f98 _ _ _ _ h9; exact absurd h9 (Nat.not_lt_zero _)
                            | succ n104 ih105 =>
                              intro k97 f98 j99 j100 j101 j102 hm106 H locs ls hP hD hS hl
                              refine lv_iload_n hx hb dX12_doStir_135 rfl (lv_at hl 0 rfl) ?_
                              refine lv_aload_n hx hb dX12_doStir_136 rfl (lv_at hl 1 rfl) ?_
                              refine va_get (D := (dC, dI)) (ci := 12) (v := .ref know) (C := RX12) (T := TX12) (N := 52) hx hb hts hin12 hown hK hP 0 rfl rfl 14 (by decide) (hts (.fieldLink RX12 98 "PorridgeSeaModel" "now" "[I") (List.mem_of_getElem? (i := 2) rfl)) (fun _ h9 => h9) rfl dX12_doStir_137 ?_
                              refine lv_iconst (v := nI 3) hx hb dX12_doStir_140 (by decide) ?_
                              obtain ⟨y107, e108⟩ : ∃ z9, z9 = f98 3 := ⟨_, rfl⟩
                              refine r_iald hx hb hK hP 1 rfl 3 (by decide) (by decide) y107 e108.symm dX12_doStir_141 ?_
                              obtain ⟨b109, b110⟩ : (0 : Int) ≤ y107.toInt ∧ y107.toInt ≤ 6 := by rw [e108]; exact ld_NB_3 j100 3 (by decide) (by decide)
                              refine lv_icmp_ge (tgt := 182) hx hb dX12_doStir_142 (by decide) (fun c111 => ?_) (fun c111 => ?_)
                              · refine lv_aload_n hx hb dX12_doStir_182 rfl (lv_at hl 1 rfl) ?_
                                refine va_get (D := (dC, dI)) (ci := 12) (v := .ref know) (C := RX12) (T := TX12) (N := 52) hx hb hts hin12 hown hK hP 0 rfl rfl 14 (by decide) (hts (.fieldLink RX12 98 "PorridgeSeaModel" "now" "[I") (List.mem_of_getElem? (i := 2) rfl)) (fun _ h9 => h9) rfl dX12_doStir_183 ?_
                                refine lv_bipush (v := nI 69) hx hb dX12_doStir_186 (by decide) ?_
                                refine lv_dup2_11 hx hb dX12_doStir_188 rfl rfl ?_
                                obtain ⟨y112, e113⟩ : ∃ z9, z9 = f98 69 := ⟨_, rfl⟩
                                refine r_iald hx hb hK hP 1 rfl 69 (by decide) (by decide) y112 e113.symm dX12_doStir_189 ?_
                                refine lv_iconst (v := nI 1) hx hb dX12_doStir_190 (by decide) ?_
                                refine lv_iadd hx hb dX12_doStir_191 ?_
                                refine lv_topi (fun y114 e115 => ?_)
                                refine r_iast (x := y114) hx hb hK hP hD hS 1 rfl 69 (by decide) (by decide) dX12_doStir_192 (fun H locs hP hD hS => ?_)
                                obtain ⟨g116, e117⟩ : ∃ z9, z9 = upd f98 69 y114 := ⟨_, rfl⟩
                                rw [← e117] at hP hD
                                have nb118 : NB g116 := by rw [e117]; exact st_NB_67 j100 69 (by decide) (by decide) (lf_e_doStir_1 knowF kn0 f48 k70 f71 n77 y80 k97 f98 n104 y107 y112 y114 ab_now sb_now he0 j50 j51 j52 j72 j73 j74 j75 hm79 e81 b82 b83 c84 j99 j100 j101 j102 hm106 e108 b109 b110 c111 e113 e115) (lf_e_doStir_2 knowF kn0 f48 k70 f71 n77 y80 k97 f98 n104 y107 y112 y114 ab_now sb_now he0 j50 j51 j52 j72 j73 j74 j75 hm79 e81 b82 b83 c84 j99 j100 j101 j102 hm106 e108 b109 b110 c111 e113 e115)
                                have sb119 : SB g116 := by rw [e117]; exact SB_lo j101 _ _ (by omega)
                                have he120 : HE kn0 g116 := by rw [e117]; exact HE_upd j102 (by decide) _
                                have hP : va_P (dC, dI) vwCl [(o, .inr (12, [.int kthrown, .ref ktape, .int (nI ktaped), .int (nI ksize), .int (nI klimit), .int (nI kto), .int (nI kfrom), .int kkind, .int knumber, .int ksign, .int kfault, .int kplace, .long kword, .int ktold, .ref know, .ref kread, .ref kkept, .ref ksnaps, .ref kaside, .ref kname, .ref kreadName, .ref kkeptName, .ref kisKept, .ref konces, .int (nI ksnapMany), .int khasCells, .ref kpoured, .ref kfar, .ref ksides, .int (nI ksideMany), .int kwayDays, .int khasWay, .ref klines, .ref kmet, .int (nI kmetMany), .ref ksunk, .ref ktrying, .int (nI ksunkMany), .int ksending, .int kfleets, .ref ktext, .int (nI ktexts), .int kseed, .ref kline, .ref kwritten, .int (nI klineMany), .int khasWritten, .ref knode, .int (nI knodes), .int (nI konesMany), .int (nI kwithin), .int (nI ktop)])), (know, .inl (ky 0, 373, .inl g116)), (kpoured, .inl (ky 0, 36, .inl f27))] H := hP
                                have hD : va_D A [(o, .inr (12, [.int kthrown, .ref ktape, .int (nI ktaped), .int (nI ksize), .int (nI klimit), .int (nI kto), .int (nI kfrom), .int kkind, .int knumber, .int ksign, .int kfault, .int kplace, .long kword, .int ktold, .ref know, .ref kread, .ref kkept, .ref ksnaps, .ref kaside, .ref kname, .ref kreadName, .ref kkeptName, .ref kisKept, .ref konces, .int (nI ksnapMany), .int khasCells, .ref kpoured, .ref kfar, .ref ksides, .int (nI ksideMany), .int kwayDays, .int khasWay, .ref klines, .ref kmet, .int (nI kmetMany), .ref ksunk, .ref ktrying, .int (nI ksunkMany), .int ksending, .int kfleets, .ref ktext, .int (nI ktexts), .int kseed, .ref kline, .ref kwritten, .int (nI klineMany), .int khasWritten, .ref knode, .int (nI knodes), .int (nI konesMany), .int (nI kwithin), .int (nI ktop)])), (know, .inl (ky 0, 373, .inl g116)), (kpoured, .inl (ky 0, 36, .inl f27))] := hD
                                rw [hQ]
                                exact W.vret hx hb hr (fun t9 ht9 hW9 => ⟨⟨(g116, f27), rfl, ⟨nb118, sb119, j29, he120⟩, by rw [ht9]; exact hP, va_K.moved hW9.alike hK, hD⟩, hS.F ht9⟩) hS.2.2 dX12_doStir_193
                              · refine lv_aload_n hx hb dX12_doStir_145 rfl (lv_at hl 1 rfl) ?_
                                refine lv_iload_n hx hb dX12_doStir_146 rfl (lv_at hl 0 rfl) ?_
                                refine vp_callSi (W.runV (As := [.int (nI k97)]) (rest := []) ⟨hx, hb, hml, hown, hts⟩ (c_x_isEatenN l dC dI ky o kthrown ktape ktaped ksize klimit kto kfrom kkind knumber ksign kfault kplace kword ktold know kread kkept ksnaps kaside kname kreadName kkeptName kisKept konces ksnapMany khasCells kpoured kfar ksides ksideMany kwayDays khasWay klines kmet kmetMany ksunk ktrying ksunkMany ksending kfleets ktext ktexts kseed kline kwritten klineMany khasWritten knode knodes konesMany kwithin ktop f98 k97 iv_ko_0 iv_ko_1 iv_ko_2 iv_ko_3 iv_ko_4 iv_ko_5 iv_ko_6 iv_ko_7 iv_ko_8 iv_ko_9 iv_ko_10 iv_ko_11 iv_ko_12 iv_ko_13 iv_ko_14 j100 (lf_e_doStir_3 knowF kn0 f48 k70 f71 n77 y80 k97 f98 n104 y107 ab_now sb_now he0 j50 j51 j52 j72 j73 j74 j75 hm79 e81 b82 b83 c84 j99 j100 j101 j102 hm106 e108 b109 b110 c111)) (cwV 1 hts gX12_doStir_X12_isEaten rfl rfl rfl (by decide +kernel) ⟨(Nat.le_of_ble_eq_true rfl), (Nat.le_of_ble_eq_true rfl)⟩) (pre_PV hK hP [0, 1] rfl (ci := 12) (q0 := 0) rfl rfl) rfl rfl hl.1 rfl (lv_room (Nat.le_of_ble_eq_true rfl)) dX12_doStir_147 ⟨(Nat.le_of_ble_eq_true rfl), (Nat.le_of_ble_eq_true rfl)⟩) (fun r121 p122 => ?_)
                                rcases p122 with ⟨rfl, t123⟩ | ⟨rfl, t124⟩
                                · refine lv_if_ne (tgt := 176) hx hb dX12_doStir_150 (by decide) (fun c125 => ?_) (fun c125 => absurd c125 (by decide))
                                  refine lv_iinc (v := nI (k97 + 1)) (lv' := [(2, .int (nI (k97 + 1))), (0, .ref o), (1, .int x)]) hx hb dX12_doStir_176 hl (k := 0) rfl (show nI k97 + nI 1 = nI (k97 + 1) from nI_add _ _) (by decide) rfl (fun ls hl => ?_)
                                  refine lv_goto (tgt := 135) hx hb dX12_doStir_179 (by decide) ?_
                                  exact ih105 (k97 + 1) f98 (lf_e_doStir_4 knowF kn0 f48 k70 f71 n77 y80 k97 f98 n104 y107 ab_now sb_now he0 j50 j51 j52 j72 j73 j74 j75 hm79 e81 b82 b83 c84 j99 j100 j101 j102 hm106 e108 b109 b110 c111 t123) j100 j101 j102 (lf_e_doStir_5 knowF kn0 f48 k70 f71 n77 y80 k97 f98 n104 y107 ab_now sb_now he0 j50 j51 j52 j72 j73 j74 j75 hm79 e81 b82 b83 c84 j99 j100 j101 j102 hm106 e108 b109 b110 c111 t123) _ _ _ hP hD hS (lv_sub hl [0, 1, 2] rfl)
                                · refine lv_if_ne (tgt := 176) hx hb dX12_doStir_150 (by decide) (fun c126 => absurd c126 (by decide)) (fun c126 => ?_)
                                  refine lv_aload_n hx hb dX12_doStir_153 rfl (lv_at hl 1 rfl) ?_
                                  refine va_get (D := (dC, dI)) (ci := 12) (v := .ref know) (C := RX12) (T := TX12) (N := 52) hx hb hts hin12 hown hK hP 0 rfl rfl 14 (by decide) (hts (.fieldLink RX12 98 "PorridgeSeaModel" "now" "[I") (List.mem_of_getElem? (i := 2) rfl)) (fun _ h9 => h9) rfl dX12_doStir_154 ?_
                                  refine lv_bipush (v := nI 113) hx hb dX12_doStir_157 (by decide) ?_
                                  refine lv_iload_n hx hb dX12_doStir_159 rfl (lv_at hl 0 rfl) ?_
                                  refine lv_iadd hx hb dX12_doStir_160 ?_
                                  refine r_ti (nI (113 + k97)) (nI_add _ _) ?_
                                  refine lv_aload_n hx hb dX12_doStir_161 rfl (lv_at hl 1 rfl) ?_
                                  refine lv_aload_n hx hb dX12_doStir_162 rfl (lv_at hl 1 rfl) ?_
                                  refine va_get (D := (dC, dI)) (ci := 12) (v := .ref know) (C := RX12) (T := TX12) (N := 52) hx hb hts hin12 hown hK hP 0 rfl rfl 14 (by decide) (hts (.fieldLink RX12 98 "PorridgeSeaModel" "now" "[I") (List.mem_of_getElem? (i := 2) rfl)) (fun _ h9 => h9) rfl dX12_doStir_163 ?_
                                  refine lv_bipush (v := nI 113) hx hb dX12_doStir_166 (by decide) ?_
                                  refine lv_iload_n hx hb dX12_doStir_168 rfl (lv_at hl 0 rfl) ?_
                                  refine lv_iadd hx hb dX12_doStir_169 ?_
                                  refine r_ti (nI (113 + k97)) (nI_add _ _) ?_
                                  obtain ⟨y127, e128⟩ : ∃ z9, z9 = f98 (113 + k97) := ⟨_, rfl⟩
                                  refine r_iald hx hb hK hP 1 rfl (113 + k97) (lf_e_doStir_6 knowF kn0 f48 k70 f71 n77 y80 k97 f98 n104 y107 y127 ab_now sb_now he0 j50 j51 j52 j72 j73 j74 j75 hm79 e81 b82 b83 c84 j99 j100 j101 j102 hm106 e108 b109 b110 c111 t124 e128) (by decide) y127 e128.symm dX12_doStir_170 ?_
                                  obtain ⟨b129, b130⟩ : (0 : Int) ≤ y127.toInt ∧ y127.toInt ≤ 35 := by rw [e128]; exact ld_NB_107 j100 (113 + k97) (lf_e_doStir_7 knowF kn0 f48 k70 f71 n77 y80 k97 f98 n104 y107 y127 ab_now sb_now he0 j50 j51 j52 j72 j73 j74 j75 hm79 e81 b82 b83 c84 j99 j100 j101 j102 hm106 e108 b109 b110 c111 t124 e128) (lf_e_doStir_8 knowF kn0 f48 k70 f71 n77 y80 k97 f98 n104 y107 y127 ab_now sb_now he0 j50 j51 j52 j72 j73 j74 j75 hm79 e81 b82 b83 c84 j99 j100 j101 j102 hm106 e108 b109 b110 c111 t124 e128)
                                  refine lv_iload_n hx hb dX12_doStir_171 rfl (lv_at hl 2 rfl) ?_
                                  refine vp_callSi (W.runV (As := [.int y127, .int x]) (rest := [.int (nI (113 + k97)), .ref know]) ⟨hx, hb, hml, hown, hts⟩ (c_x_stirred l dC dI ky o kthrown ktape ktaped ksize klimit kto kfrom kkind knumber ksign kfault kplace kword ktold know kread kkept ksnaps kaside kname kreadName kkeptName kisKept konces ksnapMany khasCells kpoured kfar ksides ksideMany kwayDays khasWay klines kmet kmetMany ksunk ktrying ksunkMany ksending kfleets ktext ktexts kseed kline kwritten klineMany khasWritten knode knodes konesMany kwithin ktop f98 y127 x iv_ko_0 iv_ko_1 iv_ko_2 iv_ko_3 iv_ko_4 iv_ko_5 iv_ko_6 iv_ko_7 iv_ko_8 iv_ko_9 iv_ko_10 iv_ko_11 iv_ko_12 iv_ko_13 iv_ko_14 j100 (lf_e_doStir_9 knowF kn0 f48 k70 f71 n77 y80 k97 f98 n104 y107 y127 ab_now sb_now he0 j50 j51 j52 j72 j73 j74 j75 hm79 e81 b82 b83 c84 j99 j100 j101 j102 hm106 e108 b109 b110 c111 t124 e128 b129 b130) hl_x) (cwV 2 hts gX12_doStir_X12_stirred rfl rfl rfl (by decide +kernel) ⟨(Nat.le_of_ble_eq_true rfl), (Nat.le_of_ble_eq_true rfl)⟩) (pre_PV hK hP [0, 1] rfl (ci := 12) (q0 := 0) rfl rfl) rfl rfl hl.1 rfl (lv_room (Nat.le_of_ble_eq_true rfl)) dX12_doStir_172 ⟨(Nat.le_of_ble_eq_true rfl), (Nat.le_of_ble_eq_true rfl)⟩) (fun r131 p132 => ?_)
                                  obtain ⟨k133, h135, rfl⟩ := p132
                                  refine r_iast (x := (nI k133)) hx hb hK hP hD hS 1 rfl (113 + k97) (lf_e_doStir_12 knowF kn0 f48 k70 f71 n77 y80 k97 f98 n104 y107 y127 ab_now sb_now he0 j50 j51 j52 j72 j73 j74 j75 hm79 e81 b82 b83 c84 j99 j100 j101 j102 hm106 e108 b109 b110 c111 t124 e128 b129 b130) (by decide) dX12_doStir_175 (fun H locs hP hD hS => ?_)
                                  obtain ⟨g136, e137⟩ : ∃ z9, z9 = upd f98 (113 + k97) (nI k133) := ⟨_, rfl⟩
                                  rw [← e137] at hP hD
                                  have nb138 : NB g136 := by rw [e137]; exact st_NB_107 j100 (113 + k97) (lf_e_doStir_13 knowF kn0 f48 k70 f71 n77 y80 k97 f98 n104 y107 y127 ab_now sb_now he0 j50 j51 j52 j72 j73 j74 j75 hm79 e81 b82 b83 c84 j99 j100 j101 j102 hm106 e108 b109 b110 c111 t124 e128 b129 b130) (lf_e_doStir_14 knowF kn0 f48 k70 f71 n77 y80 k97 f98 n104 y107 y127 ab_now sb_now he0 j50 j51 j52 j72 j73 j74 j75 hm79 e81 b82 b83 c84 j99 j100 j101 j102 hm106 e108 b109 b110 c111 t124 e128 b129 b130) (lf_e_doStir_10 k133 h135) (lf_e_doStir_11 k133 h135)
                                  have sb139 : SB g136 := by rw [e137]; exact SB_lo j101 _ _ (by omega)
                                  have he140 : HE kn0 g136 := by rw [e137]; exact HE_upd j102 (lf_e_doStir_15 knowF kn0 f48 k70 f71 n77 y80 k97 f98 n104 y107 y127 ab_now sb_now he0 j50 j51 j52 j72 j73 j74 j75 hm79 e81 b82 b83 c84 j99 j100 j101 j102 hm106 e108 b109 b110 c111 t124 e128 b129 b130) _
                                  have hP : va_P (dC, dI) vwCl [(o, .inr (12, [.int kthrown, .ref ktape, .int (nI ktaped), .int (nI ksize), .int (nI klimit), .int (nI kto), .int (nI kfrom), .int kkind, .int knumber, .int ksign, .int kfault, .int kplace, .long kword, .int ktold, .ref know, .ref kread, .ref kkept, .ref ksnaps, .ref kaside, .ref kname, .ref kreadName, .ref kkeptName, .ref kisKept, .ref konces, .int (nI ksnapMany), .int khasCells, .ref kpoured, .ref kfar, .ref ksides, .int (nI ksideMany), .int kwayDays, .int khasWay, .ref klines, .ref kmet, .int (nI kmetMany), .ref ksunk, .ref ktrying, .int (nI ksunkMany), .int ksending, .int kfleets, .ref ktext, .int (nI ktexts), .int kseed, .ref kline, .ref kwritten, .int (nI klineMany), .int khasWritten, .ref knode, .int (nI knodes), .int (nI konesMany), .int (nI kwithin), .int (nI ktop)])), (know, .inl (ky 0, 373, .inl g136)), (kpoured, .inl (ky 0, 36, .inl f27))] H := hP
                                  have hD : va_D A [(o, .inr (12, [.int kthrown, .ref ktape, .int (nI ktaped), .int (nI ksize), .int (nI klimit), .int (nI kto), .int (nI kfrom), .int kkind, .int knumber, .int ksign, .int kfault, .int kplace, .long kword, .int ktold, .ref know, .ref kread, .ref kkept, .ref ksnaps, .ref kaside, .ref kname, .ref kreadName, .ref kkeptName, .ref kisKept, .ref konces, .int (nI ksnapMany), .int khasCells, .ref kpoured, .ref kfar, .ref ksides, .int (nI ksideMany), .int kwayDays, .int khasWay, .ref klines, .ref kmet, .int (nI kmetMany), .ref ksunk, .ref ktrying, .int (nI ksunkMany), .int ksending, .int kfleets, .ref ktext, .int (nI ktexts), .int kseed, .ref kline, .ref kwritten, .int (nI klineMany), .int khasWritten, .ref knode, .int (nI knodes), .int (nI konesMany), .int (nI kwithin), .int (nI ktop)])), (know, .inl (ky 0, 373, .inl g136)), (kpoured, .inl (ky 0, 36, .inl f27))] := hD
                                  refine lv_iinc (v := nI (k97 + 1)) (lv' := [(2, .int (nI (k97 + 1))), (0, .ref o), (1, .int x)]) hx hb dX12_doStir_176 hl (k := 0) rfl (show nI k97 + nI 1 = nI (k97 + 1) from nI_add _ _) (by decide) rfl (fun ls hl => ?_)
                                  refine lv_goto (tgt := 135) hx hb dX12_doStir_179 (by decide) ?_
                                  exact ih105 (k97 + 1) g136 (lf_e_doStir_16 knowF kn0 f48 k70 f71 n77 y80 k97 f98 n104 y107 y127 g136 ab_now sb_now he0 j50 j51 j52 j72 j73 j74 j75 hm79 e81 b82 b83 c84 j99 j100 j101 j102 hm106 e108 b109 b110 c111 t124 e128 b129 b130 nb138 sb139 he140) nb138 sb139 he140 (lf_e_doStir_17 knowF kn0 f48 k70 f71 n77 y80 k97 f98 n104 y107 y127 g136 ab_now sb_now he0 j50 j51 j52 j72 j73 j74 j75 hm79 e81 b82 b83 c84 j99 j100 j101 j102 hm106 e108 b109 b110 c111 t124 e128 b129 b130 nb138 sb139 he140) _ _ _ hP hD hS (lv_sub hl [0, 1, 2] rfl)
                          exact hL103 ((6 - 0) + 1) 0 f71 (lf_e_doStir_18) j73 j74 j75 (Nat.lt_succ_self _) _ _ _ hP hD hS (lv_sub hl [0, 1, 2] rfl)
                        · refine lv_aload_n hx hb dX12_doStir_104 rfl (lv_at hl 1 rfl) ?_
                          refine va_get (D := (dC, dI)) (ci := 12) (v := .ref know) (C := RX12) (T := TX12) (N := 52) hx hb hts hin12 hown hK hP 0 rfl rfl 14 (by decide) (hts (.fieldLink RX12 98 "PorridgeSeaModel" "now" "[I") (List.mem_of_getElem? (i := 2) rfl)) (fun _ h9 => h9) rfl dX12_doStir_105 ?_
                          refine lv_bipush (v := nI 107) hx hb dX12_doStir_108 (by decide) ?_
                          refine lv_iload_n hx hb dX12_doStir_110 rfl (lv_at hl 0 rfl) ?_
                          refine lv_iadd hx hb dX12_doStir_111 ?_
                          refine r_ti (nI (107 + k70)) (nI_add _ _) ?_
                          refine lv_aload_n hx hb dX12_doStir_112 rfl (lv_at hl 1 rfl) ?_
                          refine lv_aload_n hx hb dX12_doStir_113 rfl (lv_at hl 1 rfl) ?_
                          refine va_get (D := (dC, dI)) (ci := 12) (v := .ref know) (C := RX12) (T := TX12) (N := 52) hx hb hts hin12 hown hK hP 0 rfl rfl 14 (by decide) (hts (.fieldLink RX12 98 "PorridgeSeaModel" "now" "[I") (List.mem_of_getElem? (i := 2) rfl)) (fun _ h9 => h9) rfl dX12_doStir_114 ?_
                          refine lv_bipush (v := nI 107) hx hb dX12_doStir_117 (by decide) ?_
                          refine lv_iload_n hx hb dX12_doStir_119 rfl (lv_at hl 0 rfl) ?_
                          refine lv_iadd hx hb dX12_doStir_120 ?_
                          refine r_ti (nI (107 + k70)) (nI_add _ _) ?_
                          obtain ⟨y141, e142⟩ : ∃ z9, z9 = f71 (107 + k70) := ⟨_, rfl⟩
                          refine r_iald hx hb hK hP 1 rfl (107 + k70) (lf_e_doStir_19 knowF kn0 f48 k70 f71 n77 y80 y141 ab_now sb_now he0 j50 j51 j52 j72 j73 j74 j75 hm79 e81 b82 b83 c84 e142) (by decide) y141 e142.symm dX12_doStir_121 ?_
                          obtain ⟨b143, b144⟩ : (0 : Int) ≤ y141.toInt ∧ y141.toInt ≤ 35 := by rw [e142]; exact ld_NB_107 j73 (107 + k70) (lf_e_doStir_20 knowF kn0 f48 k70 f71 n77 y80 y141 ab_now sb_now he0 j50 j51 j52 j72 j73 j74 j75 hm79 e81 b82 b83 c84 e142) (lf_e_doStir_21 knowF kn0 f48 k70 f71 n77 y80 y141 ab_now sb_now he0 j50 j51 j52 j72 j73 j74 j75 hm79 e81 b82 b83 c84 e142)
                          refine lv_iload_n hx hb dX12_doStir_122 rfl (lv_at hl 2 rfl) ?_
                          refine vp_callSi (W.runV (As := [.int y141, .int x]) (rest := [.int (nI (107 + k70)), .ref know]) ⟨hx, hb, hml, hown, hts⟩ (c_x_stirred l dC dI ky o kthrown ktape ktaped ksize klimit kto kfrom kkind knumber ksign kfault kplace kword ktold know kread kkept ksnaps kaside kname kreadName kkeptName kisKept konces ksnapMany khasCells kpoured kfar ksides ksideMany kwayDays khasWay klines kmet kmetMany ksunk ktrying ksunkMany ksending kfleets ktext ktexts kseed kline kwritten klineMany khasWritten knode knodes konesMany kwithin ktop f71 y141 x iv_ko_0 iv_ko_1 iv_ko_2 iv_ko_3 iv_ko_4 iv_ko_5 iv_ko_6 iv_ko_7 iv_ko_8 iv_ko_9 iv_ko_10 iv_ko_11 iv_ko_12 iv_ko_13 iv_ko_14 j73 (lf_e_doStir_22 knowF kn0 f48 k70 f71 n77 y80 y141 ab_now sb_now he0 j50 j51 j52 j72 j73 j74 j75 hm79 e81 b82 b83 c84 e142 b143 b144) hl_x) (cwV 2 hts gX12_doStir_X12_stirred rfl rfl rfl (by decide +kernel) ⟨(Nat.le_of_ble_eq_true rfl), (Nat.le_of_ble_eq_true rfl)⟩) (pre_PV hK hP [0, 1] rfl (ci := 12) (q0 := 0) rfl rfl) rfl rfl hl.1 rfl (lv_room (Nat.le_of_ble_eq_true rfl)) dX12_doStir_123 ⟨(Nat.le_of_ble_eq_true rfl), (Nat.le_of_ble_eq_true rfl)⟩) (fun r145 p146 => ?_)
                          obtain ⟨k147, h149, rfl⟩ := p146
                          refine r_iast (x := (nI k147)) hx hb hK hP hD hS 1 rfl (107 + k70) (lf_e_doStir_25 knowF kn0 f48 k70 f71 n77 y80 y141 ab_now sb_now he0 j50 j51 j52 j72 j73 j74 j75 hm79 e81 b82 b83 c84 e142 b143 b144) (by decide) dX12_doStir_126 (fun H locs hP hD hS => ?_)
                          obtain ⟨g150, e151⟩ : ∃ z9, z9 = upd f71 (107 + k70) (nI k147) := ⟨_, rfl⟩
                          rw [← e151] at hP hD
                          have nb152 : NB g150 := by rw [e151]; exact st_NB_107 j73 (107 + k70) (lf_e_doStir_26 knowF kn0 f48 k70 f71 n77 y80 y141 ab_now sb_now he0 j50 j51 j52 j72 j73 j74 j75 hm79 e81 b82 b83 c84 e142 b143 b144) (lf_e_doStir_27 knowF kn0 f48 k70 f71 n77 y80 y141 ab_now sb_now he0 j50 j51 j52 j72 j73 j74 j75 hm79 e81 b82 b83 c84 e142 b143 b144) (lf_e_doStir_23 k147 h149) (lf_e_doStir_24 k147 h149)
                          have sb153 : SB g150 := by rw [e151]; exact SB_lo j74 _ _ (by omega)
                          have he154 : HE kn0 g150 := by rw [e151]; exact HE_upd j75 (lf_e_doStir_28 knowF kn0 f48 k70 f71 n77 y80 y141 ab_now sb_now he0 j50 j51 j52 j72 j73 j74 j75 hm79 e81 b82 b83 c84 e142 b143 b144) _
                          have hP : va_P (dC, dI) vwCl [(o, .inr (12, [.int kthrown, .ref ktape, .int (nI ktaped), .int (nI ksize), .int (nI klimit), .int (nI kto), .int (nI kfrom), .int kkind, .int knumber, .int ksign, .int kfault, .int kplace, .long kword, .int ktold, .ref know, .ref kread, .ref kkept, .ref ksnaps, .ref kaside, .ref kname, .ref kreadName, .ref kkeptName, .ref kisKept, .ref konces, .int (nI ksnapMany), .int khasCells, .ref kpoured, .ref kfar, .ref ksides, .int (nI ksideMany), .int kwayDays, .int khasWay, .ref klines, .ref kmet, .int (nI kmetMany), .ref ksunk, .ref ktrying, .int (nI ksunkMany), .int ksending, .int kfleets, .ref ktext, .int (nI ktexts), .int kseed, .ref kline, .ref kwritten, .int (nI klineMany), .int khasWritten, .ref knode, .int (nI knodes), .int (nI konesMany), .int (nI kwithin), .int (nI ktop)])), (know, .inl (ky 0, 373, .inl g150)), (kpoured, .inl (ky 0, 36, .inl f27))] H := hP
                          have hD : va_D A [(o, .inr (12, [.int kthrown, .ref ktape, .int (nI ktaped), .int (nI ksize), .int (nI klimit), .int (nI kto), .int (nI kfrom), .int kkind, .int knumber, .int ksign, .int kfault, .int kplace, .long kword, .int ktold, .ref know, .ref kread, .ref kkept, .ref ksnaps, .ref kaside, .ref kname, .ref kreadName, .ref kkeptName, .ref kisKept, .ref konces, .int (nI ksnapMany), .int khasCells, .ref kpoured, .ref kfar, .ref ksides, .int (nI ksideMany), .int kwayDays, .int khasWay, .ref klines, .ref kmet, .int (nI kmetMany), .ref ksunk, .ref ktrying, .int (nI ksunkMany), .int ksending, .int kfleets, .ref ktext, .int (nI ktexts), .int kseed, .ref kline, .ref kwritten, .int (nI klineMany), .int khasWritten, .ref knode, .int (nI knodes), .int (nI konesMany), .int (nI kwithin), .int (nI ktop)])), (know, .inl (ky 0, 373, .inl g150)), (kpoured, .inl (ky 0, 36, .inl f27))] := hD
                          refine lv_iinc (v := nI (k70 + 1)) (lv' := [(2, .int (nI (k70 + 1))), (0, .ref o), (1, .int x)]) hx hb dX12_doStir_127 hl (k := 0) rfl (show nI k70 + nI 1 = nI (k70 + 1) from nI_add _ _) (by decide) rfl (fun ls hl => ?_)
                          refine lv_goto (tgt := 94) hx hb dX12_doStir_130 (by decide) ?_
                          exact ih78 (k70 + 1) g150 (lf_e_doStir_29 knowF kn0 f48 k70 f71 n77 y80 y141 g150 ab_now sb_now he0 j50 j51 j52 j72 j73 j74 j75 hm79 e81 b82 b83 c84 e142 b143 b144 nb152 sb153 he154) nb152 sb153 he154 (lf_e_doStir_30 knowF kn0 f48 k70 f71 n77 y80 y141 g150 ab_now sb_now he0 j50 j51 j52 j72 j73 j74 j75 hm79 e81 b82 b83 c84 e142 b143 b144 nb152 sb153 he154) _ _ _ hP hD hS (lv_sub hl [0, 1, 2] rfl)
                    exact hL76 ((6 - 0) + 1) 0 f48 (lf_e_doStir_31) j50 j51 j52 (Nat.lt_succ_self _) _ _ _ hP hD hS (lv_sub hl [0, 1, 2] rfl)
                  · refine lv_aload_n hx hb dX12_doStir_71 rfl (lv_at hl 1 rfl) ?_
                    refine va_get (D := (dC, dI)) (ci := 12) (v := .ref know) (C := RX12) (T := TX12) (N := 52) hx hb hts hin12 hown hK hP 0 rfl rfl 14 (by decide) (hts (.fieldLink RX12 98 "PorridgeSeaModel" "now" "[I") (List.mem_of_getElem? (i := 2) rfl)) (fun _ h9 => h9) rfl dX12_doStir_72 ?_
                    refine lv_bipush (v := nI 71) hx hb dX12_doStir_75 (by decide) ?_
                    refine lv_iload_n hx hb dX12_doStir_77 rfl (lv_at hl 0 rfl) ?_
                    refine lv_iadd hx hb dX12_doStir_78 ?_
                    refine r_ti (nI (71 + k47)) (nI_add _ _) ?_
                    refine lv_aload_n hx hb dX12_doStir_79 rfl (lv_at hl 1 rfl) ?_
                    refine va_get (D := (dC, dI)) (ci := 12) (v := .ref kpoured) (C := RX12) (T := TX12) (N := 52) hx hb hts hin12 hown hK hP 0 rfl rfl 26 (by decide) (hts (.fieldLink RX12 130 "PorridgeSeaModel" "poured" "[I") (List.mem_of_getElem? (i := 1) rfl)) (fun _ h9 => h9) rfl dX12_doStir_80 ?_
                    refine lv_iload_n hx hb dX12_doStir_83 rfl (lv_at hl 0 rfl) ?_
                    obtain ⟨y155, e156⟩ : ∃ z9, z9 = f27 k47 := ⟨_, rfl⟩
                    refine r_iald hx hb hK hP 2 rfl k47 (lf_e_doStir_32 f27 k47 n54 y155 j29 j49 hm56 c57 e156) (by decide) y155 e156.symm dX12_doStir_84 ?_
                    obtain ⟨b157, b158⟩ : (0 : Int) ≤ y155.toInt ∧ y155.toInt ≤ 9 := by rw [e156]; exact ld_AP36_0 j29 k47 (lf_e_doStir_33 f27 k47 n54 y155 j29 j49 hm56 c57 e156) (lf_e_doStir_34 f27 k47 n54 y155 j29 j49 hm56 c57 e156)
                    refine r_iast (x := y155) hx hb hK hP hD hS 1 rfl (71 + k47) (lf_e_doStir_37 f27 k47 n54 y155 j29 j49 hm56 c57 e156 b157 b158) (by decide) dX12_doStir_85 (fun H locs hP hD hS => ?_)
                    obtain ⟨g159, e160⟩ : ∃ z9, z9 = upd f48 (71 + k47) y155 := ⟨_, rfl⟩
                    rw [← e160] at hP hD
                    have nb161 : NB g159 := by rw [e160]; exact st_NB_71 j50 (71 + k47) (lf_e_doStir_38 f27 k47 n54 y155 j29 j49 hm56 c57 e156 b157 b158) (lf_e_doStir_39 f27 k47 n54 y155 j29 j49 hm56 c57 e156 b157 b158) (lf_e_doStir_35 f27 k47 n54 y155 j29 j49 hm56 c57 e156 b157 b158) (lf_e_doStir_36 f27 k47 n54 y155 j29 j49 hm56 c57 e156 b157 b158)
                    have sb162 : SB g159 := by rw [e160]; exact SB_lo j51 _ _ (by omega)
                    have he163 : HE kn0 g159 := by rw [e160]; exact HE_upd j52 (lf_e_doStir_40 f27 k47 n54 y155 j29 j49 hm56 c57 e156 b157 b158) _
                    have hP : va_P (dC, dI) vwCl [(o, .inr (12, [.int kthrown, .ref ktape, .int (nI ktaped), .int (nI ksize), .int (nI klimit), .int (nI kto), .int (nI kfrom), .int kkind, .int knumber, .int ksign, .int kfault, .int kplace, .long kword, .int ktold, .ref know, .ref kread, .ref kkept, .ref ksnaps, .ref kaside, .ref kname, .ref kreadName, .ref kkeptName, .ref kisKept, .ref konces, .int (nI ksnapMany), .int khasCells, .ref kpoured, .ref kfar, .ref ksides, .int (nI ksideMany), .int kwayDays, .int khasWay, .ref klines, .ref kmet, .int (nI kmetMany), .ref ksunk, .ref ktrying, .int (nI ksunkMany), .int ksending, .int kfleets, .ref ktext, .int (nI ktexts), .int kseed, .ref kline, .ref kwritten, .int (nI klineMany), .int khasWritten, .ref knode, .int (nI knodes), .int (nI konesMany), .int (nI kwithin), .int (nI ktop)])), (know, .inl (ky 0, 373, .inl g159)), (kpoured, .inl (ky 0, 36, .inl f27))] H := hP
                    have hD : va_D A [(o, .inr (12, [.int kthrown, .ref ktape, .int (nI ktaped), .int (nI ksize), .int (nI klimit), .int (nI kto), .int (nI kfrom), .int kkind, .int knumber, .int ksign, .int kfault, .int kplace, .long kword, .int ktold, .ref know, .ref kread, .ref kkept, .ref ksnaps, .ref kaside, .ref kname, .ref kreadName, .ref kkeptName, .ref kisKept, .ref konces, .int (nI ksnapMany), .int khasCells, .ref kpoured, .ref kfar, .ref ksides, .int (nI ksideMany), .int kwayDays, .int khasWay, .ref klines, .ref kmet, .int (nI kmetMany), .ref ksunk, .ref ktrying, .int (nI ksunkMany), .int ksending, .int kfleets, .ref ktext, .int (nI ktexts), .int kseed, .ref kline, .ref kwritten, .int (nI klineMany), .int khasWritten, .ref knode, .int (nI knodes), .int (nI konesMany), .int (nI kwithin), .int (nI ktop)])), (know, .inl (ky 0, 373, .inl g159)), (kpoured, .inl (ky 0, 36, .inl f27))] := hD
                    refine lv_iinc (v := nI (k47 + 1)) (lv' := [(2, .int (nI (k47 + 1))), (0, .ref o), (1, .int x)]) hx hb dX12_doStir_86 hl (k := 0) rfl (show nI k47 + nI 1 = nI (k47 + 1) from nI_add _ _) (by decide) rfl (fun ls hl => ?_)
                    refine lv_goto (tgt := 65) hx hb dX12_doStir_89 (by decide) ?_
                    exact ih55 (k47 + 1) g159 (lf_e_doStir_41 f27 k47 n54 y155 j29 j49 hm56 c57 e156 b157 b158) nb161 sb162 he163 (lf_e_doStir_42 f27 k47 n54 y155 j29 j49 hm56 c57 e156 b157 b158) _ _ _ hP hD hS (lv_sub hl [0, 1, 2] rfl)
              exact hL53 ((36 - 0) + 1) 0 knowF (lf_e_doStir_43) ab_now sb_now he0 (Nat.lt_succ_self _) _ _ _ hP hD hS (lv_sub hl [0, 1, 2] rfl)
            · refine lv_aload_n hx hb dX12_doStir_29 rfl (lv_at hl 1 rfl) ?_
              refine lv_iload_n hx hb dX12_doStir_30 rfl (lv_at hl 0 rfl) ?_
              refine vp_callSi (W.runV (As := [.int (nI k26)]) (rest := []) ⟨hx, hb, hml, hown, hts⟩ (c_x_isInSeaE l dC dI ky o kthrown ktape ktaped ksize klimit kto kfrom kkind knumber ksign kfault kplace kword ktold know kread kkept ksnaps kaside kname kreadName kkeptName kisKept konces ksnapMany khasCells kpoured kfar ksides ksideMany kwayDays khasWay klines kmet kmetMany ksunk ktrying ksunkMany ksending kfleets ktext ktexts kseed kline kwritten klineMany khasWritten knode knodes konesMany kwithin ktop knowF k26 iv_ko_0 iv_ko_1 iv_ko_2 iv_ko_3 iv_ko_4 iv_ko_5 iv_ko_6 iv_ko_7 iv_ko_8 iv_ko_9 iv_ko_10 iv_ko_11 iv_ko_12 iv_ko_13 iv_ko_14 ab_now c34) (cwV 1 hts gX12_doStir_X12_isInSea rfl rfl rfl (by decide +kernel) ⟨(Nat.le_of_ble_eq_true rfl), (Nat.le_of_ble_eq_true rfl)⟩) (pre_PV hK hP [0, 1] rfl (ci := 12) (q0 := 0) rfl rfl) rfl rfl hl.1 rfl (lv_room (Nat.le_of_ble_eq_true rfl)) dX12_doStir_31 ⟨(Nat.le_of_ble_eq_true rfl), (Nat.le_of_ble_eq_true rfl)⟩) (fun r164 p165 => ?_)
              rcases p165 with ⟨rfl, t166⟩ | ⟨rfl, t167⟩
              · refine lv_if_eq (tgt := 57) hx hb dX12_doStir_34 (by decide) (fun c168 => absurd c168 (by decide)) (fun c168 => ?_)
                refine lv_aload_n hx hb dX12_doStir_37 rfl (lv_at hl 1 rfl) ?_
                refine va_get (D := (dC, dI)) (ci := 12) (v := .ref kpoured) (C := RX12) (T := TX12) (N := 52) hx hb hts hin12 hown hK hP 0 rfl rfl 26 (by decide) (hts (.fieldLink RX12 130 "PorridgeSeaModel" "poured" "[I") (List.mem_of_getElem? (i := 1) rfl)) (fun _ h9 => h9) rfl dX12_doStir_38 ?_
                refine lv_aload_n hx hb dX12_doStir_41 rfl (lv_at hl 1 rfl) ?_
                refine lv_iload_n hx hb dX12_doStir_42 rfl (lv_at hl 0 rfl) ?_
                refine lv_iload_n hx hb dX12_doStir_43 rfl (lv_at hl 2 rfl) ?_
                refine vp_callSi (W.runV (As := [.int (nI k26), .int x]) (rest := [.ref kpoured]) ⟨hx, hb, hml, hown, hts⟩ (c_x_stirred l dC dI ky o kthrown ktape ktaped ksize klimit kto kfrom kkind knumber ksign kfault kplace kword ktold know kread kkept ksnaps kaside kname kreadName kkeptName kisKept konces ksnapMany khasCells kpoured kfar ksides ksideMany kwayDays khasWay klines kmet kmetMany ksunk ktrying ksunkMany ksending kfleets ktext ktexts kseed kline kwritten klineMany khasWritten knode knodes konesMany kwithin ktop knowF (nI k26) x iv_ko_0 iv_ko_1 iv_ko_2 iv_ko_3 iv_ko_4 iv_ko_5 iv_ko_6 iv_ko_7 iv_ko_8 iv_ko_9 iv_ko_10 iv_ko_11 iv_ko_12 iv_ko_13 iv_ko_14 ab_now (lf_e_doStir_44 knowF kn0 k26 n31 ab_now sb_now he0 j28 hm33 c34 t166) hl_x) (cwV 2 hts gX12_doStir_X12_stirred rfl rfl rfl (by decide +kernel) ⟨(Nat.le_of_ble_eq_true rfl), (Nat.le_of_ble_eq_true rfl)⟩) (pre_PV hK hP [0, 1] rfl (ci := 12) (q0 := 0) rfl rfl) rfl rfl hl.1 rfl (lv_room (Nat.le_of_ble_eq_true rfl)) dX12_doStir_44 ⟨(Nat.le_of_ble_eq_true rfl), (Nat.le_of_ble_eq_true rfl)⟩) (fun r169 p170 => ?_)
                obtain ⟨k171, h173, rfl⟩ := p170
                refine lv_aload_n hx hb dX12_doStir_47 rfl (lv_at hl 1 rfl) ?_
                refine va_get (D := (dC, dI)) (ci := 12) (v := .ref know) (C := RX12) (T := TX12) (N := 52) hx hb hts hin12 hown hK hP 0 rfl rfl 14 (by decide) (hts (.fieldLink RX12 98 "PorridgeSeaModel" "now" "[I") (List.mem_of_getElem? (i := 2) rfl)) (fun _ h9 => h9) rfl dX12_doStir_48 ?_
                refine lv_bipush (v := nI 71) hx hb dX12_doStir_51 (by decide) ?_
                refine lv_iload_n hx hb dX12_doStir_53 rfl (lv_at hl 0 rfl) ?_
                refine lv_iadd hx hb dX12_doStir_54 ?_
                refine r_ti (nI (71 + k26)) (nI_add _ _) ?_
                obtain ⟨y174, e175⟩ : ∃ z9, z9 = knowF (71 + k26) := ⟨_, rfl⟩
                refine r_iald hx hb hK hP 1 rfl (71 + k26) (lf_e_doStir_45 knowF kn0 k26 n31 y174 ab_now sb_now he0 j28 hm33 c34 t166 e175) (by decide) y174 e175.symm dX12_doStir_55 ?_
                obtain ⟨b176, b177⟩ : (0 : Int) ≤ y174.toInt ∧ y174.toInt ≤ 9 := by rw [e175]; exact ld_NB_71 ab_now (71 + k26) (lf_e_doStir_46 knowF kn0 k26 n31 y174 ab_now sb_now he0 j28 hm33 c34 t166 e175) (lf_e_doStir_47 knowF kn0 k26 n31 y174 ab_now sb_now he0 j28 hm33 c34 t166 e175)
                refine r_iast (x := y174) hx hb hK hP hD hS 2 rfl k171 (lf_e_doStir_50 k171 h173) (by decide) dX12_doStir_56 (fun H locs hP hD hS => ?_)
                obtain ⟨g178, e179⟩ : ∃ z9, z9 = upd f27 k171 y174 := ⟨_, rfl⟩
                rw [← e179] at hP hD
                have nb180 : AP36 g178 := by rw [e179]; exact st_AP36_0 j29 k171 (lf_e_doStir_51 k171 h173) (lf_e_doStir_52 k171 h173) (lf_e_doStir_48 knowF kn0 k26 n31 y174 ab_now sb_now he0 j28 hm33 c34 t166 e175 b176 b177) (lf_e_doStir_49 knowF kn0 k26 n31 y174 ab_now sb_now he0 j28 hm33 c34 t166 e175 b176 b177)
                have hP : va_P (dC, dI) vwCl [(o, .inr (12, [.int kthrown, .ref ktape, .int (nI ktaped), .int (nI ksize), .int (nI klimit), .int (nI kto), .int (nI kfrom), .int kkind, .int knumber, .int ksign, .int kfault, .int kplace, .long kword, .int ktold, .ref know, .ref kread, .ref kkept, .ref ksnaps, .ref kaside, .ref kname, .ref kreadName, .ref kkeptName, .ref kisKept, .ref konces, .int (nI ksnapMany), .int khasCells, .ref kpoured, .ref kfar, .ref ksides, .int (nI ksideMany), .int kwayDays, .int khasWay, .ref klines, .ref kmet, .int (nI kmetMany), .ref ksunk, .ref ktrying, .int (nI ksunkMany), .int ksending, .int kfleets, .ref ktext, .int (nI ktexts), .int kseed, .ref kline, .ref kwritten, .int (nI klineMany), .int khasWritten, .ref knode, .int (nI knodes), .int (nI konesMany), .int (nI kwithin), .int (nI ktop)])), (know, .inl (ky 0, 373, .inl knowF)), (kpoured, .inl (ky 0, 36, .inl g178))] H := hP
                have hD : va_D A [(o, .inr (12, [.int kthrown, .ref ktape, .int (nI ktaped), .int (nI ksize), .int (nI klimit), .int (nI kto), .int (nI kfrom), .int kkind, .int knumber, .int ksign, .int kfault, .int kplace, .long kword, .int ktold, .ref know, .ref kread, .ref kkept, .ref ksnaps, .ref kaside, .ref kname, .ref kreadName, .ref kkeptName, .ref kisKept, .ref konces, .int (nI ksnapMany), .int khasCells, .ref kpoured, .ref kfar, .ref ksides, .int (nI ksideMany), .int kwayDays, .int khasWay, .ref klines, .ref kmet, .int (nI kmetMany), .ref ksunk, .ref ktrying, .int (nI ksunkMany), .int ksending, .int kfleets, .ref ktext, .int (nI ktexts), .int kseed, .ref kline, .ref kwritten, .int (nI klineMany), .int khasWritten, .ref knode, .int (nI knodes), .int (nI konesMany), .int (nI kwithin), .int (nI ktop)])), (know, .inl (ky 0, 373, .inl knowF)), (kpoured, .inl (ky 0, 36, .inl g178))] := hD
                refine lv_iinc (v := nI (k26 + 1)) (lv' := [(2, .int (nI (k26 + 1))), (0, .ref o), (1, .int x)]) hx hb dX12_doStir_57 hl (k := 0) rfl (show nI k26 + nI 1 = nI (k26 + 1) from nI_add _ _) (by decide) rfl (fun ls hl => ?_)
                refine lv_goto (tgt := 23) hx hb dX12_doStir_60 (by decide) ?_
                exact ih32 (k26 + 1) g178 (lf_e_doStir_53 knowF kn0 k26 n31 y174 ab_now sb_now he0 j28 hm33 c34 t166 e175 b176 b177) nb180 (lf_e_doStir_54 knowF kn0 k26 n31 y174 ab_now sb_now he0 j28 hm33 c34 t166 e175 b176 b177) _ _ _ hP hD hS (lv_sub hl [0, 1, 2] rfl)
              · refine lv_if_eq (tgt := 57) hx hb dX12_doStir_34 (by decide) (fun c181 => ?_) (fun c181 => absurd (by decide) c181)
                refine lv_iinc (v := nI (k26 + 1)) (lv' := [(2, .int (nI (k26 + 1))), (0, .ref o), (1, .int x)]) hx hb dX12_doStir_57 hl (k := 0) rfl (show nI k26 + nI 1 = nI (k26 + 1) from nI_add _ _) (by decide) rfl (fun ls hl => ?_)
                refine lv_goto (tgt := 23) hx hb dX12_doStir_60 (by decide) ?_
                exact ih32 (k26 + 1) f27 (lf_e_doStir_55 knowF kn0 k26 n31 ab_now sb_now he0 j28 hm33 c34 t167) j29 (lf_e_doStir_56 knowF kn0 k26 n31 ab_now sb_now he0 j28 hm33 c34 t167) _ _ _ hP hD hS (lv_sub hl [0, 1, 2] rfl)
        exact hL30 ((36 - 0) + 1) 0 f10 (lf_e_doStir_57) j12 (Nat.lt_succ_self _) _ _ _ hP hD hS (lv_sub hl [0, 1, 2] rfl)
      · refine lv_aload_n hx hb dX12_doStir_8 rfl (lv_at hl 1 rfl) ?_
        refine va_get (D := (dC, dI)) (ci := 12) (v := .ref kpoured) (C := RX12) (T := TX12) (N := 52) hx hb hts hin12 hown hK hP 0 rfl rfl 26 (by decide) (hts (.fieldLink RX12 130 "PorridgeSeaModel" "poured" "[I") (List.mem_of_getElem? (i := 1) rfl)) (fun _ h9 => h9) rfl dX12_doStir_9 ?_
        refine lv_iload_n hx hb dX12_doStir_12 rfl (lv_at hl 0 rfl) ?_
        refine lv_iconst (v := nI 0) hx hb dX12_doStir_13 (by decide) ?_
        refine r_iast (x := (nI 0)) hx hb hK hP hD hS 2 rfl k9 (lf_e_doStir_60 k9 n14 j11 hm16 c17) (by decide) dX12_doStir_14 (fun H locs hP hD hS => ?_)
        obtain ⟨g182, e183⟩ : ∃ z9, z9 = upd f10 k9 (nI 0) := ⟨_, rfl⟩
        rw [← e183] at hP hD
        have nb184 : AP36 g182 := by rw [e183]; exact st_AP36_0 j12 k9 (lf_e_doStir_61 k9 n14 j11 hm16 c17) (lf_e_doStir_62 k9 n14 j11 hm16 c17) (lf_e_doStir_58) (lf_e_doStir_59)
        have hP : va_P (dC, dI) vwCl [(o, .inr (12, [.int kthrown, .ref ktape, .int (nI ktaped), .int (nI ksize), .int (nI klimit), .int (nI kto), .int (nI kfrom), .int kkind, .int knumber, .int ksign, .int kfault, .int kplace, .long kword, .int ktold, .ref know, .ref kread, .ref kkept, .ref ksnaps, .ref kaside, .ref kname, .ref kreadName, .ref kkeptName, .ref kisKept, .ref konces, .int (nI ksnapMany), .int khasCells, .ref kpoured, .ref kfar, .ref ksides, .int (nI ksideMany), .int kwayDays, .int khasWay, .ref klines, .ref kmet, .int (nI kmetMany), .ref ksunk, .ref ktrying, .int (nI ksunkMany), .int ksending, .int kfleets, .ref ktext, .int (nI ktexts), .int kseed, .ref kline, .ref kwritten, .int (nI klineMany), .int khasWritten, .ref knode, .int (nI knodes), .int (nI konesMany), .int (nI kwithin), .int (nI ktop)])), (know, .inl (ky 0, 373, .inl knowF)), (kpoured, .inl (ky 0, 36, .inl g182))] H := hP
        have hD : va_D A [(o, .inr (12, [.int kthrown, .ref ktape, .int (nI ktaped), .int (nI ksize), .int (nI klimit), .int (nI kto), .int (nI kfrom), .int kkind, .int knumber, .int ksign, .int kfault, .int kplace, .long kword, .int ktold, .ref know, .ref kread, .ref kkept, .ref ksnaps, .ref kaside, .ref kname, .ref kreadName, .ref kkeptName, .ref kisKept, .ref konces, .int (nI ksnapMany), .int khasCells, .ref kpoured, .ref kfar, .ref ksides, .int (nI ksideMany), .int kwayDays, .int khasWay, .ref klines, .ref kmet, .int (nI kmetMany), .ref ksunk, .ref ktrying, .int (nI ksunkMany), .int ksending, .int kfleets, .ref ktext, .int (nI ktexts), .int kseed, .ref kline, .ref kwritten, .int (nI klineMany), .int khasWritten, .ref knode, .int (nI knodes), .int (nI konesMany), .int (nI kwithin), .int (nI ktop)])), (know, .inl (ky 0, 373, .inl knowF)), (kpoured, .inl (ky 0, 36, .inl g182))] := hD
        refine lv_iinc (v := nI (k9 + 1)) (lv' := [(2, .int (nI (k9 + 1))), (0, .ref o), (1, .int x)]) hx hb dX12_doStir_15 hl (k := 0) rfl (show nI k9 + nI 1 = nI (k9 + 1) from nI_add _ _) (by decide) rfl (fun ls hl => ?_)
        refine lv_goto (tgt := 2) hx hb dX12_doStir_18 (by decide) ?_
        exact ih15 (k9 + 1) g182 (lf_e_doStir_63 k9 n14 j11 hm16 c17) nb184 (lf_e_doStir_64 k9 n14 j11 hm16 c17) _ _ _ hP hD hS (lv_sub hl [0, 1, 2] rfl)
  exact hL13 ((36 - 0) + 1) 0 kpouredF (lf_e_doStir_65) ab_poured (Nat.lt_succ_self _) _ _ _ hP hD hS (lv_sub hl [0, 1, 2] rfl)
set_option maxRecDepth 20000 in
theorem lf_e_oneDay_1 (knowF : Nat → Int32) (kn0 : Nat → Int32) (k13 : Nat) (f14 : Nat → Int32) (n20 : Nat) (y23 : Int32) (y28 : Int32) (y30 : Int32) (y32 : Int32) (r34 : Int32) (y36 : Int32) (ab_now : NB knowF) (sb_now : SB knowF) (he0 : HE kn0 knowF) (j15 : k13 ≤ 6) (j16 : NB f14) (j17 : SB f14) (j18 : HE kn0 f14) (hm22 : 6 - k13 < n20 + 1) (e24 : y23 = f14 3) (b25 : 0 ≤ y23.toInt) (b26 : y23.toInt ≤ 6) (c27 : y23 ≤ nI k13) (e29 : y28 = f14 68) (e31 : y30 = f14 5) (e33 : y32 = f14 68) (p35 : (r34 = y30 ∨ r34 = y32) ∧ r34.toInt ≤ y30.toInt ∧ r34.toInt ≤ y32.toInt) (e37 : y36 = y28 - r34) : -2147483648 ≤ (y36).toInt := by
  have b_y23 := ia_b y23
  have b_y28 := ia_b y28
  have b_y30 := ia_b y30
  have b_y32 := ia_b y32
  have b_r34 := ia_b r34
  have b_y36 := ia_b y36
  try have k_0 := ia_n k13 (by first | decide | omega)
  try simp only [ia_lt, ia_le, ia_eq, ia_m1, ia_0, ia_1, ne_eq, true_and, and_true, false_and, and_false, or_false, false_or, or_true, true_or, not_true_eq_false, not_false_eq_true] at *
  all_goals omega
set_option maxRecDepth 20000 in
theorem lf_e_oneDay_2 (knowF : Nat → Int32) (kn0 : Nat → Int32) (k13 : Nat) (f14 : Nat → Int32) (n20 : Nat) (y23 : Int32) (y28 : Int32) (y30 : Int32) (y32 : Int32) (r34 : Int32) (y36 : Int32) (ab_now : NB knowF) (sb_now : SB knowF) (he0 : HE kn0 knowF) (j15 : k13 ≤ 6) (j16 : NB f14) (j17 : SB f14) (j18 : HE kn0 f14) (hm22 : 6 - k13 < n20 + 1) (e24 : y23 = f14 3) (b25 : 0 ≤ y23.toInt) (b26 : y23.toInt ≤ 6) (c27 : y23 ≤ nI k13) (e29 : y28 = f14 68) (e31 : y30 = f14 5) (e33 : y32 = f14 68) (p35 : (r34 = y30 ∨ r34 = y32) ∧ r34.toInt ≤ y30.toInt ∧ r34.toInt ≤ y32.toInt) (e37 : y36 = y28 - r34) : (y36).toInt ≤ 2147483647 := by
  have b_y23 := ia_b y23
  have b_y28 := ia_b y28
  have b_y30 := ia_b y30
  have b_y32 := ia_b y32
  have b_r34 := ia_b r34
  have b_y36 := ia_b y36
  try have k_0 := ia_n k13 (by first | decide | omega)
  try simp only [ia_lt, ia_le, ia_eq, ia_m1, ia_0, ia_1, ne_eq, true_and, and_true, false_and, and_false, or_false, false_or, or_true, true_or, not_true_eq_false, not_false_eq_true] at *
  all_goals omega
set_option maxRecDepth 20000 in
theorem lf_e_oneDay_3 (knowF : Nat → Int32) (kn0 : Nat → Int32) (k13 : Nat) (f14 : Nat → Int32) (n20 : Nat) (y23 : Int32) (y28 : Int32) (y30 : Int32) (y32 : Int32) (r34 : Int32) (y36 : Int32) (g38 : Nat → Int32) (y43 : Int32) (y45 : Int32) (ab_now : NB knowF) (sb_now : SB knowF) (he0 : HE kn0 knowF) (j15 : k13 ≤ 6) (j16 : NB f14) (j17 : SB f14) (j18 : HE kn0 f14) (hm22 : 6 - k13 < n20 + 1) (e24 : y23 = f14 3) (b25 : 0 ≤ y23.toInt) (b26 : y23.toInt ≤ 6) (c27 : y23 ≤ nI k13) (e29 : y28 = f14 68) (e31 : y30 = f14 5) (e33 : y32 = f14 68) (p35 : (r34 = y30 ∨ r34 = y32) ∧ r34.toInt ≤ y30.toInt ∧ r34.toInt ≤ y32.toInt) (e37 : y36 = y28 - r34) (nb40 : NB g38) (sb41 : SB g38) (he42 : HE kn0 g38) (e44 : y43 = g38 67) (e46 : y45 = y43 + (nI 1)) : -2147483648 ≤ (y45).toInt := by
  have b_y23 := ia_b y23
  have b_y28 := ia_b y28
  have b_y30 := ia_b y30
  have b_y32 := ia_b y32
  have b_r34 := ia_b r34
  have b_y36 := ia_b y36
  have b_y43 := ia_b y43
  have b_y45 := ia_b y45
  try have k_0 := ia_n k13 (by first | decide | omega)
  try have k_1 := ia_n 1 (by first | decide | omega)
  try simp only [ia_lt, ia_le, ia_eq, ia_m1, ia_0, ia_1, ne_eq, true_and, and_true, false_and, and_false, or_false, false_or, or_true, true_or, not_true_eq_false, not_false_eq_true] at *
  all_goals omega
set_option maxRecDepth 20000 in
theorem lf_e_oneDay_4 (knowF : Nat → Int32) (kn0 : Nat → Int32) (k13 : Nat) (f14 : Nat → Int32) (n20 : Nat) (y23 : Int32) (y28 : Int32) (y30 : Int32) (y32 : Int32) (r34 : Int32) (y36 : Int32) (g38 : Nat → Int32) (y43 : Int32) (y45 : Int32) (ab_now : NB knowF) (sb_now : SB knowF) (he0 : HE kn0 knowF) (j15 : k13 ≤ 6) (j16 : NB f14) (j17 : SB f14) (j18 : HE kn0 f14) (hm22 : 6 - k13 < n20 + 1) (e24 : y23 = f14 3) (b25 : 0 ≤ y23.toInt) (b26 : y23.toInt ≤ 6) (c27 : y23 ≤ nI k13) (e29 : y28 = f14 68) (e31 : y30 = f14 5) (e33 : y32 = f14 68) (p35 : (r34 = y30 ∨ r34 = y32) ∧ r34.toInt ≤ y30.toInt ∧ r34.toInt ≤ y32.toInt) (e37 : y36 = y28 - r34) (nb40 : NB g38) (sb41 : SB g38) (he42 : HE kn0 g38) (e44 : y43 = g38 67) (e46 : y45 = y43 + (nI 1)) : (y45).toInt ≤ 2147483647 := by
  have b_y23 := ia_b y23
  have b_y28 := ia_b y28
  have b_y30 := ia_b y30
  have b_y32 := ia_b y32
  have b_r34 := ia_b r34
  have b_y36 := ia_b y36
  have b_y43 := ia_b y43
  have b_y45 := ia_b y45
  try have k_0 := ia_n k13 (by first | decide | omega)
  try have k_1 := ia_n 1 (by first | decide | omega)
  try simp only [ia_lt, ia_le, ia_eq, ia_m1, ia_0, ia_1, ne_eq, true_and, and_true, false_and, and_false, or_false, false_or, or_true, true_or, not_true_eq_false, not_false_eq_true] at *
  all_goals omega
set_option maxRecDepth 20000 in
theorem lf_e_oneDay_5 (knowF : Nat → Int32) (kn0 : Nat → Int32) (k13 : Nat) (f14 : Nat → Int32) (n20 : Nat) (y23 : Int32) (ab_now : NB knowF) (sb_now : SB knowF) (he0 : HE kn0 knowF) (j15 : k13 ≤ 6) (j16 : NB f14) (j17 : SB f14) (j18 : HE kn0 f14) (hm22 : 6 - k13 < n20 + 1) (e24 : y23 = f14 3) (b25 : 0 ≤ y23.toInt) (b26 : y23.toInt ≤ 6) (c27 : ¬ y23 ≤ nI k13) : 0 ≤ (nI k13).toInt ∧ (nI k13).toInt ≤ 5 := by
  have b_y23 := ia_b y23
  try have k_0 := ia_n k13 (by first | decide | omega)
  try simp only [ia_lt, ia_le, ia_eq, ia_m1, ia_0, ia_1, ne_eq, true_and, and_true, false_and, and_false, or_false, false_or, or_true, true_or, not_true_eq_false, not_false_eq_true] at *
  all_goals omega
set_option maxRecDepth 20000 in
theorem lf_e_oneDay_6 (knowF : Nat → Int32) (kn0 : Nat → Int32) (k13 : Nat) (f14 : Nat → Int32) (n20 : Nat) (y23 : Int32) (f55 : Nat → Int32) (y60 : Int32) (ab_now : NB knowF) (sb_now : SB knowF) (he0 : HE kn0 knowF) (j15 : k13 ≤ 6) (j16 : NB f14) (j17 : SB f14) (j18 : HE kn0 f14) (hm22 : 6 - k13 < n20 + 1) (e24 : y23 = f14 3) (b25 : 0 ≤ y23.toInt) (b26 : y23.toInt ≤ 6) (c27 : ¬ y23 ≤ nI k13) (j56 : NB f55) (j57 : SB f55) (j58 : HE kn0 f55) (e61 : y60 = f55 (61 + k13)) : (61 + k13) < 373 := by
  have b_y23 := ia_b y23
  have b_y60 := ia_b y60
  try have k_0 := ia_n k13 (by first | decide | omega)
  try simp only [ia_lt, ia_le, ia_eq, ia_m1, ia_0, ia_1, ne_eq, true_and, and_true, false_and, and_false, or_false, false_or, or_true, true_or, not_true_eq_false, not_false_eq_true] at *
  all_goals omega
set_option maxRecDepth 20000 in
theorem lf_e_oneDay_7 (knowF : Nat → Int32) (kn0 : Nat → Int32) (k13 : Nat) (f14 : Nat → Int32) (n20 : Nat) (y23 : Int32) (f55 : Nat → Int32) (y60 : Int32) (ab_now : NB knowF) (sb_now : SB knowF) (he0 : HE kn0 knowF) (j15 : k13 ≤ 6) (j16 : NB f14) (j17 : SB f14) (j18 : HE kn0 f14) (hm22 : 6 - k13 < n20 + 1) (e24 : y23 = f14 3) (b25 : 0 ≤ y23.toInt) (b26 : y23.toInt ≤ 6) (c27 : ¬ y23 ≤ nI k13) (j56 : NB f55) (j57 : SB f55) (j58 : HE kn0 f55) (e61 : y60 = f55 (61 + k13)) : -2147483648 ≤ (y60).toInt := by
  have b_y23 := ia_b y23
  have b_y60 := ia_b y60
  try have k_0 := ia_n k13 (by first | decide | omega)
  try simp only [ia_lt, ia_le, ia_eq, ia_m1, ia_0, ia_1, ne_eq, true_and, and_true, false_and, and_false, or_false, false_or, or_true, true_or, not_true_eq_false, not_false_eq_true] at *
  all_goals omega
set_option maxRecDepth 20000 in
theorem lf_e_oneDay_8 (knowF : Nat → Int32) (kn0 : Nat → Int32) (k13 : Nat) (f14 : Nat → Int32) (n20 : Nat) (y23 : Int32) (f55 : Nat → Int32) (y60 : Int32) (ab_now : NB knowF) (sb_now : SB knowF) (he0 : HE kn0 knowF) (j15 : k13 ≤ 6) (j16 : NB f14) (j17 : SB f14) (j18 : HE kn0 f14) (hm22 : 6 - k13 < n20 + 1) (e24 : y23 = f14 3) (b25 : 0 ≤ y23.toInt) (b26 : y23.toInt ≤ 6) (c27 : ¬ y23 ≤ nI k13) (j56 : NB f55) (j57 : SB f55) (j58 : HE kn0 f55) (e61 : y60 = f55 (61 + k13)) : (y60).toInt ≤ 2147483647 := by
  have b_y23 := ia_b y23
  have b_y60 := ia_b y60
  try have k_0 := ia_n k13 (by first | decide | omega)
  try simp only [ia_lt, ia_le, ia_eq, ia_m1, ia_0, ia_1, ne_eq, true_and, and_true, false_and, and_false, or_false, false_or, or_true, true_or, not_true_eq_false, not_false_eq_true] at *
  all_goals omega
set_option maxRecDepth 20000 in
theorem lf_e_oneDay_9 (knowF : Nat → Int32) (kn0 : Nat → Int32) (k13 : Nat) (f14 : Nat → Int32) (n20 : Nat) (y23 : Int32) (f55 : Nat → Int32) (y60 : Int32) (ab_now : NB knowF) (sb_now : SB knowF) (he0 : HE kn0 knowF) (j15 : k13 ≤ 6) (j16 : NB f14) (j17 : SB f14) (j18 : HE kn0 f14) (hm22 : 6 - k13 < n20 + 1) (e24 : y23 = f14 3) (b25 : 0 ≤ y23.toInt) (b26 : y23.toInt ≤ 6) (c27 : ¬ y23 ≤ nI k13) (j56 : NB f55) (j57 : SB f55) (j58 : HE kn0 f55) (e61 : y60 = f55 (61 + k13)) : (119 + k13) < 373 := by
  have b_y23 := ia_b y23
  have b_y60 := ia_b y60
  try have k_0 := ia_n k13 (by first | decide | omega)
  try simp only [ia_lt, ia_le, ia_eq, ia_m1, ia_0, ia_1, ne_eq, true_and, and_true, false_and, and_false, or_false, false_or, or_true, true_or, not_true_eq_false, not_false_eq_true] at *
  all_goals omega
set_option maxRecDepth 20000 in
theorem lf_e_oneDay_10 (knowF : Nat → Int32) (kn0 : Nat → Int32) (k13 : Nat) (f14 : Nat → Int32) (n20 : Nat) (y23 : Int32) (f55 : Nat → Int32) (y60 : Int32) (ab_now : NB knowF) (sb_now : SB knowF) (he0 : HE kn0 knowF) (j15 : k13 ≤ 6) (j16 : NB f14) (j17 : SB f14) (j18 : HE kn0 f14) (hm22 : 6 - k13 < n20 + 1) (e24 : y23 = f14 3) (b25 : 0 ≤ y23.toInt) (b26 : y23.toInt ≤ 6) (c27 : ¬ y23 ≤ nI k13) (j56 : NB f55) (j57 : SB f55) (j58 : HE kn0 f55) (e61 : y60 = f55 (61 + k13)) : 119 ≤ (119 + k13) := by
  have b_y23 := ia_b y23
  have b_y60 := ia_b y60
  try have k_0 := ia_n k13 (by first | decide | omega)
  try simp only [ia_lt, ia_le, ia_eq, ia_m1, ia_0, ia_1, ne_eq, true_and, and_true, false_and, and_false, or_false, false_or, or_true, true_or, not_true_eq_false, not_false_eq_true] at *
  all_goals omega
set_option maxRecDepth 20000 in
theorem lf_e_oneDay_11 (knowF : Nat → Int32) (kn0 : Nat → Int32) (k13 : Nat) (f14 : Nat → Int32) (n20 : Nat) (y23 : Int32) (f55 : Nat → Int32) (y60 : Int32) (ab_now : NB knowF) (sb_now : SB knowF) (he0 : HE kn0 knowF) (j15 : k13 ≤ 6) (j16 : NB f14) (j17 : SB f14) (j18 : HE kn0 f14) (hm22 : 6 - k13 < n20 + 1) (e24 : y23 = f14 3) (b25 : 0 ≤ y23.toInt) (b26 : y23.toInt ≤ 6) (c27 : ¬ y23 ≤ nI k13) (j56 : NB f55) (j57 : SB f55) (j58 : HE kn0 f55) (e61 : y60 = f55 (61 + k13)) : (119 + k13) < 132 := by
  have b_y23 := ia_b y23
  have b_y60 := ia_b y60
  try have k_0 := ia_n k13 (by first | decide | omega)
  try simp only [ia_lt, ia_le, ia_eq, ia_m1, ia_0, ia_1, ne_eq, true_and, and_true, false_and, and_false, or_false, false_or, or_true, true_or, not_true_eq_false, not_false_eq_true] at *
  all_goals omega
set_option maxRecDepth 20000 in
theorem lf_e_oneDay_12 (knowF : Nat → Int32) (kn0 : Nat → Int32) (k13 : Nat) (f14 : Nat → Int32) (n20 : Nat) (y23 : Int32) (f55 : Nat → Int32) (y60 : Int32) (ab_now : NB knowF) (sb_now : SB knowF) (he0 : HE kn0 knowF) (j15 : k13 ≤ 6) (j16 : NB f14) (j17 : SB f14) (j18 : HE kn0 f14) (hm22 : 6 - k13 < n20 + 1) (e24 : y23 = f14 3) (b25 : 0 ≤ y23.toInt) (b26 : y23.toInt ≤ 6) (c27 : ¬ y23 ≤ nI k13) (j56 : NB f55) (j57 : SB f55) (j58 : HE kn0 f55) (e61 : y60 = f55 (61 + k13)) : 67 ≤ (119 + k13) := by
  have b_y23 := ia_b y23
  have b_y60 := ia_b y60
  try have k_0 := ia_n k13 (by first | decide | omega)
  try simp only [ia_lt, ia_le, ia_eq, ia_m1, ia_0, ia_1, ne_eq, true_and, and_true, false_and, and_false, or_false, false_or, or_true, true_or, not_true_eq_false, not_false_eq_true] at *
  all_goals omega
set_option maxRecDepth 20000 in
theorem lf_e_oneDay_13 (knowF : Nat → Int32) (kn0 : Nat → Int32) (k13 : Nat) (f14 : Nat → Int32) (n20 : Nat) (y23 : Int32) (f55 : Nat → Int32) (y60 : Int32) (g62 : Nat → Int32) (ab_now : NB knowF) (sb_now : SB knowF) (he0 : HE kn0 knowF) (j15 : k13 ≤ 6) (j16 : NB f14) (j17 : SB f14) (j18 : HE kn0 f14) (hm22 : 6 - k13 < n20 + 1) (e24 : y23 = f14 3) (b25 : 0 ≤ y23.toInt) (b26 : y23.toInt ≤ 6) (c27 : ¬ y23 ≤ nI k13) (j56 : NB f55) (j57 : SB f55) (j58 : HE kn0 f55) (e61 : y60 = f55 (61 + k13)) (nb64 : NB g62) (sb65 : SB g62) (he66 : HE kn0 g62) : (k13 + 1) ≤ 6 := by
  have b_y23 := ia_b y23
  have b_y60 := ia_b y60
  try have k_0 := ia_n k13 (by first | decide | omega)
  try simp only [ia_lt, ia_le, ia_eq, ia_m1, ia_0, ia_1, ne_eq, true_and, and_true, false_and, and_false, or_false, false_or, or_true, true_or, not_true_eq_false, not_false_eq_true] at *
  all_goals omega
set_option maxRecDepth 20000 in
theorem lf_e_oneDay_14 (knowF : Nat → Int32) (kn0 : Nat → Int32) (k13 : Nat) (f14 : Nat → Int32) (n20 : Nat) (y23 : Int32) (f55 : Nat → Int32) (y60 : Int32) (g62 : Nat → Int32) (ab_now : NB knowF) (sb_now : SB knowF) (he0 : HE kn0 knowF) (j15 : k13 ≤ 6) (j16 : NB f14) (j17 : SB f14) (j18 : HE kn0 f14) (hm22 : 6 - k13 < n20 + 1) (e24 : y23 = f14 3) (b25 : 0 ≤ y23.toInt) (b26 : y23.toInt ≤ 6) (c27 : ¬ y23 ≤ nI k13) (j56 : NB f55) (j57 : SB f55) (j58 : HE kn0 f55) (e61 : y60 = f55 (61 + k13)) (nb64 : NB g62) (sb65 : SB g62) (he66 : HE kn0 g62) : 6 - (k13 + 1) < n20 := by
  have b_y23 := ia_b y23
  have b_y60 := ia_b y60
  try have k_0 := ia_n k13 (by first | decide | omega)
  try simp only [ia_lt, ia_le, ia_eq, ia_m1, ia_0, ia_1, ne_eq, true_and, and_true, false_and, and_false, or_false, false_or, or_true, true_or, not_true_eq_false, not_false_eq_true] at *
  all_goals omega
set_option maxRecDepth 20000 in
theorem lf_e_oneDay_15 (knowF : Nat → Int32) (kn0 : Nat → Int32) (k13 : Nat) (f14 : Nat → Int32) (n20 : Nat) (y23 : Int32) (ab_now : NB knowF) (sb_now : SB knowF) (he0 : HE kn0 knowF) (j15 : k13 ≤ 6) (j16 : NB f14) (j17 : SB f14) (j18 : HE kn0 f14) (hm22 : 6 - k13 < n20 + 1) (e24 : y23 = f14 3) (b25 : 0 ≤ y23.toInt) (b26 : y23.toInt ≤ 6) (c27 : ¬ y23 ≤ nI k13) : k13 < 6 := by
  have b_y23 := ia_b y23
  try have k_0 := ia_n k13 (by first | decide | omega)
  try simp only [ia_lt, ia_le, ia_eq, ia_m1, ia_0, ia_1, ne_eq, true_and, and_true, false_and, and_false, or_false, false_or, or_true, true_or, not_true_eq_false, not_false_eq_true] at *
  all_goals omega
set_option maxRecDepth 20000 in
theorem lf_e_oneDay_16 (knowF : Nat → Int32) (kn0 : Nat → Int32) (k13 : Nat) (f14 : Nat → Int32) (n20 : Nat) (y23 : Int32) (y73 : Int32) (ab_now : NB knowF) (sb_now : SB knowF) (he0 : HE kn0 knowF) (j15 : k13 ≤ 6) (j16 : NB f14) (j17 : SB f14) (j18 : HE kn0 f14) (hm22 : 6 - k13 < n20 + 1) (e24 : y23 = f14 3) (b25 : 0 ≤ y23.toInt) (b26 : y23.toInt ≤ 6) (c27 : ¬ y23 ≤ nI k13) (t70 : ¬ f14 (125 + k13) = nI 3) (e74 : y73 = f14 (125 + k13)) : (125 + k13) < 373 := by
  have b_y23 := ia_b y23
  have b_y73 := ia_b y73
  try have k_0 := ia_n k13 (by first | decide | omega)
  try have k_1 := ia_n 3 (by first | decide | omega)
  try simp only [ia_lt, ia_le, ia_eq, ia_m1, ia_0, ia_1, ne_eq, true_and, and_true, false_and, and_false, or_false, false_or, or_true, true_or, not_true_eq_false, not_false_eq_true] at *
  all_goals omega
set_option maxRecDepth 20000 in
theorem lf_e_oneDay_17 (knowF : Nat → Int32) (kn0 : Nat → Int32) (k13 : Nat) (f14 : Nat → Int32) (n20 : Nat) (y23 : Int32) (y73 : Int32) (y75 : Int32) (ab_now : NB knowF) (sb_now : SB knowF) (he0 : HE kn0 knowF) (j15 : k13 ≤ 6) (j16 : NB f14) (j17 : SB f14) (j18 : HE kn0 f14) (hm22 : 6 - k13 < n20 + 1) (e24 : y23 = f14 3) (b25 : 0 ≤ y23.toInt) (b26 : y23.toInt ≤ 6) (c27 : ¬ y23 ≤ nI k13) (t70 : ¬ f14 (125 + k13) = nI 3) (e74 : y73 = f14 (125 + k13)) (e76 : y75 = y73 + (nI 1)) : -2147483648 ≤ (y75).toInt := by
  have b_y23 := ia_b y23
  have b_y73 := ia_b y73
  have b_y75 := ia_b y75
  try have k_0 := ia_n k13 (by first | decide | omega)
  try have k_1 := ia_n 3 (by first | decide | omega)
  try have k_2 := ia_n 1 (by first | decide | omega)
  try simp only [ia_lt, ia_le, ia_eq, ia_m1, ia_0, ia_1, ne_eq, true_and, and_true, false_and, and_false, or_false, false_or, or_true, true_or, not_true_eq_false, not_false_eq_true] at *
  all_goals omega
set_option maxRecDepth 20000 in
theorem lf_e_oneDay_18 (knowF : Nat → Int32) (kn0 : Nat → Int32) (k13 : Nat) (f14 : Nat → Int32) (n20 : Nat) (y23 : Int32) (y73 : Int32) (y75 : Int32) (ab_now : NB knowF) (sb_now : SB knowF) (he0 : HE kn0 knowF) (j15 : k13 ≤ 6) (j16 : NB f14) (j17 : SB f14) (j18 : HE kn0 f14) (hm22 : 6 - k13 < n20 + 1) (e24 : y23 = f14 3) (b25 : 0 ≤ y23.toInt) (b26 : y23.toInt ≤ 6) (c27 : ¬ y23 ≤ nI k13) (t70 : ¬ f14 (125 + k13) = nI 3) (e74 : y73 = f14 (125 + k13)) (e76 : y75 = y73 + (nI 1)) : (y75).toInt ≤ 2147483647 := by
  have b_y23 := ia_b y23
  have b_y73 := ia_b y73
  have b_y75 := ia_b y75
  try have k_0 := ia_n k13 (by first | decide | omega)
  try have k_1 := ia_n 3 (by first | decide | omega)
  try have k_2 := ia_n 1 (by first | decide | omega)
  try simp only [ia_lt, ia_le, ia_eq, ia_m1, ia_0, ia_1, ne_eq, true_and, and_true, false_and, and_false, or_false, false_or, or_true, true_or, not_true_eq_false, not_false_eq_true] at *
  all_goals omega
set_option maxRecDepth 20000 in
theorem lf_e_oneDay_19 (knowF : Nat → Int32) (kn0 : Nat → Int32) (k13 : Nat) (f14 : Nat → Int32) (n20 : Nat) (y23 : Int32) (y73 : Int32) (y75 : Int32) (ab_now : NB knowF) (sb_now : SB knowF) (he0 : HE kn0 knowF) (j15 : k13 ≤ 6) (j16 : NB f14) (j17 : SB f14) (j18 : HE kn0 f14) (hm22 : 6 - k13 < n20 + 1) (e24 : y23 = f14 3) (b25 : 0 ≤ y23.toInt) (b26 : y23.toInt ≤ 6) (c27 : ¬ y23 ≤ nI k13) (t70 : ¬ f14 (125 + k13) = nI 3) (e74 : y73 = f14 (125 + k13)) (e76 : y75 = y73 + (nI 1)) : (125 + k13) < 373 := by
  have b_y23 := ia_b y23
  have b_y73 := ia_b y73
  have b_y75 := ia_b y75
  try have k_0 := ia_n k13 (by first | decide | omega)
  try have k_1 := ia_n 3 (by first | decide | omega)
  try have k_2 := ia_n 1 (by first | decide | omega)
  try simp only [ia_lt, ia_le, ia_eq, ia_m1, ia_0, ia_1, ne_eq, true_and, and_true, false_and, and_false, or_false, false_or, or_true, true_or, not_true_eq_false, not_false_eq_true] at *
  all_goals omega
set_option maxRecDepth 20000 in
theorem lf_e_oneDay_20 (knowF : Nat → Int32) (kn0 : Nat → Int32) (k13 : Nat) (f14 : Nat → Int32) (n20 : Nat) (y23 : Int32) (y73 : Int32) (y75 : Int32) (ab_now : NB knowF) (sb_now : SB knowF) (he0 : HE kn0 knowF) (j15 : k13 ≤ 6) (j16 : NB f14) (j17 : SB f14) (j18 : HE kn0 f14) (hm22 : 6 - k13 < n20 + 1) (e24 : y23 = f14 3) (b25 : 0 ≤ y23.toInt) (b26 : y23.toInt ≤ 6) (c27 : ¬ y23 ≤ nI k13) (t70 : ¬ f14 (125 + k13) = nI 3) (e74 : y73 = f14 (125 + k13)) (e76 : y75 = y73 + (nI 1)) : 119 ≤ (125 + k13) := by
  have b_y23 := ia_b y23
  have b_y73 := ia_b y73
  have b_y75 := ia_b y75
  try have k_0 := ia_n k13 (by first | decide | omega)
  try have k_1 := ia_n 3 (by first | decide | omega)
  try have k_2 := ia_n 1 (by first | decide | omega)
  try simp only [ia_lt, ia_le, ia_eq, ia_m1, ia_0, ia_1, ne_eq, true_and, and_true, false_and, and_false, or_false, false_or, or_true, true_or, not_true_eq_false, not_false_eq_true] at *
  all_goals omega
set_option maxRecDepth 20000 in
theorem lf_e_oneDay_21 (knowF : Nat → Int32) (kn0 : Nat → Int32) (k13 : Nat) (f14 : Nat → Int32) (n20 : Nat) (y23 : Int32) (y73 : Int32) (y75 : Int32) (ab_now : NB knowF) (sb_now : SB knowF) (he0 : HE kn0 knowF) (j15 : k13 ≤ 6) (j16 : NB f14) (j17 : SB f14) (j18 : HE kn0 f14) (hm22 : 6 - k13 < n20 + 1) (e24 : y23 = f14 3) (b25 : 0 ≤ y23.toInt) (b26 : y23.toInt ≤ 6) (c27 : ¬ y23 ≤ nI k13) (t70 : ¬ f14 (125 + k13) = nI 3) (e74 : y73 = f14 (125 + k13)) (e76 : y75 = y73 + (nI 1)) : (125 + k13) < 132 := by
  have b_y23 := ia_b y23
  have b_y73 := ia_b y73
  have b_y75 := ia_b y75
  try have k_0 := ia_n k13 (by first | decide | omega)
  try have k_1 := ia_n 3 (by first | decide | omega)
  try have k_2 := ia_n 1 (by first | decide | omega)
  try simp only [ia_lt, ia_le, ia_eq, ia_m1, ia_0, ia_1, ne_eq, true_and, and_true, false_and, and_false, or_false, false_or, or_true, true_or, not_true_eq_false, not_false_eq_true] at *
  all_goals omega
set_option maxRecDepth 20000 in
theorem lf_e_oneDay_22 (knowF : Nat → Int32) (kn0 : Nat → Int32) (k13 : Nat) (f14 : Nat → Int32) (n20 : Nat) (y23 : Int32) (y73 : Int32) (y75 : Int32) (ab_now : NB knowF) (sb_now : SB knowF) (he0 : HE kn0 knowF) (j15 : k13 ≤ 6) (j16 : NB f14) (j17 : SB f14) (j18 : HE kn0 f14) (hm22 : 6 - k13 < n20 + 1) (e24 : y23 = f14 3) (b25 : 0 ≤ y23.toInt) (b26 : y23.toInt ≤ 6) (c27 : ¬ y23 ≤ nI k13) (t70 : ¬ f14 (125 + k13) = nI 3) (e74 : y73 = f14 (125 + k13)) (e76 : y75 = y73 + (nI 1)) : 67 ≤ (125 + k13) := by
  have b_y23 := ia_b y23
  have b_y73 := ia_b y73
  have b_y75 := ia_b y75
  try have k_0 := ia_n k13 (by first | decide | omega)
  try have k_1 := ia_n 3 (by first | decide | omega)
  try have k_2 := ia_n 1 (by first | decide | omega)
  try simp only [ia_lt, ia_le, ia_eq, ia_m1, ia_0, ia_1, ne_eq, true_and, and_true, false_and, and_false, or_false, false_or, or_true, true_or, not_true_eq_false, not_false_eq_true] at *
  all_goals omega
set_option maxRecDepth 20000 in
theorem lf_e_oneDay_23 (knowF : Nat → Int32) (kn0 : Nat → Int32) (k13 : Nat) (f14 : Nat → Int32) (n20 : Nat) (y23 : Int32) (ab_now : NB knowF) (sb_now : SB knowF) (he0 : HE kn0 knowF) (j15 : k13 ≤ 6) (j16 : NB f14) (j17 : SB f14) (j18 : HE kn0 f14) (hm22 : 6 - k13 < n20 + 1) (e24 : y23 = f14 3) (b25 : 0 ≤ y23.toInt) (b26 : y23.toInt ≤ 6) (c27 : ¬ y23 ≤ nI k13) : (125 + k13) < 373 := by
  have b_y23 := ia_b y23
  try have k_0 := ia_n k13 (by first | decide | omega)
  try simp only [ia_lt, ia_le, ia_eq, ia_m1, ia_0, ia_1, ne_eq, true_and, and_true, false_and, and_false, or_false, false_or, or_true, true_or, not_true_eq_false, not_false_eq_true] at *
  all_goals omega
set_option maxRecDepth 20000 in
theorem lf_e_oneDay_24 (knowF : Nat → Int32) (kn0 : Nat → Int32) (k13 : Nat) (f14 : Nat → Int32) (n20 : Nat) (y23 : Int32) (ab_now : NB knowF) (sb_now : SB knowF) (he0 : HE kn0 knowF) (j15 : k13 ≤ 6) (j16 : NB f14) (j17 : SB f14) (j18 : HE kn0 f14) (hm22 : 6 - k13 < n20 + 1) (e24 : y23 = f14 3) (b25 : 0 ≤ y23.toInt) (b26 : y23.toInt ≤ 6) (c27 : ¬ y23 ≤ nI k13) : 67 ≤ (125 + k13) := by
  have b_y23 := ia_b y23
  try have k_0 := ia_n k13 (by first | decide | omega)
  try simp only [ia_lt, ia_le, ia_eq, ia_m1, ia_0, ia_1, ne_eq, true_and, and_true, false_and, and_false, or_false, false_or, or_true, true_or, not_true_eq_false, not_false_eq_true] at *
  all_goals omega
set_option maxRecDepth 20000 in
theorem lf_e_oneDay_25   : 0 ≤ 6 := by
  try simp only [ia_lt, ia_le, ia_eq, ia_m1, ia_0, ia_1, ne_eq, true_and, and_true, false_and, and_false, or_false, false_or, or_true, true_or, not_true_eq_false, not_false_eq_true] at *
  all_goals omega
set_option maxHeartbeats 4000000 in
set_option maxRecDepth 100000 in
theorem c_e_oneDay (l : Launch) (dC : Nat → ClassId) (dI : Nat → Nat → Nat) (ky : Nat → ClassId) (sz : Nat) (o : Nat) (kthrown : Int32) (ktape : Nat) (ktaped : Nat) (ksize : Nat) (klimit : Nat) (kto : Nat) (kfrom : Nat) (kkind : Int32) (knumber : Int32) (ksign : Int32) (kfault : Int32) (kplace : Int32) (kword : Int64) (ktold : Int32) (know : Nat) (kread : Nat) (kkept : Nat) (ksnaps : Nat) (kaside : Nat) (kname : Nat) (kreadName : Nat) (kkeptName : Nat) (kisKept : Nat) (konces : Nat) (ksnapMany : Nat) (khasCells : Int32) (kpoured : Nat) (kfar : Nat) (ksides : Nat) (ksideMany : Nat) (kwayDays : Int32) (khasWay : Int32) (klines : Nat) (kmet : Nat) (kmetMany : Nat) (ksunk : Nat) (ktrying : Nat) (ksunkMany : Nat) (ksending : Int32) (kfleets : Int32) (ktext : Nat) (ktexts : Nat) (kseed : Int32) (kline : Nat) (kwritten : Nat) (klineMany : Nat) (khasWritten : Int32) (knode : Nat) (knodes : Nat) (konesMany : Nat) (kwithin : Nat) (ktop : Nat) (knowF : Nat → Int32) (kn0 : Nat → Int32) (iv_ko_0 : ktaped ≤ 940) (iv_ko_1 : ksize ≤ 940) (iv_ko_2 : klimit ≤ 900) (iv_ko_3 : kto ≤ ksize) (iv_ko_4 : kfrom ≤ 940) (iv_ko_5 : ksnapMany ≤ 8) (iv_ko_6 : ksideMany ≤ 36) (iv_ko_7 : kmetMany ≤ 3) (iv_ko_8 : ksunkMany ≤ 36) (iv_ko_9 : ktexts ≤ 64) (iv_ko_10 : klineMany ≤ 40) (iv_ko_11 : knodes ≤ 60) (iv_ko_12 : konesMany ≤ 20) (iv_ko_13 : kwithin ≤ 8) (iv_ko_14 : ktop ≤ 59) (ab_now : NB knowF) (sb_now : SB knowF) (he0 : HE kn0 knowF) : Met l yX12_oneDay wsX12_oneDay ({ frames := 3, cells := 0, slots := 0, locals := 65 }) (PcU dC dI ky [.ref o] [(o, .inr (12, [.int kthrown, .ref ktape, .int (nI ktaped), .int (nI ksize), .int (nI klimit), .int (nI kto), .int (nI kfrom), .int kkind, .int knumber, .int ksign, .int kfault, .int kplace, .long kword, .int ktold, .ref know, .ref kread, .ref kkept, .ref ksnaps, .ref kaside, .ref kname, .ref kreadName, .ref kkeptName, .ref kisKept, .ref konces, .int (nI ksnapMany), .int khasCells, .ref kpoured, .ref kfar, .ref ksides, .int (nI ksideMany), .int kwayDays, .int khasWay, .ref klines, .ref kmet, .int (nI kmetMany), .ref ksunk, .ref ktrying, .int (nI ksunkMany), .int ksending, .int kfleets, .ref ktext, .int (nI ktexts), .int kseed, .ref kline, .ref kwritten, .int (nI klineMany), .int khasWritten, .ref knode, .int (nI knodes), .int (nI konesMany), .int (nI kwithin), .int (nI ktop)])), (know, .inl (ky 0, 373, .inl knowF))] sz) (va_Qv (fun (knowG : (Nat → Int32)) => (NB knowG) ∧ (SB knowG) ∧ (HE kn0 knowG)) (BU dC dI ky (fun (knowG : (Nat → Int32)) => [(o, .inr (12, [.int kthrown, .ref ktape, .int (nI ktaped), .int (nI ksize), .int (nI klimit), .int (nI kto), .int (nI kfrom), .int kkind, .int knumber, .int ksign, .int kfault, .int kplace, .long kword, .int ktold, .ref know, .ref kread, .ref kkept, .ref ksnaps, .ref kaside, .ref kname, .ref kreadName, .ref kkeptName, .ref kisKept, .ref konces, .int (nI ksnapMany), .int khasCells, .ref kpoured, .ref kfar, .ref ksides, .int (nI ksideMany), .int kwayDays, .int khasWay, .ref klines, .ref kmet, .int (nI kmetMany), .ref ksunk, .ref ktrying, .int (nI ksunkMany), .int ksending, .int kfleets, .ref ktext, .int (nI ktexts), .int kseed, .ref kline, .ref kwritten, .int (nI klineMany), .int khasWritten, .ref knode, .int (nI knodes), .int (nI konesMany), .int (nI kwithin), .int (nI ktop)])), (know, .inl (ky 0, 373, .inl knowG))]) (va_A [(o, .inr (12, [.int kthrown, .ref ktape, .int (nI ktaped), .int (nI ksize), .int (nI klimit), .int (nI kto), .int (nI kfrom), .int kkind, .int knumber, .int ksign, .int kfault, .int kplace, .long kword, .int ktold, .ref know, .ref kread, .ref kkept, .ref ksnaps, .ref kaside, .ref kname, .ref kreadName, .ref kkeptName, .ref kisKept, .ref konces, .int (nI ksnapMany), .int khasCells, .ref kpoured, .ref kfar, .ref ksides, .int (nI ksideMany), .int kwayDays, .int khasWay, .ref klines, .ref kmet, .int (nI kmetMany), .ref ksunk, .ref ktrying, .int (nI ksunkMany), .int ksending, .int kfleets, .ref ktext, .int (nI ktexts), .int kseed, .ref kline, .ref kwritten, .int (nI klineMany), .int khasWritten, .ref knode, .int (nI knodes), .int (nI konesMany), .int (nI kwithin), .int (nI ktop)])), (know, .inl (ky 0, 373, .inl knowF))] sz)) (va_A [(o, .inr (12, [.int kthrown, .ref ktape, .int (nI ktaped), .int (nI ksize), .int (nI klimit), .int (nI kto), .int (nI kfrom), .int kkind, .int knumber, .int ksign, .int kfault, .int kplace, .long kword, .int ktold, .ref know, .ref kread, .ref kkept, .ref ksnaps, .ref kaside, .ref kname, .ref kreadName, .ref kkeptName, .ref kisKept, .ref konces, .int (nI ksnapMany), .int khasCells, .ref kpoured, .ref kfar, .ref ksides, .int (nI ksideMany), .int kwayDays, .int khasWay, .ref klines, .ref kmet, .int (nI kmetMany), .ref ksunk, .ref ktrying, .int (nI ksunkMany), .int ksending, .int kfleets, .ref ktext, .int (nI ktexts), .int kseed, .ref kline, .ref kwritten, .int (nI klineMany), .int khasWritten, .ref knode, .int (nI knodes), .int (nI konesMany), .int (nI kwithin), .int (nI ktop)])), (know, .inl (ky 0, 373, .inl knowF))] sz)) 0 0 (va_A [(o, .inr (12, [.int kthrown, .ref ktape, .int (nI ktaped), .int (nI ksize), .int (nI klimit), .int (nI kto), .int (nI kfrom), .int kkind, .int knumber, .int ksign, .int kfault, .int kplace, .long kword, .int ktold, .ref know, .ref kread, .ref kkept, .ref ksnaps, .ref kaside, .ref kname, .ref kreadName, .ref kkeptName, .ref kisKept, .ref konces, .int (nI ksnapMany), .int khasCells, .ref kpoured, .ref kfar, .ref ksides, .int (nI ksideMany), .int kwayDays, .int khasWay, .ref klines, .ref kmet, .int (nI kmetMany), .ref ksunk, .ref ktrying, .int (nI ksunkMany), .int ksending, .int kfleets, .ref ktext, .int (nI ktexts), .int kseed, .ref kline, .ref kwritten, .int (nI klineMany), .int khasWritten, .ref knode, .int (nI knodes), .int (nI konesMany), .int (nI kwithin), .int (nI ktop)])), (know, .inl (ky 0, 373, .inl knowF))] sz) := by
  refine Met.ofW (cc := cX12_oneDay) (maxL := 2) (ret := none) (by decide) rfl ?_
  intro p e s m args below meth c s₁ B hml hv
  obtain ⟨rfl, hsz, hP, hK, hD0⟩ := hv
  have hx := B.exec
  have hb := B.bytes
  have hr := B.returns
  have hts := atoms_spec (ws := wsX12_oneDay) B.pre
  have hown : s.vm.findClass RX12 = some m.cls := findClass_of_methodNamed B.named
  have hlocks := B.notSynchronized
  have hin12 : ∀ w ∈ u_ws RX12 TX12 52, w ∈ wsX12_oneDay := by decide +kernel
  subst hsz
  have hD := hD0.self (sz := s.heap.size)
  generalize hAe : va_A [(o, .inr (12, [.int kthrown, .ref ktape, .int (nI ktaped), .int (nI ksize), .int (nI klimit), .int (nI kto), .int (nI kfrom), .int kkind, .int knumber, .int ksign, .int kfault, .int kplace, .long kword, .int ktold, .ref know, .ref kread, .ref kkept, .ref ksnaps, .ref kaside, .ref kname, .ref kreadName, .ref kkeptName, .ref kisKept, .ref konces, .int (nI ksnapMany), .int khasCells, .ref kpoured, .ref kfar, .ref ksides, .int (nI ksideMany), .int kwayDays, .int khasWay, .ref klines, .ref kmet, .int (nI kmetMany), .ref ksunk, .ref ktrying, .int (nI ksunkMany), .int ksending, .int kfleets, .ref ktext, .int (nI ktexts), .int kseed, .ref kline, .ref kwritten, .int (nI klineMany), .int khasWritten, .ref knode, .int (nI knodes), .int (nI konesMany), .int (nI kwithin), .int (nI ktop)])), (know, .inl (ky 0, 373, .inl knowF))] s.heap.size = A at hD ⊢
  have hA : ∀ q : Nat, s.heap.size ≤ q → A q := fun q h => by rw [← hAe]; exact Or.inr h
  have hS : va_S A s.heap s.heap [] := va_S.rf
  have hl := lv_entry ([.ref o]) (n := 2) (Nat.le_of_ble_eq_true rfl)
  rw [lg_entry_eq]
  generalize (lg_sl ([.ref o]) ++ List.replicate (2 - (lg_sl ([.ref o])).length) Slot.unset).toArray = ls at hl ⊢
  have hl : lv_has ls 2 [(0, .ref o)] := hl
  refine q_name (fun Q hQ => ?_)
  generalize ([.ref o] : List Value).toArray = args at hts hQ ⊢
  refine lv_iconst (v := nI 0) hx hb dX12_oneDay_0 (by decide) ?_
  refine lv_istore_n (lv' := [(1, .int (nI 0)), (0, .ref o)]) hx hb dX12_oneDay_1 rfl hl (by decide) rfl (fun ls hl => ?_)
  have hL19 : ∀ (n20 : Nat) (k13 : Nat) (f14 : Nat → Int32), (k13 ≤ 6) → (NB f14) → (SB f14) → (HE kn0 f14) → 6 - k13 < n20 → ∀ (H : Heap) (locs : List Loc) (ls : Array Slot), va_P (dC, dI) vwCl [(o, .inr (12, [.int kthrown, .ref ktape, .int (nI ktaped), .int (nI ksize), .int (nI klimit), .int (nI kto), .int (nI kfrom), .int kkind, .int knumber, .int ksign, .int kfault, .int kplace, .long kword, .int ktold, .ref know, .ref kread, .ref kkept, .ref ksnaps, .ref kaside, .ref kname, .ref kreadName, .ref kkeptName, .ref kisKept, .ref konces, .int (nI ksnapMany), .int khasCells, .ref kpoured, .ref kfar, .ref ksides, .int (nI ksideMany), .int kwayDays, .int khasWay, .ref klines, .ref kmet, .int (nI kmetMany), .ref ksunk, .ref ktrying, .int (nI ksunkMany), .int ksending, .int kfleets, .ref ktext, .int (nI ktexts), .int kseed, .ref kline, .ref kwritten, .int (nI klineMany), .int khasWritten, .ref knode, .int (nI knodes), .int (nI konesMany), .int (nI kwithin), .int (nI ktop)])), (know, .inl (ky 0, 373, .inl f14))] H → va_D A [(o, .inr (12, [.int kthrown, .ref ktape, .int (nI ktaped), .int (nI ksize), .int (nI klimit), .int (nI kto), .int (nI kfrom), .int kkind, .int knumber, .int ksign, .int kfault, .int kplace, .long kword, .int ktold, .ref know, .ref kread, .ref kkept, .ref ksnaps, .ref kaside, .ref kname, .ref kreadName, .ref kkeptName, .ref kisKept, .ref konces, .int (nI ksnapMany), .int khasCells, .ref kpoured, .ref kfar, .ref ksides, .int (nI ksideMany), .int kwayDays, .int khasWay, .ref klines, .ref kmet, .int (nI kmetMany), .ref ksunk, .ref ktrying, .int (nI ksunkMany), .int ksending, .int kfleets, .ref ktext, .int (nI ktexts), .int kseed, .ref kline, .ref kwritten, .int (nI klineMany), .int khasWritten, .ref knode, .int (nI knodes), .int (nI konesMany), .int (nI kwithin), .int (nI ktop)])), (know, .inl (ky 0, 373, .inl f14))] → va_S A s.heap H locs → lv_has ls 2 [(1, .int (nI k13)), (0, .ref o)] → W p l e (headSpec wsX12_oneDay ({ frames := 3, cells := 0, slots := 0, locals := 65 })).room s m args below meth c H locs 0 0 Q (F0 m 2 ls []) := by
    intro n20
    induction n20 with
    | zero => intro k13 f14 _ _ _ _ h9; exact absurd h9 (Nat.not_lt_zero _)
    | succ n20 ih21 =>
      intro k13 f14 j15 j16 j17 j18 hm22 H locs ls hP hD hS hl
      refine lv_iload_n hx hb dX12_oneDay_2 rfl (lv_at hl 0 rfl) ?_
      refine lv_aload_n hx hb dX12_oneDay_3 rfl (lv_at hl 1 rfl) ?_
      refine va_get (D := (dC, dI)) (ci := 12) (v := .ref know) (C := RX12) (T := TX12) (N := 52) hx hb hts hin12 hown hK hP 0 rfl rfl 14 (by decide) (hts (.fieldLink RX12 98 "PorridgeSeaModel" "now" "[I") (List.mem_of_getElem? (i := 1) rfl)) (fun _ h9 => h9) rfl dX12_oneDay_4 ?_
      refine lv_iconst (v := nI 3) hx hb dX12_oneDay_7 (by decide) ?_
      obtain ⟨y23, e24⟩ : ∃ z9, z9 = f14 3 := ⟨_, rfl⟩
      refine r_iald hx hb hK hP 1 rfl 3 (by decide) (by decide) y23 e24.symm dX12_oneDay_8 ?_
      obtain ⟨b25, b26⟩ : (0 : Int) ≤ y23.toInt ∧ y23.toInt ≤ 6 := by rw [e24]; exact ld_NB_3 j16 3 (by decide) (by decide)
      refine lv_icmp_ge (tgt := 78) hx hb dX12_oneDay_9 (by decide) (fun c27 => ?_) (fun c27 => ?_)
      · refine lv_aload_n hx hb dX12_oneDay_78 rfl (lv_at hl 1 rfl) ?_
        refine va_get (D := (dC, dI)) (ci := 12) (v := .ref know) (C := RX12) (T := TX12) (N := 52) hx hb hts hin12 hown hK hP 0 rfl rfl 14 (by decide) (hts (.fieldLink RX12 98 "PorridgeSeaModel" "now" "[I") (List.mem_of_getElem? (i := 1) rfl)) (fun _ h9 => h9) rfl dX12_oneDay_79 ?_
        refine lv_bipush (v := nI 68) hx hb dX12_oneDay_82 (by decide) ?_
        refine lv_dup2_11 hx hb dX12_oneDay_84 rfl rfl ?_
        obtain ⟨y28, e29⟩ : ∃ z9, z9 = f14 68 := ⟨_, rfl⟩
        refine r_iald hx hb hK hP 1 rfl 68 (by decide) (by decide) y28 e29.symm dX12_oneDay_85 ?_
        refine lv_aload_n hx hb dX12_oneDay_86 rfl (lv_at hl 1 rfl) ?_
        refine va_get (D := (dC, dI)) (ci := 12) (v := .ref know) (C := RX12) (T := TX12) (N := 52) hx hb hts hin12 hown hK hP 0 rfl rfl 14 (by decide) (hts (.fieldLink RX12 98 "PorridgeSeaModel" "now" "[I") (List.mem_of_getElem? (i := 1) rfl)) (fun _ h9 => h9) rfl dX12_oneDay_87 ?_
        refine lv_iconst (v := nI 5) hx hb dX12_oneDay_90 (by decide) ?_
        obtain ⟨y30, e31⟩ : ∃ z9, z9 = f14 5 := ⟨_, rfl⟩
        refine r_iald hx hb hK hP 1 rfl 5 (by decide) (by decide) y30 e31.symm dX12_oneDay_91 ?_
        refine lv_aload_n hx hb dX12_oneDay_92 rfl (lv_at hl 1 rfl) ?_
        refine va_get (D := (dC, dI)) (ci := 12) (v := .ref know) (C := RX12) (T := TX12) (N := 52) hx hb hts hin12 hown hK hP 0 rfl rfl 14 (by decide) (hts (.fieldLink RX12 98 "PorridgeSeaModel" "now" "[I") (List.mem_of_getElem? (i := 1) rfl)) (fun _ h9 => h9) rfl dX12_oneDay_93 ?_
        refine lv_bipush (v := nI 68) hx hb dX12_oneDay_96 (by decide) ?_
        obtain ⟨y32, e33⟩ : ∃ z9, z9 = f14 68 := ⟨_, rfl⟩
        refine r_iald hx hb hK hP 1 rfl 68 (by decide) (by decide) y32 e33.symm dX12_oneDay_98 ?_
        refine vp_callSi (W.runS (As := [.int y30, .int y32]) (rest := [.int y28, .int (nI 68), .ref know]) ⟨hx, hb, hml, hown, hts⟩ (c_x_least l dC dI ky y30 y32) (va_cwS 2 hts gX12_oneDay_X12_least rfl rfl rfl (by decide +kernel) ⟨(Nat.le_of_ble_eq_true rfl), (Nat.le_of_ble_eq_true rfl)⟩) (pre_PS hK hP [] rfl) rfl rfl hl.1 rfl (lv_room (Nat.le_of_ble_eq_true rfl)) dX12_oneDay_99 ⟨(Nat.le_of_ble_eq_true rfl), (Nat.le_of_ble_eq_true rfl)⟩) (fun r34 p35 => ?_)
        refine lv_isub hx hb dX12_oneDay_102 ?_
        refine lv_topi (fun y36 e37 => ?_)
        refine r_iast (x := y36) hx hb hK hP hD hS 1 rfl 68 (by decide) (by decide) dX12_oneDay_103 (fun H locs hP hD hS => ?_)
        obtain ⟨g38, e39⟩ : ∃ z9, z9 = upd f14 68 y36 := ⟨_, rfl⟩
        rw [← e39] at hP hD
        have nb40 : NB g38 := by rw [e39]; exact st_NB_67 j16 68 (by decide) (by decide) (lf_e_oneDay_1 knowF kn0 k13 f14 n20 y23 y28 y30 y32 r34 y36 ab_now sb_now he0 j15 j16 j17 j18 hm22 e24 b25 b26 c27 e29 e31 e33 p35 e37) (lf_e_oneDay_2 knowF kn0 k13 f14 n20 y23 y28 y30 y32 r34 y36 ab_now sb_now he0 j15 j16 j17 j18 hm22 e24 b25 b26 c27 e29 e31 e33 p35 e37)
        have sb41 : SB g38 := by rw [e39]; exact SB_lo j17 _ _ (by omega)
        have he42 : HE kn0 g38 := by rw [e39]; exact HE_upd j18 (by decide) _
        have hP : va_P (dC, dI) vwCl [(o, .inr (12, [.int kthrown, .ref ktape, .int (nI ktaped), .int (nI ksize), .int (nI klimit), .int (nI kto), .int (nI kfrom), .int kkind, .int knumber, .int ksign, .int kfault, .int kplace, .long kword, .int ktold, .ref know, .ref kread, .ref kkept, .ref ksnaps, .ref kaside, .ref kname, .ref kreadName, .ref kkeptName, .ref kisKept, .ref konces, .int (nI ksnapMany), .int khasCells, .ref kpoured, .ref kfar, .ref ksides, .int (nI ksideMany), .int kwayDays, .int khasWay, .ref klines, .ref kmet, .int (nI kmetMany), .ref ksunk, .ref ktrying, .int (nI ksunkMany), .int ksending, .int kfleets, .ref ktext, .int (nI ktexts), .int kseed, .ref kline, .ref kwritten, .int (nI klineMany), .int khasWritten, .ref knode, .int (nI knodes), .int (nI konesMany), .int (nI kwithin), .int (nI ktop)])), (know, .inl (ky 0, 373, .inl g38))] H := hP
        have hD : va_D A [(o, .inr (12, [.int kthrown, .ref ktape, .int (nI ktaped), .int (nI ksize), .int (nI klimit), .int (nI kto), .int (nI kfrom), .int kkind, .int knumber, .int ksign, .int kfault, .int kplace, .long kword, .int ktold, .ref know, .ref kread, .ref kkept, .ref ksnaps, .ref kaside, .ref kname, .ref kreadName, .ref kkeptName, .ref kisKept, .ref konces, .int (nI ksnapMany), .int khasCells, .ref kpoured, .ref kfar, .ref ksides, .int (nI ksideMany), .int kwayDays, .int khasWay, .ref klines, .ref kmet, .int (nI kmetMany), .ref ksunk, .ref ktrying, .int (nI ksunkMany), .int ksending, .int kfleets, .ref ktext, .int (nI ktexts), .int kseed, .ref kline, .ref kwritten, .int (nI klineMany), .int khasWritten, .ref knode, .int (nI knodes), .int (nI konesMany), .int (nI kwithin), .int (nI ktop)])), (know, .inl (ky 0, 373, .inl g38))] := hD
        refine lv_aload_n hx hb dX12_oneDay_104 rfl (lv_at hl 1 rfl) ?_
        refine va_get (D := (dC, dI)) (ci := 12) (v := .ref know) (C := RX12) (T := TX12) (N := 52) hx hb hts hin12 hown hK hP 0 rfl rfl 14 (by decide) (hts (.fieldLink RX12 98 "PorridgeSeaModel" "now" "[I") (List.mem_of_getElem? (i := 1) rfl)) (fun _ h9 => h9) rfl dX12_oneDay_105 ?_
        refine lv_bipush (v := nI 67) hx hb dX12_oneDay_108 (by decide) ?_
        refine lv_dup2_11 hx hb dX12_oneDay_110 rfl rfl ?_
        obtain ⟨y43, e44⟩ : ∃ z9, z9 = g38 67 := ⟨_, rfl⟩
        refine r_iald hx hb hK hP 1 rfl 67 (by decide) (by decide) y43 e44.symm dX12_oneDay_111 ?_
        refine lv_iconst (v := nI 1) hx hb dX12_oneDay_112 (by decide) ?_
        refine lv_iadd hx hb dX12_oneDay_113 ?_
        refine lv_topi (fun y45 e46 => ?_)
        refine r_iast (x := y45) hx hb hK hP hD hS 1 rfl 67 (by decide) (by decide) dX12_oneDay_114 (fun H locs hP hD hS => ?_)
        obtain ⟨g47, e48⟩ : ∃ z9, z9 = upd g38 67 y45 := ⟨_, rfl⟩
        rw [← e48] at hP hD
        have nb49 : NB g47 := by rw [e48]; exact st_NB_67 nb40 67 (by decide) (by decide) (lf_e_oneDay_3 knowF kn0 k13 f14 n20 y23 y28 y30 y32 r34 y36 g38 y43 y45 ab_now sb_now he0 j15 j16 j17 j18 hm22 e24 b25 b26 c27 e29 e31 e33 p35 e37 nb40 sb41 he42 e44 e46) (lf_e_oneDay_4 knowF kn0 k13 f14 n20 y23 y28 y30 y32 r34 y36 g38 y43 y45 ab_now sb_now he0 j15 j16 j17 j18 hm22 e24 b25 b26 c27 e29 e31 e33 p35 e37 nb40 sb41 he42 e44 e46)
        have sb50 : SB g47 := by rw [e48]; exact SB_lo sb41 _ _ (by omega)
        have he51 : HE kn0 g47 := by rw [e48]; exact HE_upd he42 (by decide) _
        have hP : va_P (dC, dI) vwCl [(o, .inr (12, [.int kthrown, .ref ktape, .int (nI ktaped), .int (nI ksize), .int (nI klimit), .int (nI kto), .int (nI kfrom), .int kkind, .int knumber, .int ksign, .int kfault, .int kplace, .long kword, .int ktold, .ref know, .ref kread, .ref kkept, .ref ksnaps, .ref kaside, .ref kname, .ref kreadName, .ref kkeptName, .ref kisKept, .ref konces, .int (nI ksnapMany), .int khasCells, .ref kpoured, .ref kfar, .ref ksides, .int (nI ksideMany), .int kwayDays, .int khasWay, .ref klines, .ref kmet, .int (nI kmetMany), .ref ksunk, .ref ktrying, .int (nI ksunkMany), .int ksending, .int kfleets, .ref ktext, .int (nI ktexts), .int kseed, .ref kline, .ref kwritten, .int (nI klineMany), .int khasWritten, .ref knode, .int (nI knodes), .int (nI konesMany), .int (nI kwithin), .int (nI ktop)])), (know, .inl (ky 0, 373, .inl g47))] H := hP
        have hD : va_D A [(o, .inr (12, [.int kthrown, .ref ktape, .int (nI ktaped), .int (nI ksize), .int (nI klimit), .int (nI kto), .int (nI kfrom), .int kkind, .int knumber, .int ksign, .int kfault, .int kplace, .long kword, .int ktold, .ref know, .ref kread, .ref kkept, .ref ksnaps, .ref kaside, .ref kname, .ref kreadName, .ref kkeptName, .ref kisKept, .ref konces, .int (nI ksnapMany), .int khasCells, .ref kpoured, .ref kfar, .ref ksides, .int (nI ksideMany), .int kwayDays, .int khasWay, .ref klines, .ref kmet, .int (nI kmetMany), .ref ksunk, .ref ktrying, .int (nI ksunkMany), .int ksending, .int kfleets, .ref ktext, .int (nI ktexts), .int kseed, .ref kline, .ref kwritten, .int (nI klineMany), .int khasWritten, .ref knode, .int (nI knodes), .int (nI konesMany), .int (nI kwithin), .int (nI ktop)])), (know, .inl (ky 0, 373, .inl g47))] := hD
        rw [hQ]
        exact W.vret hx hb hr (fun t9 ht9 hW9 => ⟨⟨g47, rfl, ⟨nb49, sb50, he51⟩, by rw [ht9]; exact hP, va_K.moved hW9.alike hK, hD⟩, hS.F ht9⟩) hS.2.2 dX12_oneDay_115
      · refine lv_aload_n hx hb dX12_oneDay_12 rfl (lv_at hl 1 rfl) ?_
        refine lv_iload_n hx hb dX12_oneDay_13 rfl (lv_at hl 0 rfl) ?_
        refine vp_callSi (W.runV (As := [.int (nI k13)]) (rest := []) ⟨hx, hb, hml, hown, hts⟩ (c_x_isAfloat l dC dI ky o kthrown ktape ktaped ksize klimit kto kfrom kkind knumber ksign kfault kplace kword ktold know kread kkept ksnaps kaside kname kreadName kkeptName kisKept konces ksnapMany khasCells kpoured kfar ksides ksideMany kwayDays khasWay klines kmet kmetMany ksunk ktrying ksunkMany ksending kfleets ktext ktexts kseed kline kwritten klineMany khasWritten knode knodes konesMany kwithin ktop f14 (nI k13) iv_ko_0 iv_ko_1 iv_ko_2 iv_ko_3 iv_ko_4 iv_ko_5 iv_ko_6 iv_ko_7 iv_ko_8 iv_ko_9 iv_ko_10 iv_ko_11 iv_ko_12 iv_ko_13 iv_ko_14 j16 (lf_e_oneDay_5 knowF kn0 k13 f14 n20 y23 ab_now sb_now he0 j15 j16 j17 j18 hm22 e24 b25 b26 c27)) (cwV 1 hts gX12_oneDay_X12_isAfloat rfl rfl rfl (by decide +kernel) ⟨(Nat.le_of_ble_eq_true rfl), (Nat.le_of_ble_eq_true rfl)⟩) (pre_PV hK hP [0, 1] rfl (ci := 12) (q0 := 0) rfl rfl) rfl rfl hl.1 rfl (lv_room (Nat.le_of_ble_eq_true rfl)) dX12_oneDay_14 ⟨(Nat.le_of_ble_eq_true rfl), (Nat.le_of_ble_eq_true rfl)⟩) (fun r52 p53 => ?_)
        have hJ59 : ∀ (f55 : Nat → Int32), (NB f55) → (SB f55) → (HE kn0 f55) → ∀ (H : Heap) (locs : List Loc) (ls : Array Slot), va_P (dC, dI) vwCl [(o, .inr (12, [.int kthrown, .ref ktape, .int (nI ktaped), .int (nI ksize), .int (nI klimit), .int (nI kto), .int (nI kfrom), .int kkind, .int knumber, .int ksign, .int kfault, .int kplace, .long kword, .int ktold, .ref know, .ref kread, .ref kkept, .ref ksnaps, .ref kaside, .ref kname, .ref kreadName, .ref kkeptName, .ref kisKept, .ref konces, .int (nI ksnapMany), .int khasCells, .ref kpoured, .ref kfar, .ref ksides, .int (nI ksideMany), .int kwayDays, .int khasWay, .ref klines, .ref kmet, .int (nI kmetMany), .ref ksunk, .ref ktrying, .int (nI ksunkMany), .int ksending, .int kfleets, .ref ktext, .int (nI ktexts), .int kseed, .ref kline, .ref kwritten, .int (nI klineMany), .int khasWritten, .ref knode, .int (nI knodes), .int (nI konesMany), .int (nI kwithin), .int (nI ktop)])), (know, .inl (ky 0, 373, .inl f55))] H → va_D A [(o, .inr (12, [.int kthrown, .ref ktape, .int (nI ktaped), .int (nI ksize), .int (nI klimit), .int (nI kto), .int (nI kfrom), .int kkind, .int knumber, .int ksign, .int kfault, .int kplace, .long kword, .int ktold, .ref know, .ref kread, .ref kkept, .ref ksnaps, .ref kaside, .ref kname, .ref kreadName, .ref kkeptName, .ref kisKept, .ref konces, .int (nI ksnapMany), .int khasCells, .ref kpoured, .ref kfar, .ref ksides, .int (nI ksideMany), .int kwayDays, .int khasWay, .ref klines, .ref kmet, .int (nI kmetMany), .ref ksunk, .ref ktrying, .int (nI ksunkMany), .int ksending, .int kfleets, .ref ktext, .int (nI ktexts), .int kseed, .ref kline, .ref kwritten, .int (nI klineMany), .int khasWritten, .ref knode, .int (nI knodes), .int (nI konesMany), .int (nI kwithin), .int (nI ktop)])), (know, .inl (ky 0, 373, .inl f55))] → va_S A s.heap H locs → lv_has ls 2 [(1, .int (nI k13)), (0, .ref o)] → W p l e (headSpec wsX12_oneDay ({ frames := 3, cells := 0, slots := 0, locals := 65 })).room s m args below meth c H locs 0 0 Q (F0 m 54 ls []) := by
          intro f55 j56 j57 j58 H locs ls hP hD hS hl
          refine lv_aload_n hx hb dX12_oneDay_54 rfl (lv_at hl 1 rfl) ?_
          refine va_get (D := (dC, dI)) (ci := 12) (v := .ref know) (C := RX12) (T := TX12) (N := 52) hx hb hts hin12 hown hK hP 0 rfl rfl 14 (by decide) (hts (.fieldLink RX12 98 "PorridgeSeaModel" "now" "[I") (List.mem_of_getElem? (i := 1) rfl)) (fun _ h9 => h9) rfl dX12_oneDay_55 ?_
          refine lv_bipush (v := nI 119) hx hb dX12_oneDay_58 (by decide) ?_
          refine lv_iload_n hx hb dX12_oneDay_60 rfl (lv_at hl 0 rfl) ?_
          refine lv_iadd hx hb dX12_oneDay_61 ?_
          refine r_ti (nI (119 + k13)) (nI_add _ _) ?_
          refine lv_aload_n hx hb dX12_oneDay_62 rfl (lv_at hl 1 rfl) ?_
          refine va_get (D := (dC, dI)) (ci := 12) (v := .ref know) (C := RX12) (T := TX12) (N := 52) hx hb hts hin12 hown hK hP 0 rfl rfl 14 (by decide) (hts (.fieldLink RX12 98 "PorridgeSeaModel" "now" "[I") (List.mem_of_getElem? (i := 1) rfl)) (fun _ h9 => h9) rfl dX12_oneDay_63 ?_
          refine lv_bipush (v := nI 61) hx hb dX12_oneDay_66 (by decide) ?_
          refine lv_iload_n hx hb dX12_oneDay_68 rfl (lv_at hl 0 rfl) ?_
          refine lv_iadd hx hb dX12_oneDay_69 ?_
          refine r_ti (nI (61 + k13)) (nI_add _ _) ?_
          obtain ⟨y60, e61⟩ : ∃ z9, z9 = f55 (61 + k13) := ⟨_, rfl⟩
          refine r_iald hx hb hK hP 1 rfl (61 + k13) (lf_e_oneDay_6 knowF kn0 k13 f14 n20 y23 f55 y60 ab_now sb_now he0 j15 j16 j17 j18 hm22 e24 b25 b26 c27 j56 j57 j58 e61) (by decide) y60 e61.symm dX12_oneDay_70 ?_
          refine r_iast (x := y60) hx hb hK hP hD hS 1 rfl (119 + k13) (lf_e_oneDay_9 knowF kn0 k13 f14 n20 y23 f55 y60 ab_now sb_now he0 j15 j16 j17 j18 hm22 e24 b25 b26 c27 j56 j57 j58 e61) (by decide) dX12_oneDay_71 (fun H locs hP hD hS => ?_)
          obtain ⟨g62, e63⟩ : ∃ z9, z9 = upd f55 (119 + k13) y60 := ⟨_, rfl⟩
          rw [← e63] at hP hD
          have nb64 : NB g62 := by rw [e63]; exact st_NB_119 j56 (119 + k13) (lf_e_oneDay_10 knowF kn0 k13 f14 n20 y23 f55 y60 ab_now sb_now he0 j15 j16 j17 j18 hm22 e24 b25 b26 c27 j56 j57 j58 e61) (lf_e_oneDay_11 knowF kn0 k13 f14 n20 y23 f55 y60 ab_now sb_now he0 j15 j16 j17 j18 hm22 e24 b25 b26 c27 j56 j57 j58 e61) (lf_e_oneDay_7 knowF kn0 k13 f14 n20 y23 f55 y60 ab_now sb_now he0 j15 j16 j17 j18 hm22 e24 b25 b26 c27 j56 j57 j58 e61) (lf_e_oneDay_8 knowF kn0 k13 f14 n20 y23 f55 y60 ab_now sb_now he0 j15 j16 j17 j18 hm22 e24 b25 b26 c27 j56 j57 j58 e61)
          have sb65 : SB g62 := by rw [e63]; exact SB_lo j57 _ _ (by omega)
          have he66 : HE kn0 g62 := by rw [e63]; exact HE_upd j58 (lf_e_oneDay_12 knowF kn0 k13 f14 n20 y23 f55 y60 ab_now sb_now he0 j15 j16 j17 j18 hm22 e24 b25 b26 c27 j56 j57 j58 e61) _
          have hP : va_P (dC, dI) vwCl [(o, .inr (12, [.int kthrown, .ref ktape, .int (nI ktaped), .int (nI ksize), .int (nI klimit), .int (nI kto), .int (nI kfrom), .int kkind, .int knumber, .int ksign, .int kfault, .int kplace, .long kword, .int ktold, .ref know, .ref kread, .ref kkept, .ref ksnaps, .ref kaside, .ref kname, .ref kreadName, .ref kkeptName, .ref kisKept, .ref konces, .int (nI ksnapMany), .int khasCells, .ref kpoured, .ref kfar, .ref ksides, .int (nI ksideMany), .int kwayDays, .int khasWay, .ref klines, .ref kmet, .int (nI kmetMany), .ref ksunk, .ref ktrying, .int (nI ksunkMany), .int ksending, .int kfleets, .ref ktext, .int (nI ktexts), .int kseed, .ref kline, .ref kwritten, .int (nI klineMany), .int khasWritten, .ref knode, .int (nI knodes), .int (nI konesMany), .int (nI kwithin), .int (nI ktop)])), (know, .inl (ky 0, 373, .inl g62))] H := hP
          have hD : va_D A [(o, .inr (12, [.int kthrown, .ref ktape, .int (nI ktaped), .int (nI ksize), .int (nI klimit), .int (nI kto), .int (nI kfrom), .int kkind, .int knumber, .int ksign, .int kfault, .int kplace, .long kword, .int ktold, .ref know, .ref kread, .ref kkept, .ref ksnaps, .ref kaside, .ref kname, .ref kreadName, .ref kkeptName, .ref kisKept, .ref konces, .int (nI ksnapMany), .int khasCells, .ref kpoured, .ref kfar, .ref ksides, .int (nI ksideMany), .int kwayDays, .int khasWay, .ref klines, .ref kmet, .int (nI kmetMany), .ref ksunk, .ref ktrying, .int (nI ksunkMany), .int ksending, .int kfleets, .ref ktext, .int (nI ktexts), .int kseed, .ref kline, .ref kwritten, .int (nI klineMany), .int khasWritten, .ref knode, .int (nI knodes), .int (nI konesMany), .int (nI kwithin), .int (nI ktop)])), (know, .inl (ky 0, 373, .inl g62))] := hD
          refine lv_iinc (v := nI (k13 + 1)) (lv' := [(1, .int (nI (k13 + 1))), (0, .ref o)]) hx hb dX12_oneDay_72 hl (k := 0) rfl (show nI k13 + nI 1 = nI (k13 + 1) from nI_add _ _) (by decide) rfl (fun ls hl => ?_)
          refine lv_goto (tgt := 2) hx hb dX12_oneDay_75 (by decide) ?_
          exact ih21 (k13 + 1) g62 (lf_e_oneDay_13 knowF kn0 k13 f14 n20 y23 f55 y60 g62 ab_now sb_now he0 j15 j16 j17 j18 hm22 e24 b25 b26 c27 j56 j57 j58 e61 nb64 sb65 he66) nb64 sb65 he66 (lf_e_oneDay_14 knowF kn0 k13 f14 n20 y23 f55 y60 g62 ab_now sb_now he0 j15 j16 j17 j18 hm22 e24 b25 b26 c27 j56 j57 j58 e61 nb64 sb65 he66) _ _ _ hP hD hS (lv_sub hl [0, 1] rfl)
        refine lv_if_eq (tgt := 33) hx hb dX12_oneDay_17 (by decide) (fun c54 => ?_) (fun c54 => ?_)
        · refine lv_aload_n hx hb dX12_oneDay_33 rfl (lv_at hl 1 rfl) ?_
          refine lv_iload_n hx hb dX12_oneDay_34 rfl (lv_at hl 0 rfl) ?_
          refine vp_callSi (W.runV (As := [.int (nI k13)]) (rest := []) ⟨hx, hb, hml, hown, hts⟩ (c_x_isEatenN l dC dI ky o kthrown ktape ktaped ksize klimit kto kfrom kkind knumber ksign kfault kplace kword ktold know kread kkept ksnaps kaside kname kreadName kkeptName kisKept konces ksnapMany khasCells kpoured kfar ksides ksideMany kwayDays khasWay klines kmet kmetMany ksunk ktrying ksunkMany ksending kfleets ktext ktexts kseed kline kwritten klineMany khasWritten knode knodes konesMany kwithin ktop f14 k13 iv_ko_0 iv_ko_1 iv_ko_2 iv_ko_3 iv_ko_4 iv_ko_5 iv_ko_6 iv_ko_7 iv_ko_8 iv_ko_9 iv_ko_10 iv_ko_11 iv_ko_12 iv_ko_13 iv_ko_14 j16 (lf_e_oneDay_15 knowF kn0 k13 f14 n20 y23 ab_now sb_now he0 j15 j16 j17 j18 hm22 e24 b25 b26 c27)) (cwV 1 hts gX12_oneDay_X12_isEaten rfl rfl rfl (by decide +kernel) ⟨(Nat.le_of_ble_eq_true rfl), (Nat.le_of_ble_eq_true rfl)⟩) (pre_PV hK hP [0, 1] rfl (ci := 12) (q0 := 0) rfl rfl) rfl rfl hl.1 rfl (lv_room (Nat.le_of_ble_eq_true rfl)) dX12_oneDay_35 ⟨(Nat.le_of_ble_eq_true rfl), (Nat.le_of_ble_eq_true rfl)⟩) (fun r67 p68 => ?_)
          rcases p68 with ⟨rfl, t69⟩ | ⟨rfl, t70⟩
          · refine lv_if_ne (tgt := 54) hx hb dX12_oneDay_38 (by decide) (fun c71 => ?_) (fun c71 => absurd c71 (by decide))
            exact hJ59 f14 j16 j17 j18 _ _ _ hP hD hS (lv_sub hl [0, 1] rfl)
          · refine lv_if_ne (tgt := 54) hx hb dX12_oneDay_38 (by decide) (fun c72 => absurd c72 (by decide)) (fun c72 => ?_)
            refine lv_aload_n hx hb dX12_oneDay_41 rfl (lv_at hl 1 rfl) ?_
            refine va_get (D := (dC, dI)) (ci := 12) (v := .ref know) (C := RX12) (T := TX12) (N := 52) hx hb hts hin12 hown hK hP 0 rfl rfl 14 (by decide) (hts (.fieldLink RX12 98 "PorridgeSeaModel" "now" "[I") (List.mem_of_getElem? (i := 1) rfl)) (fun _ h9 => h9) rfl dX12_oneDay_42 ?_
            refine lv_bipush (v := nI 125) hx hb dX12_oneDay_45 (by decide) ?_
            refine lv_iload_n hx hb dX12_oneDay_47 rfl (lv_at hl 0 rfl) ?_
            refine lv_iadd hx hb dX12_oneDay_48 ?_
            refine r_ti (nI (125 + k13)) (nI_add _ _) ?_
            refine lv_dup2_11 hx hb dX12_oneDay_49 rfl rfl ?_
            obtain ⟨y73, e74⟩ : ∃ z9, z9 = f14 (125 + k13) := ⟨_, rfl⟩
            refine r_iald hx hb hK hP 1 rfl (125 + k13) (lf_e_oneDay_16 knowF kn0 k13 f14 n20 y23 y73 ab_now sb_now he0 j15 j16 j17 j18 hm22 e24 b25 b26 c27 t70 e74) (by decide) y73 e74.symm dX12_oneDay_50 ?_
            refine lv_iconst (v := nI 1) hx hb dX12_oneDay_51 (by decide) ?_
            refine lv_iadd hx hb dX12_oneDay_52 ?_
            refine lv_topi (fun y75 e76 => ?_)
            refine r_iast (x := y75) hx hb hK hP hD hS 1 rfl (125 + k13) (lf_e_oneDay_19 knowF kn0 k13 f14 n20 y23 y73 y75 ab_now sb_now he0 j15 j16 j17 j18 hm22 e24 b25 b26 c27 t70 e74 e76) (by decide) dX12_oneDay_53 (fun H locs hP hD hS => ?_)
            obtain ⟨g77, e78⟩ : ∃ z9, z9 = upd f14 (125 + k13) y75 := ⟨_, rfl⟩
            rw [← e78] at hP hD
            have nb79 : NB g77 := by rw [e78]; exact st_NB_119 j16 (125 + k13) (lf_e_oneDay_20 knowF kn0 k13 f14 n20 y23 y73 y75 ab_now sb_now he0 j15 j16 j17 j18 hm22 e24 b25 b26 c27 t70 e74 e76) (lf_e_oneDay_21 knowF kn0 k13 f14 n20 y23 y73 y75 ab_now sb_now he0 j15 j16 j17 j18 hm22 e24 b25 b26 c27 t70 e74 e76) (lf_e_oneDay_17 knowF kn0 k13 f14 n20 y23 y73 y75 ab_now sb_now he0 j15 j16 j17 j18 hm22 e24 b25 b26 c27 t70 e74 e76) (lf_e_oneDay_18 knowF kn0 k13 f14 n20 y23 y73 y75 ab_now sb_now he0 j15 j16 j17 j18 hm22 e24 b25 b26 c27 t70 e74 e76)
            have sb80 : SB g77 := by rw [e78]; exact SB_lo j17 _ _ (by omega)
            have he81 : HE kn0 g77 := by rw [e78]; exact HE_upd j18 (lf_e_oneDay_22 knowF kn0 k13 f14 n20 y23 y73 y75 ab_now sb_now he0 j15 j16 j17 j18 hm22 e24 b25 b26 c27 t70 e74 e76) _
            have hP : va_P (dC, dI) vwCl [(o, .inr (12, [.int kthrown, .ref ktape, .int (nI ktaped), .int (nI ksize), .int (nI klimit), .int (nI kto), .int (nI kfrom), .int kkind, .int knumber, .int ksign, .int kfault, .int kplace, .long kword, .int ktold, .ref know, .ref kread, .ref kkept, .ref ksnaps, .ref kaside, .ref kname, .ref kreadName, .ref kkeptName, .ref kisKept, .ref konces, .int (nI ksnapMany), .int khasCells, .ref kpoured, .ref kfar, .ref ksides, .int (nI ksideMany), .int kwayDays, .int khasWay, .ref klines, .ref kmet, .int (nI kmetMany), .ref ksunk, .ref ktrying, .int (nI ksunkMany), .int ksending, .int kfleets, .ref ktext, .int (nI ktexts), .int kseed, .ref kline, .ref kwritten, .int (nI klineMany), .int khasWritten, .ref knode, .int (nI knodes), .int (nI konesMany), .int (nI kwithin), .int (nI ktop)])), (know, .inl (ky 0, 373, .inl g77))] H := hP
            have hD : va_D A [(o, .inr (12, [.int kthrown, .ref ktape, .int (nI ktaped), .int (nI ksize), .int (nI klimit), .int (nI kto), .int (nI kfrom), .int kkind, .int knumber, .int ksign, .int kfault, .int kplace, .long kword, .int ktold, .ref know, .ref kread, .ref kkept, .ref ksnaps, .ref kaside, .ref kname, .ref kreadName, .ref kkeptName, .ref kisKept, .ref konces, .int (nI ksnapMany), .int khasCells, .ref kpoured, .ref kfar, .ref ksides, .int (nI ksideMany), .int kwayDays, .int khasWay, .ref klines, .ref kmet, .int (nI kmetMany), .ref ksunk, .ref ktrying, .int (nI ksunkMany), .int ksending, .int kfleets, .ref ktext, .int (nI ktexts), .int kseed, .ref kline, .ref kwritten, .int (nI klineMany), .int khasWritten, .ref knode, .int (nI knodes), .int (nI konesMany), .int (nI kwithin), .int (nI ktop)])), (know, .inl (ky 0, 373, .inl g77))] := hD
            exact hJ59 g77 nb79 sb80 he81 _ _ _ hP hD hS (lv_sub hl [0, 1] rfl)
        · refine lv_aload_n hx hb dX12_oneDay_20 rfl (lv_at hl 1 rfl) ?_
          refine va_get (D := (dC, dI)) (ci := 12) (v := .ref know) (C := RX12) (T := TX12) (N := 52) hx hb hts hin12 hown hK hP 0 rfl rfl 14 (by decide) (hts (.fieldLink RX12 98 "PorridgeSeaModel" "now" "[I") (List.mem_of_getElem? (i := 1) rfl)) (fun _ h9 => h9) rfl dX12_oneDay_21 ?_
          refine lv_bipush (v := nI 125) hx hb dX12_oneDay_24 (by decide) ?_
          refine lv_iload_n hx hb dX12_oneDay_26 rfl (lv_at hl 0 rfl) ?_
          refine lv_iadd hx hb dX12_oneDay_27 ?_
          refine r_ti (nI (125 + k13)) (nI_add _ _) ?_
          refine lv_iconst (v := nI 0) hx hb dX12_oneDay_28 (by decide) ?_
          refine r_iast (x := (nI 0)) hx hb hK hP hD hS 1 rfl (125 + k13) (lf_e_oneDay_23 knowF kn0 k13 f14 n20 y23 ab_now sb_now he0 j15 j16 j17 j18 hm22 e24 b25 b26 c27) (by decide) dX12_oneDay_29 (fun H locs hP hD hS => ?_)
          obtain ⟨g82, e83⟩ : ∃ z9, z9 = upd f14 (125 + k13) (nI 0) := ⟨_, rfl⟩
          rw [← e83] at hP hD
          have nb84 : NB g82 := by rw [e83]; exact nb_zero j16 _ (by omega) (by omega)
          have sb85 : SB g82 := by rw [e83]; exact SB_zero j17 _
          have he86 : HE kn0 g82 := by rw [e83]; exact HE_upd j18 (lf_e_oneDay_24 knowF kn0 k13 f14 n20 y23 ab_now sb_now he0 j15 j16 j17 j18 hm22 e24 b25 b26 c27) _
          have hP : va_P (dC, dI) vwCl [(o, .inr (12, [.int kthrown, .ref ktape, .int (nI ktaped), .int (nI ksize), .int (nI klimit), .int (nI kto), .int (nI kfrom), .int kkind, .int knumber, .int ksign, .int kfault, .int kplace, .long kword, .int ktold, .ref know, .ref kread, .ref kkept, .ref ksnaps, .ref kaside, .ref kname, .ref kreadName, .ref kkeptName, .ref kisKept, .ref konces, .int (nI ksnapMany), .int khasCells, .ref kpoured, .ref kfar, .ref ksides, .int (nI ksideMany), .int kwayDays, .int khasWay, .ref klines, .ref kmet, .int (nI kmetMany), .ref ksunk, .ref ktrying, .int (nI ksunkMany), .int ksending, .int kfleets, .ref ktext, .int (nI ktexts), .int kseed, .ref kline, .ref kwritten, .int (nI klineMany), .int khasWritten, .ref knode, .int (nI knodes), .int (nI konesMany), .int (nI kwithin), .int (nI ktop)])), (know, .inl (ky 0, 373, .inl g82))] H := hP
          have hD : va_D A [(o, .inr (12, [.int kthrown, .ref ktape, .int (nI ktaped), .int (nI ksize), .int (nI klimit), .int (nI kto), .int (nI kfrom), .int kkind, .int knumber, .int ksign, .int kfault, .int kplace, .long kword, .int ktold, .ref know, .ref kread, .ref kkept, .ref ksnaps, .ref kaside, .ref kname, .ref kreadName, .ref kkeptName, .ref kisKept, .ref konces, .int (nI ksnapMany), .int khasCells, .ref kpoured, .ref kfar, .ref ksides, .int (nI ksideMany), .int kwayDays, .int khasWay, .ref klines, .ref kmet, .int (nI kmetMany), .ref ksunk, .ref ktrying, .int (nI ksunkMany), .int ksending, .int kfleets, .ref ktext, .int (nI ktexts), .int kseed, .ref kline, .ref kwritten, .int (nI klineMany), .int khasWritten, .ref knode, .int (nI knodes), .int (nI konesMany), .int (nI kwithin), .int (nI ktop)])), (know, .inl (ky 0, 373, .inl g82))] := hD
          refine lv_goto (tgt := 54) hx hb dX12_oneDay_30 (by decide) ?_
          exact hJ59 g82 nb84 sb85 he86 _ _ _ hP hD hS (lv_sub hl [0, 1] rfl)
  exact hL19 ((6 - 0) + 1) 0 knowF (lf_e_oneDay_25) ab_now sb_now he0 (Nat.lt_succ_self _) _ _ _ hP hD hS (lv_sub hl [0, 1] rfl)
set_option maxRecDepth 20000 in
theorem lf_e_passDays_1 (knowF : Nat → Int32) (kn0 : Nat → Int32) (x : Int32) (y1 : Int32) (y3 : Int32) (r5 : Int32) (k19 : Nat) (f20 : Nat → Int32) (n26 : Nat) (knowG_32 : Nat → Int32) (ab_now : NB knowF) (sb_now : SB knowF) (he0 : HE kn0 knowF) (e2 : y1 = knowF 67) (e4 : y3 = (nI 400) - y1) (p6 : (r5 = x ∨ r5 = y3) ∧ r5.toInt ≤ x.toInt ∧ r5.toInt ≤ y3.toInt) (j21 : k19 ≤ 2147483647) (j22 : NB f20) (j23 : SB f20) (j24 : HE kn0 f20) (hm28 : 2147483647 - k19 < n26 + 1) (c29 : ¬ r5 ≤ nI k19) (p33 : NB knowG_32) (p34 : SB knowG_32) (p35 : HE kn0 knowG_32) : (k19 + 1) ≤ 2147483647 := by
  have b_x := ia_b x
  have b_y1 := ia_b y1
  have b_y3 := ia_b y3
  have b_r5 := ia_b r5
  try have k_0 := ia_n 400 (by first | decide | omega)
  try have k_1 := ia_n k19 (by first | decide | omega)
  try simp only [ia_lt, ia_le, ia_eq, ia_m1, ia_0, ia_1, ne_eq, true_and, and_true, false_and, and_false, or_false, false_or, or_true, true_or, not_true_eq_false, not_false_eq_true] at *
  all_goals omega
set_option maxRecDepth 20000 in
theorem lf_e_passDays_2 (knowF : Nat → Int32) (kn0 : Nat → Int32) (x : Int32) (y1 : Int32) (y3 : Int32) (r5 : Int32) (k19 : Nat) (f20 : Nat → Int32) (n26 : Nat) (knowG_32 : Nat → Int32) (ab_now : NB knowF) (sb_now : SB knowF) (he0 : HE kn0 knowF) (e2 : y1 = knowF 67) (e4 : y3 = (nI 400) - y1) (p6 : (r5 = x ∨ r5 = y3) ∧ r5.toInt ≤ x.toInt ∧ r5.toInt ≤ y3.toInt) (j21 : k19 ≤ 2147483647) (j22 : NB f20) (j23 : SB f20) (j24 : HE kn0 f20) (hm28 : 2147483647 - k19 < n26 + 1) (c29 : ¬ r5 ≤ nI k19) (p33 : NB knowG_32) (p34 : SB knowG_32) (p35 : HE kn0 knowG_32) : 2147483647 - (k19 + 1) < n26 := by
  have b_x := ia_b x
  have b_y1 := ia_b y1
  have b_y3 := ia_b y3
  have b_r5 := ia_b r5
  try have k_0 := ia_n 400 (by first | decide | omega)
  try have k_1 := ia_n k19 (by first | decide | omega)
  try simp only [ia_lt, ia_le, ia_eq, ia_m1, ia_0, ia_1, ne_eq, true_and, and_true, false_and, and_false, or_false, false_or, or_true, true_or, not_true_eq_false, not_false_eq_true] at *
  all_goals omega
set_option maxRecDepth 20000 in
theorem lf_e_passDays_3   : 0 ≤ 2147483647 := by
  try simp only [ia_lt, ia_le, ia_eq, ia_m1, ia_0, ia_1, ne_eq, true_and, and_true, false_and, and_false, or_false, false_or, or_true, true_or, not_true_eq_false, not_false_eq_true] at *
  all_goals omega
set_option maxHeartbeats 4000000 in
set_option maxRecDepth 100000 in
theorem c_e_passDays (l : Launch) (dC : Nat → ClassId) (dI : Nat → Nat → Nat) (ky : Nat → ClassId) (sz : Nat) (o : Nat) (kthrown : Int32) (ktape : Nat) (ktaped : Nat) (ksize : Nat) (klimit : Nat) (kto : Nat) (kfrom : Nat) (kkind : Int32) (knumber : Int32) (ksign : Int32) (kfault : Int32) (kplace : Int32) (kword : Int64) (ktold : Int32) (know : Nat) (kread : Nat) (kkept : Nat) (ksnaps : Nat) (kaside : Nat) (kname : Nat) (kreadName : Nat) (kkeptName : Nat) (kisKept : Nat) (konces : Nat) (ksnapMany : Nat) (khasCells : Int32) (kpoured : Nat) (kfar : Nat) (ksides : Nat) (ksideMany : Nat) (kwayDays : Int32) (khasWay : Int32) (klines : Nat) (kmet : Nat) (kmetMany : Nat) (ksunk : Nat) (ktrying : Nat) (ksunkMany : Nat) (ksending : Int32) (kfleets : Int32) (ktext : Nat) (ktexts : Nat) (kseed : Int32) (kline : Nat) (kwritten : Nat) (klineMany : Nat) (khasWritten : Int32) (knode : Nat) (knodes : Nat) (konesMany : Nat) (kwithin : Nat) (ktop : Nat) (knowF : Nat → Int32) (kn0 : Nat → Int32) (x : Int32) (iv_ko_0 : ktaped ≤ 940) (iv_ko_1 : ksize ≤ 940) (iv_ko_2 : klimit ≤ 900) (iv_ko_3 : kto ≤ ksize) (iv_ko_4 : kfrom ≤ 940) (iv_ko_5 : ksnapMany ≤ 8) (iv_ko_6 : ksideMany ≤ 36) (iv_ko_7 : kmetMany ≤ 3) (iv_ko_8 : ksunkMany ≤ 36) (iv_ko_9 : ktexts ≤ 64) (iv_ko_10 : klineMany ≤ 40) (iv_ko_11 : knodes ≤ 60) (iv_ko_12 : konesMany ≤ 20) (iv_ko_13 : kwithin ≤ 8) (iv_ko_14 : ktop ≤ 59) (ab_now : NB knowF) (sb_now : SB knowF) (he0 : HE kn0 knowF) : Met l yX12_passDays wsX12_passDays ({ frames := 4, cells := 0, slots := 0, locals := 86 }) (PcU dC dI ky [.ref o, .int x] [(o, .inr (12, [.int kthrown, .ref ktape, .int (nI ktaped), .int (nI ksize), .int (nI klimit), .int (nI kto), .int (nI kfrom), .int kkind, .int knumber, .int ksign, .int kfault, .int kplace, .long kword, .int ktold, .ref know, .ref kread, .ref kkept, .ref ksnaps, .ref kaside, .ref kname, .ref kreadName, .ref kkeptName, .ref kisKept, .ref konces, .int (nI ksnapMany), .int khasCells, .ref kpoured, .ref kfar, .ref ksides, .int (nI ksideMany), .int kwayDays, .int khasWay, .ref klines, .ref kmet, .int (nI kmetMany), .ref ksunk, .ref ktrying, .int (nI ksunkMany), .int ksending, .int kfleets, .ref ktext, .int (nI ktexts), .int kseed, .ref kline, .ref kwritten, .int (nI klineMany), .int khasWritten, .ref knode, .int (nI knodes), .int (nI konesMany), .int (nI kwithin), .int (nI ktop)])), (know, .inl (ky 0, 373, .inl knowF))] sz) (va_Qi (fun (r : Int32) (knowG : (Nat → Int32)) => (NB knowG) ∧ (SB knowG) ∧ (HE kn0 knowG)) (BU dC dI ky (fun (knowG : (Nat → Int32)) => [(o, .inr (12, [.int kthrown, .ref ktape, .int (nI ktaped), .int (nI ksize), .int (nI klimit), .int (nI kto), .int (nI kfrom), .int kkind, .int knumber, .int ksign, .int kfault, .int kplace, .long kword, .int ktold, .ref know, .ref kread, .ref kkept, .ref ksnaps, .ref kaside, .ref kname, .ref kreadName, .ref kkeptName, .ref kisKept, .ref konces, .int (nI ksnapMany), .int khasCells, .ref kpoured, .ref kfar, .ref ksides, .int (nI ksideMany), .int kwayDays, .int khasWay, .ref klines, .ref kmet, .int (nI kmetMany), .ref ksunk, .ref ktrying, .int (nI ksunkMany), .int ksending, .int kfleets, .ref ktext, .int (nI ktexts), .int kseed, .ref kline, .ref kwritten, .int (nI klineMany), .int khasWritten, .ref knode, .int (nI knodes), .int (nI konesMany), .int (nI kwithin), .int (nI ktop)])), (know, .inl (ky 0, 373, .inl knowG))]) (va_A [(o, .inr (12, [.int kthrown, .ref ktape, .int (nI ktaped), .int (nI ksize), .int (nI klimit), .int (nI kto), .int (nI kfrom), .int kkind, .int knumber, .int ksign, .int kfault, .int kplace, .long kword, .int ktold, .ref know, .ref kread, .ref kkept, .ref ksnaps, .ref kaside, .ref kname, .ref kreadName, .ref kkeptName, .ref kisKept, .ref konces, .int (nI ksnapMany), .int khasCells, .ref kpoured, .ref kfar, .ref ksides, .int (nI ksideMany), .int kwayDays, .int khasWay, .ref klines, .ref kmet, .int (nI kmetMany), .ref ksunk, .ref ktrying, .int (nI ksunkMany), .int ksending, .int kfleets, .ref ktext, .int (nI ktexts), .int kseed, .ref kline, .ref kwritten, .int (nI klineMany), .int khasWritten, .ref knode, .int (nI knodes), .int (nI konesMany), .int (nI kwithin), .int (nI ktop)])), (know, .inl (ky 0, 373, .inl knowF))] sz)) (va_A [(o, .inr (12, [.int kthrown, .ref ktape, .int (nI ktaped), .int (nI ksize), .int (nI klimit), .int (nI kto), .int (nI kfrom), .int kkind, .int knumber, .int ksign, .int kfault, .int kplace, .long kword, .int ktold, .ref know, .ref kread, .ref kkept, .ref ksnaps, .ref kaside, .ref kname, .ref kreadName, .ref kkeptName, .ref kisKept, .ref konces, .int (nI ksnapMany), .int khasCells, .ref kpoured, .ref kfar, .ref ksides, .int (nI ksideMany), .int kwayDays, .int khasWay, .ref klines, .ref kmet, .int (nI kmetMany), .ref ksunk, .ref ktrying, .int (nI ksunkMany), .int ksending, .int kfleets, .ref ktext, .int (nI ktexts), .int kseed, .ref kline, .ref kwritten, .int (nI klineMany), .int khasWritten, .ref knode, .int (nI knodes), .int (nI konesMany), .int (nI kwithin), .int (nI ktop)])), (know, .inl (ky 0, 373, .inl knowF))] sz)) 0 0 (va_A [(o, .inr (12, [.int kthrown, .ref ktape, .int (nI ktaped), .int (nI ksize), .int (nI klimit), .int (nI kto), .int (nI kfrom), .int kkind, .int knumber, .int ksign, .int kfault, .int kplace, .long kword, .int ktold, .ref know, .ref kread, .ref kkept, .ref ksnaps, .ref kaside, .ref kname, .ref kreadName, .ref kkeptName, .ref kisKept, .ref konces, .int (nI ksnapMany), .int khasCells, .ref kpoured, .ref kfar, .ref ksides, .int (nI ksideMany), .int kwayDays, .int khasWay, .ref klines, .ref kmet, .int (nI kmetMany), .ref ksunk, .ref ktrying, .int (nI ksunkMany), .int ksending, .int kfleets, .ref ktext, .int (nI ktexts), .int kseed, .ref kline, .ref kwritten, .int (nI klineMany), .int khasWritten, .ref knode, .int (nI knodes), .int (nI konesMany), .int (nI kwithin), .int (nI ktop)])), (know, .inl (ky 0, 373, .inl knowF))] sz) := by
  refine Met.ofW (cc := cX12_passDays) (maxL := 4) (ret := (some .int)) (by decide) rfl ?_
  intro p e s m args below meth c s₁ B hml hv
  obtain ⟨rfl, hsz, hP, hK, hD0⟩ := hv
  have hx := B.exec
  have hb := B.bytes
  have hr := B.returns
  have hts := atoms_spec (ws := wsX12_passDays) B.pre
  have hown : s.vm.findClass RX12 = some m.cls := findClass_of_methodNamed B.named
  have hlocks := B.notSynchronized
  have hin12 : ∀ w ∈ u_ws RX12 TX12 52, w ∈ wsX12_passDays := by decide +kernel
  subst hsz
  have hD := hD0.self (sz := s.heap.size)
  generalize hAe : va_A [(o, .inr (12, [.int kthrown, .ref ktape, .int (nI ktaped), .int (nI ksize), .int (nI klimit), .int (nI kto), .int (nI kfrom), .int kkind, .int knumber, .int ksign, .int kfault, .int kplace, .long kword, .int ktold, .ref know, .ref kread, .ref kkept, .ref ksnaps, .ref kaside, .ref kname, .ref kreadName, .ref kkeptName, .ref kisKept, .ref konces, .int (nI ksnapMany), .int khasCells, .ref kpoured, .ref kfar, .ref ksides, .int (nI ksideMany), .int kwayDays, .int khasWay, .ref klines, .ref kmet, .int (nI kmetMany), .ref ksunk, .ref ktrying, .int (nI ksunkMany), .int ksending, .int kfleets, .ref ktext, .int (nI ktexts), .int kseed, .ref kline, .ref kwritten, .int (nI klineMany), .int khasWritten, .ref knode, .int (nI knodes), .int (nI konesMany), .int (nI kwithin), .int (nI ktop)])), (know, .inl (ky 0, 373, .inl knowF))] s.heap.size = A at hD ⊢
  have hA : ∀ q : Nat, s.heap.size ≤ q → A q := fun q h => by rw [← hAe]; exact Or.inr h
  have hS : va_S A s.heap s.heap [] := va_S.rf
  have hl := lv_entry ([.ref o, .int x]) (n := 4) (Nat.le_of_ble_eq_true rfl)
  rw [lg_entry_eq]
  generalize (lg_sl ([.ref o, .int x]) ++ List.replicate (4 - (lg_sl ([.ref o, .int x])).length) Slot.unset).toArray = ls at hl ⊢
  have hl : lv_has ls 4 [(0, .ref o), (1, .int x)] := hl
  refine q_name (fun Q hQ => ?_)
  generalize ([.ref o, .int x] : List Value).toArray = args at hts hQ ⊢
  refine lv_iload_n hx hb dX12_passDays_0 rfl (lv_at hl 1 rfl) ?_
  refine lv_sipush (v := nI 400) hx hb dX12_passDays_1 (by decide) ?_
  refine lv_aload_n hx hb dX12_passDays_4 rfl (lv_at hl 0 rfl) ?_
  refine va_get (D := (dC, dI)) (ci := 12) (v := .ref know) (C := RX12) (T := TX12) (N := 52) hx hb hts hin12 hown hK hP 0 rfl rfl 14 (by decide) (hts (.fieldLink RX12 98 "PorridgeSeaModel" "now" "[I") (List.mem_of_getElem? (i := 1) rfl)) (fun _ h9 => h9) rfl dX12_passDays_5 ?_
  refine lv_bipush (v := nI 67) hx hb dX12_passDays_8 (by decide) ?_
  obtain ⟨y1, e2⟩ : ∃ z9, z9 = knowF 67 := ⟨_, rfl⟩
  refine r_iald hx hb hK hP 1 rfl 67 (by decide) (by decide) y1 e2.symm dX12_passDays_10 ?_
  refine lv_isub hx hb dX12_passDays_11 ?_
  refine lv_topi (fun y3 e4 => ?_)
  refine vp_callSi (W.runS (As := [.int x, .int y3]) (rest := []) ⟨hx, hb, hml, hown, hts⟩ (c_x_least l dC dI ky x y3) (va_cwS 2 hts gX12_passDays_X12_least rfl rfl rfl (by decide +kernel) ⟨(Nat.le_of_ble_eq_true rfl), (Nat.le_of_ble_eq_true rfl)⟩) (pre_PS hK hP [] rfl) rfl rfl hl.1 rfl (lv_room (Nat.le_of_ble_eq_true rfl)) dX12_passDays_12 ⟨(Nat.le_of_ble_eq_true rfl), (Nat.le_of_ble_eq_true rfl)⟩) (fun r5 p6 => ?_)
  refine lv_istore_n (lv' := [(2, .int r5), (0, .ref o), (1, .int x)]) hx hb dX12_passDays_15 rfl hl (by decide) rfl (fun ls hl => ?_)
  refine lv_iconst (v := nI 0) hx hb dX12_passDays_16 (by decide) ?_
  refine lv_istore_n (lv' := [(3, .int (nI 0)), (2, .int r5), (0, .ref o), (1, .int x)]) hx hb dX12_passDays_17 rfl hl (by decide) rfl (fun ls hl => ?_)
  have hL25 : ∀ (n26 : Nat) (k19 : Nat) (f20 : Nat → Int32), (k19 ≤ 2147483647) → (NB f20) → (SB f20) → (HE kn0 f20) → 2147483647 - k19 < n26 → ∀ (H : Heap) (locs : List Loc) (ls : Array Slot), va_P (dC, dI) vwCl [(o, .inr (12, [.int kthrown, .ref ktape, .int (nI ktaped), .int (nI ksize), .int (nI klimit), .int (nI kto), .int (nI kfrom), .int kkind, .int knumber, .int ksign, .int kfault, .int kplace, .long kword, .int ktold, .ref know, .ref kread, .ref kkept, .ref ksnaps, .ref kaside, .ref kname, .ref kreadName, .ref kkeptName, .ref kisKept, .ref konces, .int (nI ksnapMany), .int khasCells, .ref kpoured, .ref kfar, .ref ksides, .int (nI ksideMany), .int kwayDays, .int khasWay, .ref klines, .ref kmet, .int (nI kmetMany), .ref ksunk, .ref ktrying, .int (nI ksunkMany), .int ksending, .int kfleets, .ref ktext, .int (nI ktexts), .int kseed, .ref kline, .ref kwritten, .int (nI klineMany), .int khasWritten, .ref knode, .int (nI knodes), .int (nI konesMany), .int (nI kwithin), .int (nI ktop)])), (know, .inl (ky 0, 373, .inl f20))] H → va_D A [(o, .inr (12, [.int kthrown, .ref ktape, .int (nI ktaped), .int (nI ksize), .int (nI klimit), .int (nI kto), .int (nI kfrom), .int kkind, .int knumber, .int ksign, .int kfault, .int kplace, .long kword, .int ktold, .ref know, .ref kread, .ref kkept, .ref ksnaps, .ref kaside, .ref kname, .ref kreadName, .ref kkeptName, .ref kisKept, .ref konces, .int (nI ksnapMany), .int khasCells, .ref kpoured, .ref kfar, .ref ksides, .int (nI ksideMany), .int kwayDays, .int khasWay, .ref klines, .ref kmet, .int (nI kmetMany), .ref ksunk, .ref ktrying, .int (nI ksunkMany), .int ksending, .int kfleets, .ref ktext, .int (nI ktexts), .int kseed, .ref kline, .ref kwritten, .int (nI klineMany), .int khasWritten, .ref knode, .int (nI knodes), .int (nI konesMany), .int (nI kwithin), .int (nI ktop)])), (know, .inl (ky 0, 373, .inl f20))] → va_S A s.heap H locs → lv_has ls 4 [(3, .int (nI k19)), (2, .int r5), (0, .ref o)] → W p l e (headSpec wsX12_passDays ({ frames := 4, cells := 0, slots := 0, locals := 86 })).room s m args below meth c H locs 0 0 Q (F0 m 18 ls []) := by
    intro n26
    induction n26 with
    | zero => intro k19 f20 _ _ _ _ h9; exact absurd h9 (Nat.not_lt_zero _)
    | succ n26 ih27 =>
      intro k19 f20 j21 j22 j23 j24 hm28 H locs ls hP hD hS hl
      refine lv_iload_n hx hb dX12_passDays_18 rfl (lv_at hl 0 rfl) ?_
      refine lv_iload_n hx hb dX12_passDays_19 rfl (lv_at hl 1 rfl) ?_
      refine lv_icmp_ge (tgt := 33) hx hb dX12_passDays_20 (by decide) (fun c29 => ?_) (fun c29 => ?_)
      · refine lv_iload_n hx hb dX12_passDays_33 rfl (lv_at hl 1 rfl) ?_
        rw [hQ]
        exact W.iret (v := r5) hx hb hr (fun t9 ht9 hW9 => ⟨⟨r5, f20, rfl, ⟨j22, j23, j24⟩, by rw [ht9]; exact hP, va_K.moved hW9.alike hK, hD⟩, hS.F ht9⟩) hS.2.2 dX12_passDays_34
      · refine lv_aload_n hx hb dX12_passDays_23 rfl (lv_at hl 2 rfl) ?_
        refine r_call_v (wr := []) (va_runV (As := []) (rest := []) ⟨hx, hb, hml, hown, hts⟩ (c_e_oneDay l dC dI ky H.size o kthrown ktape ktaped ksize klimit kto kfrom kkind knumber ksign kfault kplace kword ktold know kread kkept ksnaps kaside kname kreadName kkeptName kisKept konces ksnapMany khasCells kpoured kfar ksides ksideMany kwayDays khasWay klines kmet kmetMany ksunk ktrying ksunkMany ksending kfleets ktext ktexts kseed kline kwritten klineMany khasWritten knode knodes konesMany kwithin ktop f20 kn0 iv_ko_0 iv_ko_1 iv_ko_2 iv_ko_3 iv_ko_4 iv_ko_5 iv_ko_6 iv_ko_7 iv_ko_8 iv_ko_9 iv_ko_10 iv_ko_11 iv_ko_12 iv_ko_13 iv_ko_14 j22 j23 j24) (cwV 0 hts gX12_passDays_X12_oneDay rfl rfl rfl (by decide +kernel) ⟨(Nat.le_of_ble_eq_true rfl), (Nat.le_of_ble_eq_true rfl)⟩) (pre_UV hK hP hD [0, 1] (by decide) rfl (ci := 12) (q0 := 0) rfl rfl) rfl rfl hl.1 rfl (lv_room (Nat.le_of_ble_eq_true rfl)) dX12_passDays_24 ⟨(Nat.le_of_ble_eq_true rfl), (Nat.le_of_ble_eq_true rfl)⟩) hP hD hS hA [0, 1] [] rfl rfl (by decide) (by decide) (fun  u30 H locs p31 hP hD hS => ?_)
        obtain ⟨knowG_32, rfl⟩ : ∃ z, z = u30 := ⟨_, rfl⟩
        try dsimp only at p31
        obtain ⟨p33, p34, p35⟩ := p31
        refine W.widen (k := 0) (n := 0) (Nat.le_of_ble_eq_true rfl) (Nat.le_of_ble_eq_true rfl) ?_
        have hP : va_P (dC, dI) vwCl [(o, .inr (12, [.int kthrown, .ref ktape, .int (nI ktaped), .int (nI ksize), .int (nI klimit), .int (nI kto), .int (nI kfrom), .int kkind, .int knumber, .int ksign, .int kfault, .int kplace, .long kword, .int ktold, .ref know, .ref kread, .ref kkept, .ref ksnaps, .ref kaside, .ref kname, .ref kreadName, .ref kkeptName, .ref kisKept, .ref konces, .int (nI ksnapMany), .int khasCells, .ref kpoured, .ref kfar, .ref ksides, .int (nI ksideMany), .int kwayDays, .int khasWay, .ref klines, .ref kmet, .int (nI kmetMany), .ref ksunk, .ref ktrying, .int (nI ksunkMany), .int ksending, .int kfleets, .ref ktext, .int (nI ktexts), .int kseed, .ref kline, .ref kwritten, .int (nI klineMany), .int khasWritten, .ref knode, .int (nI knodes), .int (nI konesMany), .int (nI kwithin), .int (nI ktop)])), (know, .inl (ky 0, 373, .inl knowG_32))] H := hP
        have hD : va_D A [(o, .inr (12, [.int kthrown, .ref ktape, .int (nI ktaped), .int (nI ksize), .int (nI klimit), .int (nI kto), .int (nI kfrom), .int kkind, .int knumber, .int ksign, .int kfault, .int kplace, .long kword, .int ktold, .ref know, .ref kread, .ref kkept, .ref ksnaps, .ref kaside, .ref kname, .ref kreadName, .ref kkeptName, .ref kisKept, .ref konces, .int (nI ksnapMany), .int khasCells, .ref kpoured, .ref kfar, .ref ksides, .int (nI ksideMany), .int kwayDays, .int khasWay, .ref klines, .ref kmet, .int (nI kmetMany), .ref ksunk, .ref ktrying, .int (nI ksunkMany), .int ksending, .int kfleets, .ref ktext, .int (nI ktexts), .int kseed, .ref kline, .ref kwritten, .int (nI klineMany), .int khasWritten, .ref knode, .int (nI knodes), .int (nI konesMany), .int (nI kwithin), .int (nI ktop)])), (know, .inl (ky 0, 373, .inl knowG_32))] := hD
        refine lv_iinc (v := nI (k19 + 1)) (lv' := [(3, .int (nI (k19 + 1))), (2, .int r5), (0, .ref o)]) hx hb dX12_passDays_27 hl (k := 0) rfl (show nI k19 + nI 1 = nI (k19 + 1) from nI_add _ _) (by decide) rfl (fun ls hl => ?_)
        refine lv_goto (tgt := 18) hx hb dX12_passDays_30 (by decide) ?_
        exact ih27 (k19 + 1) knowG_32 (lf_e_passDays_1 knowF kn0 x y1 y3 r5 k19 f20 n26 knowG_32 ab_now sb_now he0 e2 e4 p6 j21 j22 j23 j24 hm28 c29 p33 p34 p35) p33 p34 p35 (lf_e_passDays_2 knowF kn0 x y1 y3 r5 k19 f20 n26 knowG_32 ab_now sb_now he0 e2 e4 p6 j21 j22 j23 j24 hm28 c29 p33 p34 p35) _ _ _ hP hD hS (lv_sub hl [0, 1, 2] rfl)
  exact hL25 ((2147483647 - 0) + 1) 0 knowF (lf_e_passDays_3) ab_now sb_now he0 (Nat.lt_succ_self _) _ _ _ hP hD hS (lv_sub hl [0, 1, 2] rfl)
set_option maxHeartbeats 4000000 in
set_option maxRecDepth 100000 in
theorem c_e_days (l : Launch) (dC : Nat → ClassId) (dI : Nat → Nat → Nat) (ky : Nat → ClassId) (sz : Nat) (o : Nat) (kthrown : Int32) (ktape : Nat) (ktaped : Nat) (ksize : Nat) (klimit : Nat) (kto : Nat) (kfrom : Nat) (kkind : Int32) (knumber : Int32) (ksign : Int32) (kfault : Int32) (kplace : Int32) (kword : Int64) (ktold : Int32) (know : Nat) (kread : Nat) (kkept : Nat) (ksnaps : Nat) (kaside : Nat) (kname : Nat) (kreadName : Nat) (kkeptName : Nat) (kisKept : Nat) (konces : Nat) (ksnapMany : Nat) (khasCells : Int32) (kpoured : Nat) (kfar : Nat) (ksides : Nat) (ksideMany : Nat) (kwayDays : Int32) (khasWay : Int32) (klines : Nat) (kmet : Nat) (kmetMany : Nat) (ksunk : Nat) (ktrying : Nat) (ksunkMany : Nat) (ksending : Int32) (kfleets : Int32) (ktext : Nat) (ktexts : Nat) (kseed : Int32) (kline : Nat) (kwritten : Nat) (klineMany : Nat) (khasWritten : Int32) (knode : Nat) (knodes : Nat) (konesMany : Nat) (kwithin : Nat) (ktop : Nat) (knowF : Nat → Int32) (ksnapsF : Nat → Int32) (kn0 : Nat → Int32) (x : Int32) (iv_ko_0 : ktaped ≤ 940) (iv_ko_1 : ksize ≤ 940) (iv_ko_2 : klimit ≤ 900) (iv_ko_3 : kto ≤ ksize) (iv_ko_4 : kfrom ≤ 940) (iv_ko_5 : ksnapMany ≤ 8) (iv_ko_6 : ksideMany ≤ 36) (iv_ko_7 : kmetMany ≤ 3) (iv_ko_8 : ksunkMany ≤ 36) (iv_ko_9 : ktexts ≤ 64) (iv_ko_10 : klineMany ≤ 40) (iv_ko_11 : knodes ≤ 60) (iv_ko_12 : konesMany ≤ 20) (iv_ko_13 : kwithin ≤ 8) (iv_ko_14 : ktop ≤ 59) (ab_now : NB knowF) (ab_snaps : AB512 ksnapsF) (sb_now : SB knowF) (he0 : HE kn0 knowF) : Met l yX12_days wsX12_days ({ frames := 5, cells := 0, slots := 0, locals := 109 }) (PcU dC dI ky [.ref o, .int x] [(o, .inr (12, [.int kthrown, .ref ktape, .int (nI ktaped), .int (nI ksize), .int (nI klimit), .int (nI kto), .int (nI kfrom), .int kkind, .int knumber, .int ksign, .int kfault, .int kplace, .long kword, .int ktold, .ref know, .ref kread, .ref kkept, .ref ksnaps, .ref kaside, .ref kname, .ref kreadName, .ref kkeptName, .ref kisKept, .ref konces, .int (nI ksnapMany), .int khasCells, .ref kpoured, .ref kfar, .ref ksides, .int (nI ksideMany), .int kwayDays, .int khasWay, .ref klines, .ref kmet, .int (nI kmetMany), .ref ksunk, .ref ktrying, .int (nI ksunkMany), .int ksending, .int kfleets, .ref ktext, .int (nI ktexts), .int kseed, .ref kline, .ref kwritten, .int (nI klineMany), .int khasWritten, .ref knode, .int (nI knodes), .int (nI konesMany), .int (nI kwithin), .int (nI ktop)])), (know, .inl (ky 0, 373, .inl knowF)), (ksnaps, .inl (ky 0, 512, .inl ksnapsF))] sz) (va_Qi (fun (r : Int32) (u : Int32 × Nat × (Nat → Int32) × (Nat → Int32)) => match u with | (kthrownG, ksnapManyG, knowG, ksnapsG) => (ksnapManyG ≤ 8) ∧ (NB knowG) ∧ (SB knowG) ∧ (AB512 ksnapsG) ∧ (HE kn0 knowG)) (BU dC dI ky (fun (u : Int32 × Nat × (Nat → Int32) × (Nat → Int32)) => match u with | (kthrownG, ksnapManyG, knowG, ksnapsG) => [(o, .inr (12, [.int kthrownG, .ref ktape, .int (nI ktaped), .int (nI ksize), .int (nI klimit), .int (nI kto), .int (nI kfrom), .int kkind, .int knumber, .int ksign, .int kfault, .int kplace, .long kword, .int ktold, .ref know, .ref kread, .ref kkept, .ref ksnaps, .ref kaside, .ref kname, .ref kreadName, .ref kkeptName, .ref kisKept, .ref konces, .int (nI ksnapManyG), .int khasCells, .ref kpoured, .ref kfar, .ref ksides, .int (nI ksideMany), .int kwayDays, .int khasWay, .ref klines, .ref kmet, .int (nI kmetMany), .ref ksunk, .ref ktrying, .int (nI ksunkMany), .int ksending, .int kfleets, .ref ktext, .int (nI ktexts), .int kseed, .ref kline, .ref kwritten, .int (nI klineMany), .int khasWritten, .ref knode, .int (nI knodes), .int (nI konesMany), .int (nI kwithin), .int (nI ktop)])), (know, .inl (ky 0, 373, .inl knowG)), (ksnaps, .inl (ky 0, 512, .inl ksnapsG))]) (va_A [(o, .inr (12, [.int kthrown, .ref ktape, .int (nI ktaped), .int (nI ksize), .int (nI klimit), .int (nI kto), .int (nI kfrom), .int kkind, .int knumber, .int ksign, .int kfault, .int kplace, .long kword, .int ktold, .ref know, .ref kread, .ref kkept, .ref ksnaps, .ref kaside, .ref kname, .ref kreadName, .ref kkeptName, .ref kisKept, .ref konces, .int (nI ksnapMany), .int khasCells, .ref kpoured, .ref kfar, .ref ksides, .int (nI ksideMany), .int kwayDays, .int khasWay, .ref klines, .ref kmet, .int (nI kmetMany), .ref ksunk, .ref ktrying, .int (nI ksunkMany), .int ksending, .int kfleets, .ref ktext, .int (nI ktexts), .int kseed, .ref kline, .ref kwritten, .int (nI klineMany), .int khasWritten, .ref knode, .int (nI knodes), .int (nI konesMany), .int (nI kwithin), .int (nI ktop)])), (know, .inl (ky 0, 373, .inl knowF)), (ksnaps, .inl (ky 0, 512, .inl ksnapsF))] sz)) (va_A [(o, .inr (12, [.int kthrown, .ref ktape, .int (nI ktaped), .int (nI ksize), .int (nI klimit), .int (nI kto), .int (nI kfrom), .int kkind, .int knumber, .int ksign, .int kfault, .int kplace, .long kword, .int ktold, .ref know, .ref kread, .ref kkept, .ref ksnaps, .ref kaside, .ref kname, .ref kreadName, .ref kkeptName, .ref kisKept, .ref konces, .int (nI ksnapMany), .int khasCells, .ref kpoured, .ref kfar, .ref ksides, .int (nI ksideMany), .int kwayDays, .int khasWay, .ref klines, .ref kmet, .int (nI kmetMany), .ref ksunk, .ref ktrying, .int (nI ksunkMany), .int ksending, .int kfleets, .ref ktext, .int (nI ktexts), .int kseed, .ref kline, .ref kwritten, .int (nI klineMany), .int khasWritten, .ref knode, .int (nI knodes), .int (nI konesMany), .int (nI kwithin), .int (nI ktop)])), (know, .inl (ky 0, 373, .inl knowF)), (ksnaps, .inl (ky 0, 512, .inl ksnapsF))] sz)) 0 0 (va_A [(o, .inr (12, [.int kthrown, .ref ktape, .int (nI ktaped), .int (nI ksize), .int (nI klimit), .int (nI kto), .int (nI kfrom), .int kkind, .int knumber, .int ksign, .int kfault, .int kplace, .long kword, .int ktold, .ref know, .ref kread, .ref kkept, .ref ksnaps, .ref kaside, .ref kname, .ref kreadName, .ref kkeptName, .ref kisKept, .ref konces, .int (nI ksnapMany), .int khasCells, .ref kpoured, .ref kfar, .ref ksides, .int (nI ksideMany), .int kwayDays, .int khasWay, .ref klines, .ref kmet, .int (nI kmetMany), .ref ksunk, .ref ktrying, .int (nI ksunkMany), .int ksending, .int kfleets, .ref ktext, .int (nI ktexts), .int kseed, .ref kline, .ref kwritten, .int (nI klineMany), .int khasWritten, .ref knode, .int (nI knodes), .int (nI konesMany), .int (nI kwithin), .int (nI ktop)])), (know, .inl (ky 0, 373, .inl knowF)), (ksnaps, .inl (ky 0, 512, .inl ksnapsF))] sz) := by
  refine Met.ofW (cc := cX12_days) (maxL := 2) (ret := (some .int)) (by decide) rfl ?_
  intro p e s m args below meth c s₁ B hml hv
  obtain ⟨rfl, hsz, hP, hK, hD0⟩ := hv
  have hx := B.exec
  have hb := B.bytes
  have hr := B.returns
  have hts := atoms_spec (ws := wsX12_days) B.pre
  have hown : s.vm.findClass RX12 = some m.cls := findClass_of_methodNamed B.named
  have hlocks := B.notSynchronized
  have hin12 : ∀ w ∈ u_ws RX12 TX12 52, w ∈ wsX12_days := by decide +kernel
  subst hsz
  have hD := hD0.self (sz := s.heap.size)
  generalize hAe : va_A [(o, .inr (12, [.int kthrown, .ref ktape, .int (nI ktaped), .int (nI ksize), .int (nI klimit), .int (nI kto), .int (nI kfrom), .int kkind, .int knumber, .int ksign, .int kfault, .int kplace, .long kword, .int ktold, .ref know, .ref kread, .ref kkept, .ref ksnaps, .ref kaside, .ref kname, .ref kreadName, .ref kkeptName, .ref kisKept, .ref konces, .int (nI ksnapMany), .int khasCells, .ref kpoured, .ref kfar, .ref ksides, .int (nI ksideMany), .int kwayDays, .int khasWay, .ref klines, .ref kmet, .int (nI kmetMany), .ref ksunk, .ref ktrying, .int (nI ksunkMany), .int ksending, .int kfleets, .ref ktext, .int (nI ktexts), .int kseed, .ref kline, .ref kwritten, .int (nI klineMany), .int khasWritten, .ref knode, .int (nI knodes), .int (nI konesMany), .int (nI kwithin), .int (nI ktop)])), (know, .inl (ky 0, 373, .inl knowF)), (ksnaps, .inl (ky 0, 512, .inl ksnapsF))] s.heap.size = A at hD ⊢
  have hA : ∀ q : Nat, s.heap.size ≤ q → A q := fun q h => by rw [← hAe]; exact Or.inr h
  have hS : va_S A s.heap s.heap [] := va_S.rf
  have hl := lv_entry ([.ref o, .int x]) (n := 2) (Nat.le_of_ble_eq_true rfl)
  rw [lg_entry_eq]
  generalize (lg_sl ([.ref o, .int x]) ++ List.replicate (2 - (lg_sl ([.ref o, .int x])).length) Slot.unset).toArray = ls at hl ⊢
  have hl : lv_has ls 2 [(0, .ref o), (1, .int x)] := hl
  refine q_name (fun Q hQ => ?_)
  generalize ([.ref o, .int x] : List Value).toArray = args at hts hQ ⊢
  refine lv_aload_n hx hb dX12_days_0 rfl (lv_at hl 0 rfl) ?_
  refine lv_iconst (v := nI 0) hx hb dX12_days_1 (by decide) ?_
  refine va_put (D := (dC, dI)) (ci := 12) (v := .int (nI 0)) (ty := .int) (C := RX12) (T := TX12) (N := 52) hx hb hts hin12 tyX12 tyX12_ok nmX12 hown hK hP hD hS 0 rfl rfl 0 (by decide) (hts (.fieldLink RX12 1 "PorridgeSeaModel" "thrown" "I") (List.mem_of_getElem? (i := 1) rfl)) (fun _ h9 => h9) rfl (by decide +kernel) rfl rfl (Nat.le_of_ble_eq_true rfl) dX12_days_2 (fun H locs hP hD hS => ?_)
  have hP : va_P (dC, dI) vwCl [(o, .inr (12, [.int (nI 0), .ref ktape, .int (nI ktaped), .int (nI ksize), .int (nI klimit), .int (nI kto), .int (nI kfrom), .int kkind, .int knumber, .int ksign, .int kfault, .int kplace, .long kword, .int ktold, .ref know, .ref kread, .ref kkept, .ref ksnaps, .ref kaside, .ref kname, .ref kreadName, .ref kkeptName, .ref kisKept, .ref konces, .int (nI ksnapMany), .int khasCells, .ref kpoured, .ref kfar, .ref ksides, .int (nI ksideMany), .int kwayDays, .int khasWay, .ref klines, .ref kmet, .int (nI kmetMany), .ref ksunk, .ref ktrying, .int (nI ksunkMany), .int ksending, .int kfleets, .ref ktext, .int (nI ktexts), .int kseed, .ref kline, .ref kwritten, .int (nI klineMany), .int khasWritten, .ref knode, .int (nI knodes), .int (nI konesMany), .int (nI kwithin), .int (nI ktop)])), (know, .inl (ky 0, 373, .inl knowF)), (ksnaps, .inl (ky 0, 512, .inl ksnapsF))] H := hP
  have hD : va_D A [(o, .inr (12, [.int (nI 0), .ref ktape, .int (nI ktaped), .int (nI ksize), .int (nI klimit), .int (nI kto), .int (nI kfrom), .int kkind, .int knumber, .int ksign, .int kfault, .int kplace, .long kword, .int ktold, .ref know, .ref kread, .ref kkept, .ref ksnaps, .ref kaside, .ref kname, .ref kreadName, .ref kkeptName, .ref kisKept, .ref konces, .int (nI ksnapMany), .int khasCells, .ref kpoured, .ref kfar, .ref ksides, .int (nI ksideMany), .int kwayDays, .int khasWay, .ref klines, .ref kmet, .int (nI kmetMany), .ref ksunk, .ref ktrying, .int (nI ksunkMany), .int ksending, .int kfleets, .ref ktext, .int (nI ktexts), .int kseed, .ref kline, .ref kwritten, .int (nI klineMany), .int khasWritten, .ref knode, .int (nI knodes), .int (nI konesMany), .int (nI kwithin), .int (nI ktop)])), (know, .inl (ky 0, 373, .inl knowF)), (ksnaps, .inl (ky 0, 512, .inl ksnapsF))] := hD
  refine lv_iload_n hx hb dX12_days_5 rfl (lv_at hl 1 rfl) ?_
  refine lv_iconst (v := nI 1) hx hb dX12_days_6 (by decide) ?_
  refine lv_bipush (v := nI 60) hx hb dX12_days_7 (by decide) ?_
  refine vp_callSi (W.runS (As := [.int x, .int (nI 1), .int (nI 60)]) (rest := []) ⟨hx, hb, hml, hown, hts⟩ (c_x_isIn l dC dI ky x (nI 1) (nI 60)) (va_cwS 3 hts gX12_days_X12_isIn rfl rfl rfl (by decide +kernel) ⟨(Nat.le_of_ble_eq_true rfl), (Nat.le_of_ble_eq_true rfl)⟩) (pre_PS hK hP [] rfl) rfl rfl hl.1 rfl (lv_room (Nat.le_of_ble_eq_true rfl)) dX12_days_9 ⟨(Nat.le_of_ble_eq_true rfl), (Nat.le_of_ble_eq_true rfl)⟩) (fun r1 p2 => ?_)
  rcases p2 with ⟨rfl, t3, t4⟩ | ⟨rfl, t5⟩
  · refine lv_if_ne (tgt := 17) hx hb dX12_days_12 (by decide) (fun c6 => ?_) (fun c6 => absurd c6 (by decide))
    refine lv_aload_n hx hb dX12_days_17 rfl (lv_at hl 0 rfl) ?_
    refine va_get (D := (dC, dI)) (ci := 12) (v := .ref know) (C := RX12) (T := TX12) (N := 52) hx hb hts hin12 hown hK hP 0 rfl rfl 14 (by decide) (hts (.fieldLink RX12 98 "PorridgeSeaModel" "now" "[I") (List.mem_of_getElem? (i := 2) rfl)) (fun _ h9 => h9) rfl dX12_days_18 ?_
    refine lv_bipush (v := nI 67) hx hb dX12_days_21 (by decide) ?_
    obtain ⟨y7, e8⟩ : ∃ z9, z9 = knowF 67 := ⟨_, rfl⟩
    refine r_iald hx hb hK hP 1 rfl 67 (by decide) (by decide) y7 e8.symm dX12_days_23 ?_
    refine lv_sipush (v := nI 400) hx hb dX12_days_24 (by decide) ?_
    refine lv_icmp_ne (tgt := 32) hx hb dX12_days_27 (by decide) (fun c9 => ?_) (fun c9 => ?_)
    · refine lv_aload_n hx hb dX12_days_32 rfl (lv_at hl 0 rfl) ?_
      refine r_call_v (wr := []) (va_runV (As := []) (rest := []) ⟨hx, hb, hml, hown, hts⟩ (c_x_snap l dC dI ky H.size o (nI 0) ktape ktaped ksize klimit kto kfrom kkind knumber ksign kfault kplace kword ktold know kread kkept ksnaps kaside kname kreadName kkeptName kisKept konces ksnapMany khasCells kpoured kfar ksides ksideMany kwayDays khasWay klines kmet kmetMany ksunk ktrying ksunkMany ksending kfleets ktext ktexts kseed kline kwritten klineMany khasWritten knode knodes konesMany kwithin ktop knowF ksnapsF iv_ko_0 iv_ko_1 iv_ko_2 iv_ko_3 iv_ko_4 iv_ko_5 iv_ko_6 iv_ko_7 iv_ko_8 iv_ko_9 iv_ko_10 iv_ko_11 iv_ko_12 iv_ko_13 iv_ko_14 ab_now ab_snaps) (cwV 0 hts gX12_days_X12_snap rfl rfl rfl (by decide +kernel) ⟨(Nat.le_of_ble_eq_true rfl), (Nat.le_of_ble_eq_true rfl)⟩) (pre_UV hK hP hD [0, 1, 2] (by decide) rfl (ci := 12) (q0 := 0) rfl rfl) rfl rfl hl.1 rfl (lv_room (Nat.le_of_ble_eq_true rfl)) dX12_days_33 ⟨(Nat.le_of_ble_eq_true rfl), (Nat.le_of_ble_eq_true rfl)⟩) hP hD hS hA [0, 1, 2] [] rfl rfl (by decide) (by decide) (fun  u10 H locs p11 hP hD hS => ?_)
      obtain ⟨ksnapManyG_12, ksnapsG_13⟩ := u10
      try dsimp only at p11
      obtain ⟨p14, p15⟩ := p11
      refine W.widen (k := 0) (n := 0) (Nat.le_of_ble_eq_true rfl) (Nat.le_of_ble_eq_true rfl) ?_
      have hP : va_P (dC, dI) vwCl [(o, .inr (12, [.int (nI 0), .ref ktape, .int (nI ktaped), .int (nI ksize), .int (nI klimit), .int (nI kto), .int (nI kfrom), .int kkind, .int knumber, .int ksign, .int kfault, .int kplace, .long kword, .int ktold, .ref know, .ref kread, .ref kkept, .ref ksnaps, .ref kaside, .ref kname, .ref kreadName, .ref kkeptName, .ref kisKept, .ref konces, .int (nI ksnapManyG_12), .int khasCells, .ref kpoured, .ref kfar, .ref ksides, .int (nI ksideMany), .int kwayDays, .int khasWay, .ref klines, .ref kmet, .int (nI kmetMany), .ref ksunk, .ref ktrying, .int (nI ksunkMany), .int ksending, .int kfleets, .ref ktext, .int (nI ktexts), .int kseed, .ref kline, .ref kwritten, .int (nI klineMany), .int khasWritten, .ref knode, .int (nI knodes), .int (nI konesMany), .int (nI kwithin), .int (nI ktop)])), (know, .inl (ky 0, 373, .inl knowF)), (ksnaps, .inl (ky 0, 512, .inl ksnapsG_13))] H := hP
      have hD : va_D A [(o, .inr (12, [.int (nI 0), .ref ktape, .int (nI ktaped), .int (nI ksize), .int (nI klimit), .int (nI kto), .int (nI kfrom), .int kkind, .int knumber, .int ksign, .int kfault, .int kplace, .long kword, .int ktold, .ref know, .ref kread, .ref kkept, .ref ksnaps, .ref kaside, .ref kname, .ref kreadName, .ref kkeptName, .ref kisKept, .ref konces, .int (nI ksnapManyG_12), .int khasCells, .ref kpoured, .ref kfar, .ref ksides, .int (nI ksideMany), .int kwayDays, .int khasWay, .ref klines, .ref kmet, .int (nI kmetMany), .ref ksunk, .ref ktrying, .int (nI ksunkMany), .int ksending, .int kfleets, .ref ktext, .int (nI ktexts), .int kseed, .ref kline, .ref kwritten, .int (nI klineMany), .int khasWritten, .ref knode, .int (nI knodes), .int (nI konesMany), .int (nI kwithin), .int (nI ktop)])), (know, .inl (ky 0, 373, .inl knowF)), (ksnaps, .inl (ky 0, 512, .inl ksnapsG_13))] := hD
      refine lv_aload_n hx hb dX12_days_36 rfl (lv_at hl 0 rfl) ?_
      refine lv_iload_n hx hb dX12_days_37 rfl (lv_at hl 1 rfl) ?_
      refine r_call_i (wr := [(ksnaps, .inl (ky 0, 512, .inl ksnapsG_13))]) (va_runV (As := [.int x]) (rest := []) ⟨hx, hb, hml, hown, hts⟩ (c_e_passDays l dC dI ky H.size o (nI 0) ktape ktaped ksize klimit kto kfrom kkind knumber ksign kfault kplace kword ktold know kread kkept ksnaps kaside kname kreadName kkeptName kisKept konces ksnapManyG_12 khasCells kpoured kfar ksides ksideMany kwayDays khasWay klines kmet kmetMany ksunk ktrying ksunkMany ksending kfleets ktext ktexts kseed kline kwritten klineMany khasWritten knode knodes konesMany kwithin ktop knowF kn0 x iv_ko_0 iv_ko_1 iv_ko_2 iv_ko_3 iv_ko_4 p14 iv_ko_6 iv_ko_7 iv_ko_8 iv_ko_9 iv_ko_10 iv_ko_11 iv_ko_12 iv_ko_13 iv_ko_14 ab_now sb_now he0) (cwV 1 hts gX12_days_X12_passDays rfl rfl rfl (by decide +kernel) ⟨(Nat.le_of_ble_eq_true rfl), (Nat.le_of_ble_eq_true rfl)⟩) (pre_UV hK hP hD [0, 1] (by decide) rfl (ci := 12) (q0 := 0) rfl rfl) rfl rfl hl.1 rfl (lv_room (Nat.le_of_ble_eq_true rfl)) dX12_days_38 ⟨(Nat.le_of_ble_eq_true rfl), (Nat.le_of_ble_eq_true rfl)⟩) hP hD hS hA [0, 1] [2] rfl rfl (by decide) (by decide) (fun r18 u16 H locs p17 hP hD hS => ?_)
      obtain ⟨knowG_19, rfl⟩ : ∃ z, z = u16 := ⟨_, rfl⟩
      try dsimp only at p17
      obtain ⟨p20, p21, p22⟩ := p17
      refine W.widen (k := 0) (n := 0) (Nat.le_of_ble_eq_true rfl) (Nat.le_of_ble_eq_true rfl) ?_
      have hP : va_P (dC, dI) vwCl [(ksnaps, .inl (ky 0, 512, .inl ksnapsG_13)), (o, .inr (12, [.int (nI 0), .ref ktape, .int (nI ktaped), .int (nI ksize), .int (nI klimit), .int (nI kto), .int (nI kfrom), .int kkind, .int knumber, .int ksign, .int kfault, .int kplace, .long kword, .int ktold, .ref know, .ref kread, .ref kkept, .ref ksnaps, .ref kaside, .ref kname, .ref kreadName, .ref kkeptName, .ref kisKept, .ref konces, .int (nI ksnapManyG_12), .int khasCells, .ref kpoured, .ref kfar, .ref ksides, .int (nI ksideMany), .int kwayDays, .int khasWay, .ref klines, .ref kmet, .int (nI kmetMany), .ref ksunk, .ref ktrying, .int (nI ksunkMany), .int ksending, .int kfleets, .ref ktext, .int (nI ktexts), .int kseed, .ref kline, .ref kwritten, .int (nI klineMany), .int khasWritten, .ref knode, .int (nI knodes), .int (nI konesMany), .int (nI kwithin), .int (nI ktop)])), (know, .inl (ky 0, 373, .inl knowG_19))] H := hP
      have hD : va_D A [(ksnaps, .inl (ky 0, 512, .inl ksnapsG_13)), (o, .inr (12, [.int (nI 0), .ref ktape, .int (nI ktaped), .int (nI ksize), .int (nI klimit), .int (nI kto), .int (nI kfrom), .int kkind, .int knumber, .int ksign, .int kfault, .int kplace, .long kword, .int ktold, .ref know, .ref kread, .ref kkept, .ref ksnaps, .ref kaside, .ref kname, .ref kreadName, .ref kkeptName, .ref kisKept, .ref konces, .int (nI ksnapManyG_12), .int khasCells, .ref kpoured, .ref kfar, .ref ksides, .int (nI ksideMany), .int kwayDays, .int khasWay, .ref klines, .ref kmet, .int (nI kmetMany), .ref ksunk, .ref ktrying, .int (nI ksunkMany), .int ksending, .int kfleets, .ref ktext, .int (nI ktexts), .int kseed, .ref kline, .ref kwritten, .int (nI klineMany), .int khasWritten, .ref knode, .int (nI knodes), .int (nI konesMany), .int (nI kwithin), .int (nI ktop)])), (know, .inl (ky 0, 373, .inl knowG_19))] := hD
      rw [hQ]
      have hP9 := hP.sub (ws' := [(o, .inr (12, [.int (nI 0), .ref ktape, .int (nI ktaped), .int (nI ksize), .int (nI klimit), .int (nI kto), .int (nI kfrom), .int kkind, .int knumber, .int ksign, .int kfault, .int kplace, .long kword, .int ktold, .ref know, .ref kread, .ref kkept, .ref ksnaps, .ref kaside, .ref kname, .ref kreadName, .ref kkeptName, .ref kisKept, .ref konces, .int (nI ksnapManyG_12), .int khasCells, .ref kpoured, .ref kfar, .ref ksides, .int (nI ksideMany), .int kwayDays, .int khasWay, .ref klines, .ref kmet, .int (nI kmetMany), .ref ksunk, .ref ktrying, .int (nI ksunkMany), .int ksending, .int kfleets, .ref ktext, .int (nI ktexts), .int kseed, .ref kline, .ref kwritten, .int (nI klineMany), .int khasWritten, .ref knode, .int (nI knodes), .int (nI konesMany), .int (nI kwithin), .int (nI ktop)])), (know, .inl (ky 0, 373, .inl knowG_19)), (ksnaps, .inl (ky 0, 512, .inl ksnapsG_13))]) [1, 2, 0] rfl
      have hD9 := hD.sub (ws' := [(o, .inr (12, [.int (nI 0), .ref ktape, .int (nI ktaped), .int (nI ksize), .int (nI klimit), .int (nI kto), .int (nI kfrom), .int kkind, .int knumber, .int ksign, .int kfault, .int kplace, .long kword, .int ktold, .ref know, .ref kread, .ref kkept, .ref ksnaps, .ref kaside, .ref kname, .ref kreadName, .ref kkeptName, .ref kisKept, .ref konces, .int (nI ksnapManyG_12), .int khasCells, .ref kpoured, .ref kfar, .ref ksides, .int (nI ksideMany), .int kwayDays, .int khasWay, .ref klines, .ref kmet, .int (nI kmetMany), .ref ksunk, .ref ktrying, .int (nI ksunkMany), .int ksending, .int kfleets, .ref ktext, .int (nI ktexts), .int kseed, .ref kline, .ref kwritten, .int (nI klineMany), .int khasWritten, .ref knode, .int (nI knodes), .int (nI konesMany), .int (nI kwithin), .int (nI ktop)])), (know, .inl (ky 0, 373, .inl knowG_19)), (ksnaps, .inl (ky 0, 512, .inl ksnapsG_13))]) [1, 2, 0] (by decide) rfl
      exact W.iret (v := r18) hx hb hr (fun t9 ht9 hW9 => ⟨⟨r18, (nI 0, ksnapManyG_12, knowG_19, ksnapsG_13), rfl, ⟨p14, p20, p21, p15, p22⟩, by rw [ht9]; exact hP9, va_K.moved hW9.alike hK, hD9⟩, hS.F ht9⟩) hS.2.2 dX12_days_41
    · refine lv_iconst (v := nI 0) hx hb dX12_days_30 (by decide) ?_
      rw [hQ]
      exact W.iret (v := nI 0) hx hb hr (fun t9 ht9 hW9 => ⟨⟨nI 0, (nI 0, ksnapMany, knowF, ksnapsF), rfl, ⟨iv_ko_5, ab_now, sb_now, ab_snaps, he0⟩, by rw [ht9]; exact hP, va_K.moved hW9.alike hK, hD⟩, hS.F ht9⟩) hS.2.2 dX12_days_31
  · refine lv_if_ne (tgt := 17) hx hb dX12_days_12 (by decide) (fun c23 => absurd c23 (by decide)) (fun c23 => ?_)
    refine lv_iconst (v := (-1 : Int32)) hx hb dX12_days_15 (by decide) ?_
    rw [hQ]
    exact W.iret (v := (-1 : Int32)) hx hb hr (fun t9 ht9 hW9 => ⟨⟨(-1 : Int32), (nI 0, ksnapMany, knowF, ksnapsF), rfl, ⟨iv_ko_5, ab_now, sb_now, ab_snaps, he0⟩, by rw [ht9]; exact hP, va_K.moved hW9.alike hK, hD⟩, hS.F ht9⟩) hS.2.2 dX12_days_16
set_option maxHeartbeats 4000000 in
set_option maxRecDepth 100000 in
theorem c_e_live0 (l : Launch) (dC : Nat → ClassId) (dI : Nat → Nat → Nat) (ky : Nat → ClassId) (sz : Nat) (o : Nat) (kthrown : Int32) (ktape : Nat) (ktaped : Nat) (ksize : Nat) (klimit : Nat) (kto : Nat) (kfrom : Nat) (kkind : Int32) (knumber : Int32) (ksign : Int32) (kfault : Int32) (kplace : Int32) (kword : Int64) (ktold : Int32) (know : Nat) (kread : Nat) (kkept : Nat) (ksnaps : Nat) (kaside : Nat) (kname : Nat) (kreadName : Nat) (kkeptName : Nat) (kisKept : Nat) (konces : Nat) (ksnapMany : Nat) (khasCells : Int32) (kpoured : Nat) (kfar : Nat) (ksides : Nat) (ksideMany : Nat) (kwayDays : Int32) (khasWay : Int32) (klines : Nat) (kmet : Nat) (kmetMany : Nat) (ksunk : Nat) (ktrying : Nat) (ksunkMany : Nat) (ksending : Int32) (kfleets : Int32) (ktext : Nat) (ktexts : Nat) (kseed : Int32) (kline : Nat) (kwritten : Nat) (klineMany : Nat) (khasWritten : Int32) (knode : Nat) (knodes : Nat) (konesMany : Nat) (kwithin : Nat) (ktop : Nat) (knowF : Nat → Int32) (kpouredF : Nat → Int32) (kn0 : Nat → Int32) (x : Int32) (y : Int32) (iv_ko_0 : ktaped ≤ 940) (iv_ko_1 : ksize ≤ 940) (iv_ko_2 : klimit ≤ 900) (iv_ko_3 : kto ≤ ksize) (iv_ko_4 : kfrom ≤ 940) (iv_ko_5 : ksnapMany ≤ 8) (iv_ko_6 : ksideMany ≤ 36) (iv_ko_7 : kmetMany ≤ 3) (iv_ko_8 : ksunkMany ≤ 36) (iv_ko_9 : ktexts ≤ 64) (iv_ko_10 : klineMany ≤ 40) (iv_ko_11 : knodes ≤ 60) (iv_ko_12 : konesMany ≤ 20) (iv_ko_13 : kwithin ≤ 8) (iv_ko_14 : ktop ≤ 59) (ab_now : NB knowF) (ab_poured : AP36 kpouredF) (sb_now : SB knowF) (hl_x : 0 ≤ x.toInt ∧ x.toInt ≤ 23) (he0 : HE kn0 knowF) : Met l yX12_live wsX12_live ({ frames := 2, cells := 0, slots := 0, locals := 49 }) (PcU dC dI ky [.ref o, .int (nI 0), .int x, .int y] [(o, .inr (12, [.int kthrown, .ref ktape, .int (nI ktaped), .int (nI ksize), .int (nI klimit), .int (nI kto), .int (nI kfrom), .int kkind, .int knumber, .int ksign, .int kfault, .int kplace, .long kword, .int ktold, .ref know, .ref kread, .ref kkept, .ref ksnaps, .ref kaside, .ref kname, .ref kreadName, .ref kkeptName, .ref kisKept, .ref konces, .int (nI ksnapMany), .int khasCells, .ref kpoured, .ref kfar, .ref ksides, .int (nI ksideMany), .int kwayDays, .int khasWay, .ref klines, .ref kmet, .int (nI kmetMany), .ref ksunk, .ref ktrying, .int (nI ksunkMany), .int ksending, .int kfleets, .ref ktext, .int (nI ktexts), .int kseed, .ref kline, .ref kwritten, .int (nI klineMany), .int khasWritten, .ref knode, .int (nI knodes), .int (nI konesMany), .int (nI kwithin), .int (nI ktop)])), (know, .inl (ky 0, 373, .inl knowF)), (kpoured, .inl (ky 0, 36, .inl kpouredF))] sz) (va_Qv (fun (u : (Nat → Int32) × (Nat → Int32)) => match u with | (knowG, kpouredG) => (NB knowG) ∧ (SB knowG) ∧ (AP36 kpouredG) ∧ (HE kn0 knowG)) (BU dC dI ky (fun (u : (Nat → Int32) × (Nat → Int32)) => match u with | (knowG, kpouredG) => [(o, .inr (12, [.int kthrown, .ref ktape, .int (nI ktaped), .int (nI ksize), .int (nI klimit), .int (nI kto), .int (nI kfrom), .int kkind, .int knumber, .int ksign, .int kfault, .int kplace, .long kword, .int ktold, .ref know, .ref kread, .ref kkept, .ref ksnaps, .ref kaside, .ref kname, .ref kreadName, .ref kkeptName, .ref kisKept, .ref konces, .int (nI ksnapMany), .int khasCells, .ref kpoured, .ref kfar, .ref ksides, .int (nI ksideMany), .int kwayDays, .int khasWay, .ref klines, .ref kmet, .int (nI kmetMany), .ref ksunk, .ref ktrying, .int (nI ksunkMany), .int ksending, .int kfleets, .ref ktext, .int (nI ktexts), .int kseed, .ref kline, .ref kwritten, .int (nI klineMany), .int khasWritten, .ref knode, .int (nI knodes), .int (nI konesMany), .int (nI kwithin), .int (nI ktop)])), (know, .inl (ky 0, 373, .inl knowG)), (kpoured, .inl (ky 0, 36, .inl kpouredG))]) (va_A [(o, .inr (12, [.int kthrown, .ref ktape, .int (nI ktaped), .int (nI ksize), .int (nI klimit), .int (nI kto), .int (nI kfrom), .int kkind, .int knumber, .int ksign, .int kfault, .int kplace, .long kword, .int ktold, .ref know, .ref kread, .ref kkept, .ref ksnaps, .ref kaside, .ref kname, .ref kreadName, .ref kkeptName, .ref kisKept, .ref konces, .int (nI ksnapMany), .int khasCells, .ref kpoured, .ref kfar, .ref ksides, .int (nI ksideMany), .int kwayDays, .int khasWay, .ref klines, .ref kmet, .int (nI kmetMany), .ref ksunk, .ref ktrying, .int (nI ksunkMany), .int ksending, .int kfleets, .ref ktext, .int (nI ktexts), .int kseed, .ref kline, .ref kwritten, .int (nI klineMany), .int khasWritten, .ref knode, .int (nI knodes), .int (nI konesMany), .int (nI kwithin), .int (nI ktop)])), (know, .inl (ky 0, 373, .inl knowF)), (kpoured, .inl (ky 0, 36, .inl kpouredF))] sz)) (va_A [(o, .inr (12, [.int kthrown, .ref ktape, .int (nI ktaped), .int (nI ksize), .int (nI klimit), .int (nI kto), .int (nI kfrom), .int kkind, .int knumber, .int ksign, .int kfault, .int kplace, .long kword, .int ktold, .ref know, .ref kread, .ref kkept, .ref ksnaps, .ref kaside, .ref kname, .ref kreadName, .ref kkeptName, .ref kisKept, .ref konces, .int (nI ksnapMany), .int khasCells, .ref kpoured, .ref kfar, .ref ksides, .int (nI ksideMany), .int kwayDays, .int khasWay, .ref klines, .ref kmet, .int (nI kmetMany), .ref ksunk, .ref ktrying, .int (nI ksunkMany), .int ksending, .int kfleets, .ref ktext, .int (nI ktexts), .int kseed, .ref kline, .ref kwritten, .int (nI klineMany), .int khasWritten, .ref knode, .int (nI knodes), .int (nI konesMany), .int (nI kwithin), .int (nI ktop)])), (know, .inl (ky 0, 373, .inl knowF)), (kpoured, .inl (ky 0, 36, .inl kpouredF))] sz)) 0 0 (va_A [(o, .inr (12, [.int kthrown, .ref ktape, .int (nI ktaped), .int (nI ksize), .int (nI klimit), .int (nI kto), .int (nI kfrom), .int kkind, .int knumber, .int ksign, .int kfault, .int kplace, .long kword, .int ktold, .ref know, .ref kread, .ref kkept, .ref ksnaps, .ref kaside, .ref kname, .ref kreadName, .ref kkeptName, .ref kisKept, .ref konces, .int (nI ksnapMany), .int khasCells, .ref kpoured, .ref kfar, .ref ksides, .int (nI ksideMany), .int kwayDays, .int khasWay, .ref klines, .ref kmet, .int (nI kmetMany), .ref ksunk, .ref ktrying, .int (nI ksunkMany), .int ksending, .int kfleets, .ref ktext, .int (nI ktexts), .int kseed, .ref kline, .ref kwritten, .int (nI klineMany), .int khasWritten, .ref knode, .int (nI knodes), .int (nI konesMany), .int (nI kwithin), .int (nI ktop)])), (know, .inl (ky 0, 373, .inl knowF)), (kpoured, .inl (ky 0, 36, .inl kpouredF))] sz) := by
  refine Met.ofW (cc := cX12_live) (maxL := 4) (ret := none) (by decide) rfl ?_
  intro p e s m args below meth c s₁ B hml hv
  obtain ⟨rfl, hsz, hP, hK, hD0⟩ := hv
  have hx := B.exec
  have hb := B.bytes
  have hr := B.returns
  have hts := atoms_spec (ws := wsX12_live) B.pre
  have hown : s.vm.findClass RX12 = some m.cls := findClass_of_methodNamed B.named
  have hlocks := B.notSynchronized
  subst hsz
  have hD := hD0.self (sz := s.heap.size)
  generalize hAe : va_A [(o, .inr (12, [.int kthrown, .ref ktape, .int (nI ktaped), .int (nI ksize), .int (nI klimit), .int (nI kto), .int (nI kfrom), .int kkind, .int knumber, .int ksign, .int kfault, .int kplace, .long kword, .int ktold, .ref know, .ref kread, .ref kkept, .ref ksnaps, .ref kaside, .ref kname, .ref kreadName, .ref kkeptName, .ref kisKept, .ref konces, .int (nI ksnapMany), .int khasCells, .ref kpoured, .ref kfar, .ref ksides, .int (nI ksideMany), .int kwayDays, .int khasWay, .ref klines, .ref kmet, .int (nI kmetMany), .ref ksunk, .ref ktrying, .int (nI ksunkMany), .int ksending, .int kfleets, .ref ktext, .int (nI ktexts), .int kseed, .ref kline, .ref kwritten, .int (nI klineMany), .int khasWritten, .ref knode, .int (nI knodes), .int (nI konesMany), .int (nI kwithin), .int (nI ktop)])), (know, .inl (ky 0, 373, .inl knowF)), (kpoured, .inl (ky 0, 36, .inl kpouredF))] s.heap.size = A at hD ⊢
  have hA : ∀ q : Nat, s.heap.size ≤ q → A q := fun q h => by rw [← hAe]; exact Or.inr h
  have hS : va_S A s.heap s.heap [] := va_S.rf
  have hl := lv_entry ([.ref o, .int (nI 0), .int x, .int y]) (n := 4) (Nat.le_of_ble_eq_true rfl)
  rw [lg_entry_eq]
  generalize (lg_sl ([.ref o, .int (nI 0), .int x, .int y]) ++ List.replicate (4 - (lg_sl ([.ref o, .int (nI 0), .int x, .int y])).length) Slot.unset).toArray = ls at hl ⊢
  have hl : lv_has ls 4 [(0, .ref o), (1, .int (nI 0)), (2, .int x), (3, .int y)] := hl
  refine q_name (fun Q hQ => ?_)
  generalize ([.ref o, .int (nI 0), .int x, .int y] : List Value).toArray = args at hts hQ ⊢
  refine lv_iload_n hx hb dX12_live_0 rfl (lv_at hl 1 rfl) ?_
  refine lv_tableIn (off := 31) (tgt := 32) hx hb dX12_live_1 (by decide) (by decide) rfl (by decide) ?_
  refine lv_aload_n hx hb dX12_live_32 rfl (lv_at hl 0 rfl) ?_
  refine lv_iload_n hx hb dX12_live_33 rfl (lv_at hl 2 rfl) ?_
  refine r_call_v (wr := []) (va_runV (As := [.int x]) (rest := []) ⟨hx, hb, hml, hown, hts⟩ (c_e_doStir l dC dI ky s.heap.size o kthrown ktape ktaped ksize klimit kto kfrom kkind knumber ksign kfault kplace kword ktold know kread kkept ksnaps kaside kname kreadName kkeptName kisKept konces ksnapMany khasCells kpoured kfar ksides ksideMany kwayDays khasWay klines kmet kmetMany ksunk ktrying ksunkMany ksending kfleets ktext ktexts kseed kline kwritten klineMany khasWritten knode knodes konesMany kwithin ktop knowF kpouredF kn0 x iv_ko_0 iv_ko_1 iv_ko_2 iv_ko_3 iv_ko_4 iv_ko_5 iv_ko_6 iv_ko_7 iv_ko_8 iv_ko_9 iv_ko_10 iv_ko_11 iv_ko_12 iv_ko_13 iv_ko_14 ab_now ab_poured sb_now hl_x he0) (cwV 1 hts gX12_live_X12_doStir rfl rfl rfl (by decide +kernel) ⟨(Nat.le_of_ble_eq_true rfl), (Nat.le_of_ble_eq_true rfl)⟩) (pre_UV hK hP hD [0, 1, 2] (by decide) rfl (ci := 12) (q0 := 0) rfl rfl) rfl rfl hl.1 rfl (lv_room (Nat.le_of_ble_eq_true rfl)) dX12_live_34 ⟨(Nat.le_of_ble_eq_true rfl), (Nat.le_of_ble_eq_true rfl)⟩) hP hD hS hA [0, 1, 2] [] rfl rfl (by decide) (by decide) (fun  u1 H locs p2 hP hD hS => ?_)
  obtain ⟨knowG_3, kpouredG_4⟩ := u1
  try dsimp only at p2
  obtain ⟨p5, p6, p7, p8⟩ := p2
  refine W.widen (k := 0) (n := 0) (Nat.le_of_ble_eq_true rfl) (Nat.le_of_ble_eq_true rfl) ?_
  have hP : va_P (dC, dI) vwCl [(o, .inr (12, [.int kthrown, .ref ktape, .int (nI ktaped), .int (nI ksize), .int (nI klimit), .int (nI kto), .int (nI kfrom), .int kkind, .int knumber, .int ksign, .int kfault, .int kplace, .long kword, .int ktold, .ref know, .ref kread, .ref kkept, .ref ksnaps, .ref kaside, .ref kname, .ref kreadName, .ref kkeptName, .ref kisKept, .ref konces, .int (nI ksnapMany), .int khasCells, .ref kpoured, .ref kfar, .ref ksides, .int (nI ksideMany), .int kwayDays, .int khasWay, .ref klines, .ref kmet, .int (nI kmetMany), .ref ksunk, .ref ktrying, .int (nI ksunkMany), .int ksending, .int kfleets, .ref ktext, .int (nI ktexts), .int kseed, .ref kline, .ref kwritten, .int (nI klineMany), .int khasWritten, .ref knode, .int (nI knodes), .int (nI konesMany), .int (nI kwithin), .int (nI ktop)])), (know, .inl (ky 0, 373, .inl knowG_3)), (kpoured, .inl (ky 0, 36, .inl kpouredG_4))] H := hP
  have hD : va_D A [(o, .inr (12, [.int kthrown, .ref ktape, .int (nI ktaped), .int (nI ksize), .int (nI klimit), .int (nI kto), .int (nI kfrom), .int kkind, .int knumber, .int ksign, .int kfault, .int kplace, .long kword, .int ktold, .ref know, .ref kread, .ref kkept, .ref ksnaps, .ref kaside, .ref kname, .ref kreadName, .ref kkeptName, .ref kisKept, .ref konces, .int (nI ksnapMany), .int khasCells, .ref kpoured, .ref kfar, .ref ksides, .int (nI ksideMany), .int kwayDays, .int khasWay, .ref klines, .ref kmet, .int (nI kmetMany), .ref ksunk, .ref ktrying, .int (nI ksunkMany), .int ksending, .int kfleets, .ref ktext, .int (nI ktexts), .int kseed, .ref kline, .ref kwritten, .int (nI klineMany), .int khasWritten, .ref knode, .int (nI knodes), .int (nI konesMany), .int (nI kwithin), .int (nI ktop)])), (know, .inl (ky 0, 373, .inl knowG_3)), (kpoured, .inl (ky 0, 36, .inl kpouredG_4))] := hD
  rw [hQ]
  exact W.vret hx hb hr (fun t9 ht9 hW9 => ⟨⟨(knowG_3, kpouredG_4), rfl, ⟨p5, p6, p7, p8⟩, by rw [ht9]; exact hP, va_K.moved hW9.alike hK, hD⟩, hS.F ht9⟩) hS.2.2 dX12_live_37
set_option maxRecDepth 20000 in
theorem lf_e_live1_1 (knowF : Nat → Int32) (kn0 : Nat → Int32) (bq : Nat) (y : Int32) (y1 : Int32) (ab_now : NB knowF) (sb_now : SB knowF) (hb6 : bq < 6) (hsd : 0 ≤ y.toInt ∧ y.toInt ≤ 3) (hbs : BSok (knowF (113 + bq)).toInt y.toInt (knowF 0).toInt (knowF 1).toInt) (he0 : HE kn0 knowF) (e2 : y1 = knowF (113 + bq)) : (113 + bq) < 373 := by
  have b_y := ia_b y
  have b_y1 := ia_b y1
  try unfold BSok at *
  try simp only [ia_lt, ia_le, ia_eq, ia_m1, ia_0, ia_1, ne_eq, true_and, and_true, false_and, and_false, or_false, false_or, or_true, true_or, not_true_eq_false, not_false_eq_true] at *
  all_goals omega
set_option maxRecDepth 20000 in
theorem lf_e_live1_2 (knowF : Nat → Int32) (kn0 : Nat → Int32) (bq : Nat) (y : Int32) (y1 : Int32) (ab_now : NB knowF) (sb_now : SB knowF) (hb6 : bq < 6) (hsd : 0 ≤ y.toInt ∧ y.toInt ≤ 3) (hbs : BSok (knowF (113 + bq)).toInt y.toInt (knowF 0).toInt (knowF 1).toInt) (he0 : HE kn0 knowF) (e2 : y1 = knowF (113 + bq)) : 107 ≤ (113 + bq) := by
  have b_y := ia_b y
  have b_y1 := ia_b y1
  try unfold BSok at *
  try simp only [ia_lt, ia_le, ia_eq, ia_m1, ia_0, ia_1, ne_eq, true_and, and_true, false_and, and_false, or_false, false_or, or_true, true_or, not_true_eq_false, not_false_eq_true] at *
  all_goals omega
set_option maxRecDepth 20000 in
theorem lf_e_live1_3 (knowF : Nat → Int32) (kn0 : Nat → Int32) (bq : Nat) (y : Int32) (y1 : Int32) (ab_now : NB knowF) (sb_now : SB knowF) (hb6 : bq < 6) (hsd : 0 ≤ y.toInt ∧ y.toInt ≤ 3) (hbs : BSok (knowF (113 + bq)).toInt y.toInt (knowF 0).toInt (knowF 1).toInt) (he0 : HE kn0 knowF) (e2 : y1 = knowF (113 + bq)) : (113 + bq) < 119 := by
  have b_y := ia_b y
  have b_y1 := ia_b y1
  try unfold BSok at *
  try simp only [ia_lt, ia_le, ia_eq, ia_m1, ia_0, ia_1, ne_eq, true_and, and_true, false_and, and_false, or_false, false_or, or_true, true_or, not_true_eq_false, not_false_eq_true] at *
  all_goals omega
set_option maxRecDepth 20000 in
theorem lf_e_live1_4 (knowF : Nat → Int32) (kn0 : Nat → Int32) (bq : Nat) (y : Int32) (y1 : Int32) (ab_now : NB knowF) (sb_now : SB knowF) (hb6 : bq < 6) (hsd : 0 ≤ y.toInt ∧ y.toInt ≤ 3) (hbs : BSok (knowF (113 + bq)).toInt y.toInt (knowF 0).toInt (knowF 1).toInt) (he0 : HE kn0 knowF) (e2 : y1 = knowF (113 + bq)) (b3 : 0 ≤ y1.toInt) (b4 : y1.toInt ≤ 35) : 0 ≤ y1.toInt ∧ y1.toInt ≤ 35 := by
  have b_y := ia_b y
  have b_y1 := ia_b y1
  try unfold BSok at *
  try simp only [ia_lt, ia_le, ia_eq, ia_m1, ia_0, ia_1, ne_eq, true_and, and_true, false_and, and_false, or_false, false_or, or_true, true_or, not_true_eq_false, not_false_eq_true] at *
  all_goals omega
set_option maxRecDepth 20000 in
theorem lf_e_live1_5 (o : Nat) (kthrown : Int32) (ktape : Nat) (ktaped : Nat) (ksize : Nat) (klimit : Nat) (kto : Nat) (kfrom : Nat) (kkind : Int32) (knumber : Int32) (ksign : Int32) (kfault : Int32) (kplace : Int32) (kword : Int64) (ktold : Int32) (know : Nat) (kread : Nat) (kkept : Nat) (ksnaps : Nat) (kaside : Nat) (kname : Nat) (kreadName : Nat) (kkeptName : Nat) (kisKept : Nat) (konces : Nat) (ksnapMany : Nat) (khasCells : Int32) (kpoured : Nat) (kfar : Nat) (ksides : Nat) (ksideMany : Nat) (kwayDays : Int32) (khasWay : Int32) (klines : Nat) (kmet : Nat) (kmetMany : Nat) (ksunk : Nat) (ktrying : Nat) (ksunkMany : Nat) (ksending : Int32) (kfleets : Int32) (ktext : Nat) (ktexts : Nat) (kseed : Int32) (kline : Nat) (kwritten : Nat) (klineMany : Nat) (khasWritten : Int32) (knode : Nat) (knodes : Nat) (konesMany : Nat) (kwithin : Nat) (ktop : Nat) (knowF : Nat → Int32) (kn0 : Nat → Int32) (bq : Nat) (y : Int32) (y1 : Int32) (iv_ko_0 : ktaped ≤ 940) (iv_ko_1 : ksize ≤ 940) (iv_ko_2 : klimit ≤ 900) (iv_ko_3 : kto ≤ ksize) (iv_ko_4 : kfrom ≤ 940) (iv_ko_5 : ksnapMany ≤ 8) (iv_ko_6 : ksideMany ≤ 36) (iv_ko_7 : kmetMany ≤ 3) (iv_ko_8 : ksunkMany ≤ 36) (iv_ko_9 : ktexts ≤ 64) (iv_ko_10 : klineMany ≤ 40) (iv_ko_11 : knodes ≤ 60) (iv_ko_12 : konesMany ≤ 20) (iv_ko_13 : kwithin ≤ 8) (iv_ko_14 : ktop ≤ 59) (ab_now : NB knowF) (sb_now : SB knowF) (hb6 : bq < 6) (hsd : 0 ≤ y.toInt ∧ y.toInt ≤ 3) (hbs : BSok (knowF (113 + bq)).toInt y.toInt (knowF 0).toInt (knowF 1).toInt) (he0 : HE kn0 knowF) (e2 : y1 = knowF (113 + bq)) (b3 : 0 ≤ y1.toInt) (b4 : y1.toInt ≤ 35) (t11 : ¬ BSok y1.toInt y.toInt (knowF 0).toInt (knowF 1).toInt) : 0 ≤ ((-1 : Int32)).toInt := by
  exfalso
  subst_vars
  contradiction
set_option maxRecDepth 20000 in
theorem lf_e_live1_6   : ((-1 : Int32)).toInt ≤ 35 := by
  try simp only [ia_lt, ia_le, ia_eq, ia_m1, ia_0, ia_1, ne_eq, true_and, and_true, false_and, and_false, or_false, false_or, or_true, true_or, not_true_eq_false, not_false_eq_true] at *
  all_goals omega
set_option maxRecDepth 20000 in
theorem lf_e_live1_7 (knowF : Nat → Int32) (kn0 : Nat → Int32) (bq : Nat) (y : Int32) (y1 : Int32) (ab_now : NB knowF) (sb_now : SB knowF) (hb6 : bq < 6) (hsd : 0 ≤ y.toInt ∧ y.toInt ≤ 3) (hbs : BSok (knowF (113 + bq)).toInt y.toInt (knowF 0).toInt (knowF 1).toInt) (he0 : HE kn0 knowF) (e2 : y1 = knowF (113 + bq)) (b3 : 0 ≤ y1.toInt) (b4 : y1.toInt ≤ 35) (t11 : ¬ BSok y1.toInt y.toInt (knowF 0).toInt (knowF 1).toInt) : (113 + bq) < 373 := by
  have b_y := ia_b y
  have b_y1 := ia_b y1
  try unfold BSok at *
  try simp only [ia_lt, ia_le, ia_eq, ia_m1, ia_0, ia_1, ne_eq, true_and, and_true, false_and, and_false, or_false, false_or, or_true, true_or, not_true_eq_false, not_false_eq_true] at *
  all_goals omega
set_option maxRecDepth 20000 in
theorem lf_e_live1_8 (knowF : Nat → Int32) (kn0 : Nat → Int32) (bq : Nat) (y : Int32) (y1 : Int32) (ab_now : NB knowF) (sb_now : SB knowF) (hb6 : bq < 6) (hsd : 0 ≤ y.toInt ∧ y.toInt ≤ 3) (hbs : BSok (knowF (113 + bq)).toInt y.toInt (knowF 0).toInt (knowF 1).toInt) (he0 : HE kn0 knowF) (e2 : y1 = knowF (113 + bq)) (b3 : 0 ≤ y1.toInt) (b4 : y1.toInt ≤ 35) (t11 : ¬ BSok y1.toInt y.toInt (knowF 0).toInt (knowF 1).toInt) : 107 ≤ (113 + bq) := by
  have b_y := ia_b y
  have b_y1 := ia_b y1
  try unfold BSok at *
  try simp only [ia_lt, ia_le, ia_eq, ia_m1, ia_0, ia_1, ne_eq, true_and, and_true, false_and, and_false, or_false, false_or, or_true, true_or, not_true_eq_false, not_false_eq_true] at *
  all_goals omega
set_option maxRecDepth 20000 in
theorem lf_e_live1_9 (knowF : Nat → Int32) (kn0 : Nat → Int32) (bq : Nat) (y : Int32) (y1 : Int32) (ab_now : NB knowF) (sb_now : SB knowF) (hb6 : bq < 6) (hsd : 0 ≤ y.toInt ∧ y.toInt ≤ 3) (hbs : BSok (knowF (113 + bq)).toInt y.toInt (knowF 0).toInt (knowF 1).toInt) (he0 : HE kn0 knowF) (e2 : y1 = knowF (113 + bq)) (b3 : 0 ≤ y1.toInt) (b4 : y1.toInt ≤ 35) (t11 : ¬ BSok y1.toInt y.toInt (knowF 0).toInt (knowF 1).toInt) : (113 + bq) < 119 := by
  have b_y := ia_b y
  have b_y1 := ia_b y1
  try unfold BSok at *
  try simp only [ia_lt, ia_le, ia_eq, ia_m1, ia_0, ia_1, ne_eq, true_and, and_true, false_and, and_false, or_false, false_or, or_true, true_or, not_true_eq_false, not_false_eq_true] at *
  all_goals omega
set_option maxRecDepth 20000 in
theorem lf_e_live1_10 (knowF : Nat → Int32) (kn0 : Nat → Int32) (bq : Nat) (y : Int32) (y1 : Int32) (ab_now : NB knowF) (sb_now : SB knowF) (hb6 : bq < 6) (hsd : 0 ≤ y.toInt ∧ y.toInt ≤ 3) (hbs : BSok (knowF (113 + bq)).toInt y.toInt (knowF 0).toInt (knowF 1).toInt) (he0 : HE kn0 knowF) (e2 : y1 = knowF (113 + bq)) (b3 : 0 ≤ y1.toInt) (b4 : y1.toInt ≤ 35) (t11 : ¬ BSok y1.toInt y.toInt (knowF 0).toInt (knowF 1).toInt) : 67 ≤ (113 + bq) := by
  have b_y := ia_b y
  have b_y1 := ia_b y1
  try unfold BSok at *
  try simp only [ia_lt, ia_le, ia_eq, ia_m1, ia_0, ia_1, ne_eq, true_and, and_true, false_and, and_false, or_false, false_or, or_true, true_or, not_true_eq_false, not_false_eq_true] at *
  all_goals omega
set_option maxRecDepth 20000 in
theorem lf_e_live1_11 (knowF : Nat → Int32) (kn0 : Nat → Int32) (bq : Nat) (y : Int32) (y1 : Int32) (g12 : Nat → Int32) (y17 : Int32) (ab_now : NB knowF) (sb_now : SB knowF) (hb6 : bq < 6) (hsd : 0 ≤ y.toInt ∧ y.toInt ≤ 3) (hbs : BSok (knowF (113 + bq)).toInt y.toInt (knowF 0).toInt (knowF 1).toInt) (he0 : HE kn0 knowF) (e2 : y1 = knowF (113 + bq)) (b3 : 0 ≤ y1.toInt) (b4 : y1.toInt ≤ 35) (t11 : ¬ BSok y1.toInt y.toInt (knowF 0).toInt (knowF 1).toInt) (nb14 : NB g12) (sb15 : SB g12) (he16 : HE kn0 g12) (e18 : y17 = g12 (119 + bq)) : (119 + bq) < 373 := by
  have b_y := ia_b y
  have b_y1 := ia_b y1
  have b_y17 := ia_b y17
  try unfold BSok at *
  try simp only [ia_lt, ia_le, ia_eq, ia_m1, ia_0, ia_1, ne_eq, true_and, and_true, false_and, and_false, or_false, false_or, or_true, true_or, not_true_eq_false, not_false_eq_true] at *
  all_goals omega
set_option maxRecDepth 20000 in
theorem lf_e_live1_12 (knowF : Nat → Int32) (kn0 : Nat → Int32) (bq : Nat) (y : Int32) (y1 : Int32) (g12 : Nat → Int32) (y17 : Int32) (y19 : Int32) (ab_now : NB knowF) (sb_now : SB knowF) (hb6 : bq < 6) (hsd : 0 ≤ y.toInt ∧ y.toInt ≤ 3) (hbs : BSok (knowF (113 + bq)).toInt y.toInt (knowF 0).toInt (knowF 1).toInt) (he0 : HE kn0 knowF) (e2 : y1 = knowF (113 + bq)) (b3 : 0 ≤ y1.toInt) (b4 : y1.toInt ≤ 35) (t11 : ¬ BSok y1.toInt y.toInt (knowF 0).toInt (knowF 1).toInt) (nb14 : NB g12) (sb15 : SB g12) (he16 : HE kn0 g12) (e18 : y17 = g12 (119 + bq)) (e20 : y19 = g12 (113 + bq)) : (113 + bq) < 373 := by
  have b_y := ia_b y
  have b_y1 := ia_b y1
  have b_y17 := ia_b y17
  have b_y19 := ia_b y19
  try unfold BSok at *
  try simp only [ia_lt, ia_le, ia_eq, ia_m1, ia_0, ia_1, ne_eq, true_and, and_true, false_and, and_false, or_false, false_or, or_true, true_or, not_true_eq_false, not_false_eq_true] at *
  all_goals omega
set_option maxRecDepth 20000 in
theorem lf_e_live1_13 (knowF : Nat → Int32) (kn0 : Nat → Int32) (bq : Nat) (y : Int32) (y1 : Int32) (g12 : Nat → Int32) (y17 : Int32) (y19 : Int32) (ab_now : NB knowF) (sb_now : SB knowF) (hb6 : bq < 6) (hsd : 0 ≤ y.toInt ∧ y.toInt ≤ 3) (hbs : BSok (knowF (113 + bq)).toInt y.toInt (knowF 0).toInt (knowF 1).toInt) (he0 : HE kn0 knowF) (e2 : y1 = knowF (113 + bq)) (b3 : 0 ≤ y1.toInt) (b4 : y1.toInt ≤ 35) (t11 : ¬ BSok y1.toInt y.toInt (knowF 0).toInt (knowF 1).toInt) (nb14 : NB g12) (sb15 : SB g12) (he16 : HE kn0 g12) (e18 : y17 = g12 (119 + bq)) (e20 : y19 = g12 (113 + bq)) : 107 ≤ (113 + bq) := by
  have b_y := ia_b y
  have b_y1 := ia_b y1
  have b_y17 := ia_b y17
  have b_y19 := ia_b y19
  try unfold BSok at *
  try simp only [ia_lt, ia_le, ia_eq, ia_m1, ia_0, ia_1, ne_eq, true_and, and_true, false_and, and_false, or_false, false_or, or_true, true_or, not_true_eq_false, not_false_eq_true] at *
  all_goals omega
set_option maxRecDepth 20000 in
theorem lf_e_live1_14 (knowF : Nat → Int32) (kn0 : Nat → Int32) (bq : Nat) (y : Int32) (y1 : Int32) (g12 : Nat → Int32) (y17 : Int32) (y19 : Int32) (ab_now : NB knowF) (sb_now : SB knowF) (hb6 : bq < 6) (hsd : 0 ≤ y.toInt ∧ y.toInt ≤ 3) (hbs : BSok (knowF (113 + bq)).toInt y.toInt (knowF 0).toInt (knowF 1).toInt) (he0 : HE kn0 knowF) (e2 : y1 = knowF (113 + bq)) (b3 : 0 ≤ y1.toInt) (b4 : y1.toInt ≤ 35) (t11 : ¬ BSok y1.toInt y.toInt (knowF 0).toInt (knowF 1).toInt) (nb14 : NB g12) (sb15 : SB g12) (he16 : HE kn0 g12) (e18 : y17 = g12 (119 + bq)) (e20 : y19 = g12 (113 + bq)) : (113 + bq) < 119 := by
  have b_y := ia_b y
  have b_y1 := ia_b y1
  have b_y17 := ia_b y17
  have b_y19 := ia_b y19
  try unfold BSok at *
  try simp only [ia_lt, ia_le, ia_eq, ia_m1, ia_0, ia_1, ne_eq, true_and, and_true, false_and, and_false, or_false, false_or, or_true, true_or, not_true_eq_false, not_false_eq_true] at *
  all_goals omega
set_option maxRecDepth 20000 in
theorem lf_e_live1_15 (knowF : Nat → Int32) (kn0 : Nat → Int32) (bq : Nat) (y : Int32) (y1 : Int32) (g12 : Nat → Int32) (y17 : Int32) (y19 : Int32) (ab_now : NB knowF) (sb_now : SB knowF) (hb6 : bq < 6) (hsd : 0 ≤ y.toInt ∧ y.toInt ≤ 3) (hbs : BSok (knowF (113 + bq)).toInt y.toInt (knowF 0).toInt (knowF 1).toInt) (he0 : HE kn0 knowF) (e2 : y1 = knowF (113 + bq)) (b3 : 0 ≤ y1.toInt) (b4 : y1.toInt ≤ 35) (t11 : ¬ BSok y1.toInt y.toInt (knowF 0).toInt (knowF 1).toInt) (nb14 : NB g12) (sb15 : SB g12) (he16 : HE kn0 g12) (e18 : y17 = g12 (119 + bq)) (e20 : y19 = g12 (113 + bq)) (b21 : 0 ≤ y19.toInt) (b22 : y19.toInt ≤ 35) : 0 ≤ y19.toInt ∧ y19.toInt ≤ 35 := by
  have b_y := ia_b y
  have b_y1 := ia_b y1
  have b_y17 := ia_b y17
  have b_y19 := ia_b y19
  try unfold BSok at *
  try simp only [ia_lt, ia_le, ia_eq, ia_m1, ia_0, ia_1, ne_eq, true_and, and_true, false_and, and_false, or_false, false_or, or_true, true_or, not_true_eq_false, not_false_eq_true] at *
  all_goals omega
set_option maxRecDepth 20000 in
theorem lf_e_live1_16 (knowF : Nat → Int32) (kn0 : Nat → Int32) (bq : Nat) (y : Int32) (y1 : Int32) (g12 : Nat → Int32) (y17 : Int32) (y19 : Int32) (k25 : Nat) (y29 : Int32) (ab_now : NB knowF) (sb_now : SB knowF) (hb6 : bq < 6) (hsd : 0 ≤ y.toInt ∧ y.toInt ≤ 3) (hbs : BSok (knowF (113 + bq)).toInt y.toInt (knowF 0).toInt (knowF 1).toInt) (he0 : HE kn0 knowF) (e2 : y1 = knowF (113 + bq)) (b3 : 0 ≤ y1.toInt) (b4 : y1.toInt ≤ 35) (t11 : ¬ BSok y1.toInt y.toInt (knowF 0).toInt (knowF 1).toInt) (nb14 : NB g12) (sb15 : SB g12) (he16 : HE kn0 g12) (e18 : y17 = g12 (119 + bq)) (e20 : y19 = g12 (113 + bq)) (b21 : 0 ≤ y19.toInt) (b22 : y19.toInt ≤ 35) (h27 : 1 ≤ k25) (h28 : k25 ≤ 4) (e30 : y29 = y17 - (nI k25)) : -2147483648 ≤ (y29).toInt := by
  have b_y := ia_b y
  have b_y1 := ia_b y1
  have b_y17 := ia_b y17
  have b_y19 := ia_b y19
  have b_y29 := ia_b y29
  try have k_0 := ia_n k25 (by first | decide | omega)
  try unfold BSok at *
  try simp only [ia_lt, ia_le, ia_eq, ia_m1, ia_0, ia_1, ne_eq, true_and, and_true, false_and, and_false, or_false, false_or, or_true, true_or, not_true_eq_false, not_false_eq_true] at *
  all_goals omega
set_option maxRecDepth 20000 in
theorem lf_e_live1_17 (knowF : Nat → Int32) (kn0 : Nat → Int32) (bq : Nat) (y : Int32) (y1 : Int32) (g12 : Nat → Int32) (y17 : Int32) (y19 : Int32) (k25 : Nat) (y29 : Int32) (ab_now : NB knowF) (sb_now : SB knowF) (hb6 : bq < 6) (hsd : 0 ≤ y.toInt ∧ y.toInt ≤ 3) (hbs : BSok (knowF (113 + bq)).toInt y.toInt (knowF 0).toInt (knowF 1).toInt) (he0 : HE kn0 knowF) (e2 : y1 = knowF (113 + bq)) (b3 : 0 ≤ y1.toInt) (b4 : y1.toInt ≤ 35) (t11 : ¬ BSok y1.toInt y.toInt (knowF 0).toInt (knowF 1).toInt) (nb14 : NB g12) (sb15 : SB g12) (he16 : HE kn0 g12) (e18 : y17 = g12 (119 + bq)) (e20 : y19 = g12 (113 + bq)) (b21 : 0 ≤ y19.toInt) (b22 : y19.toInt ≤ 35) (h27 : 1 ≤ k25) (h28 : k25 ≤ 4) (e30 : y29 = y17 - (nI k25)) : (y29).toInt ≤ 2147483647 := by
  have b_y := ia_b y
  have b_y1 := ia_b y1
  have b_y17 := ia_b y17
  have b_y19 := ia_b y19
  have b_y29 := ia_b y29
  try have k_0 := ia_n k25 (by first | decide | omega)
  try unfold BSok at *
  try simp only [ia_lt, ia_le, ia_eq, ia_m1, ia_0, ia_1, ne_eq, true_and, and_true, false_and, and_false, or_false, false_or, or_true, true_or, not_true_eq_false, not_false_eq_true] at *
  all_goals omega
set_option maxRecDepth 20000 in
theorem lf_e_live1_18 (knowF : Nat → Int32) (kn0 : Nat → Int32) (bq : Nat) (y : Int32) (y1 : Int32) (g12 : Nat → Int32) (y17 : Int32) (y19 : Int32) (k25 : Nat) (y29 : Int32) (ab_now : NB knowF) (sb_now : SB knowF) (hb6 : bq < 6) (hsd : 0 ≤ y.toInt ∧ y.toInt ≤ 3) (hbs : BSok (knowF (113 + bq)).toInt y.toInt (knowF 0).toInt (knowF 1).toInt) (he0 : HE kn0 knowF) (e2 : y1 = knowF (113 + bq)) (b3 : 0 ≤ y1.toInt) (b4 : y1.toInt ≤ 35) (t11 : ¬ BSok y1.toInt y.toInt (knowF 0).toInt (knowF 1).toInt) (nb14 : NB g12) (sb15 : SB g12) (he16 : HE kn0 g12) (e18 : y17 = g12 (119 + bq)) (e20 : y19 = g12 (113 + bq)) (b21 : 0 ≤ y19.toInt) (b22 : y19.toInt ≤ 35) (h27 : 1 ≤ k25) (h28 : k25 ≤ 4) (e30 : y29 = y17 - (nI k25)) : (119 + bq) < 373 := by
  have b_y := ia_b y
  have b_y1 := ia_b y1
  have b_y17 := ia_b y17
  have b_y19 := ia_b y19
  have b_y29 := ia_b y29
  try have k_0 := ia_n k25 (by first | decide | omega)
  try unfold BSok at *
  try simp only [ia_lt, ia_le, ia_eq, ia_m1, ia_0, ia_1, ne_eq, true_and, and_true, false_and, and_false, or_false, false_or, or_true, true_or, not_true_eq_false, not_false_eq_true] at *
  all_goals omega
set_option maxRecDepth 20000 in
theorem lf_e_live1_19 (knowF : Nat → Int32) (kn0 : Nat → Int32) (bq : Nat) (y : Int32) (y1 : Int32) (g12 : Nat → Int32) (y17 : Int32) (y19 : Int32) (k25 : Nat) (y29 : Int32) (ab_now : NB knowF) (sb_now : SB knowF) (hb6 : bq < 6) (hsd : 0 ≤ y.toInt ∧ y.toInt ≤ 3) (hbs : BSok (knowF (113 + bq)).toInt y.toInt (knowF 0).toInt (knowF 1).toInt) (he0 : HE kn0 knowF) (e2 : y1 = knowF (113 + bq)) (b3 : 0 ≤ y1.toInt) (b4 : y1.toInt ≤ 35) (t11 : ¬ BSok y1.toInt y.toInt (knowF 0).toInt (knowF 1).toInt) (nb14 : NB g12) (sb15 : SB g12) (he16 : HE kn0 g12) (e18 : y17 = g12 (119 + bq)) (e20 : y19 = g12 (113 + bq)) (b21 : 0 ≤ y19.toInt) (b22 : y19.toInt ≤ 35) (h27 : 1 ≤ k25) (h28 : k25 ≤ 4) (e30 : y29 = y17 - (nI k25)) : 119 ≤ (119 + bq) := by
  have b_y := ia_b y
  have b_y1 := ia_b y1
  have b_y17 := ia_b y17
  have b_y19 := ia_b y19
  have b_y29 := ia_b y29
  try have k_0 := ia_n k25 (by first | decide | omega)
  try unfold BSok at *
  try simp only [ia_lt, ia_le, ia_eq, ia_m1, ia_0, ia_1, ne_eq, true_and, and_true, false_and, and_false, or_false, false_or, or_true, true_or, not_true_eq_false, not_false_eq_true] at *
  all_goals omega
set_option maxRecDepth 20000 in
theorem lf_e_live1_20 (knowF : Nat → Int32) (kn0 : Nat → Int32) (bq : Nat) (y : Int32) (y1 : Int32) (g12 : Nat → Int32) (y17 : Int32) (y19 : Int32) (k25 : Nat) (y29 : Int32) (ab_now : NB knowF) (sb_now : SB knowF) (hb6 : bq < 6) (hsd : 0 ≤ y.toInt ∧ y.toInt ≤ 3) (hbs : BSok (knowF (113 + bq)).toInt y.toInt (knowF 0).toInt (knowF 1).toInt) (he0 : HE kn0 knowF) (e2 : y1 = knowF (113 + bq)) (b3 : 0 ≤ y1.toInt) (b4 : y1.toInt ≤ 35) (t11 : ¬ BSok y1.toInt y.toInt (knowF 0).toInt (knowF 1).toInt) (nb14 : NB g12) (sb15 : SB g12) (he16 : HE kn0 g12) (e18 : y17 = g12 (119 + bq)) (e20 : y19 = g12 (113 + bq)) (b21 : 0 ≤ y19.toInt) (b22 : y19.toInt ≤ 35) (h27 : 1 ≤ k25) (h28 : k25 ≤ 4) (e30 : y29 = y17 - (nI k25)) : (119 + bq) < 132 := by
  have b_y := ia_b y
  have b_y1 := ia_b y1
  have b_y17 := ia_b y17
  have b_y19 := ia_b y19
  have b_y29 := ia_b y29
  try have k_0 := ia_n k25 (by first | decide | omega)
  try unfold BSok at *
  try simp only [ia_lt, ia_le, ia_eq, ia_m1, ia_0, ia_1, ne_eq, true_and, and_true, false_and, and_false, or_false, false_or, or_true, true_or, not_true_eq_false, not_false_eq_true] at *
  all_goals omega
set_option maxRecDepth 20000 in
theorem lf_e_live1_21 (knowF : Nat → Int32) (kn0 : Nat → Int32) (bq : Nat) (y : Int32) (y1 : Int32) (g12 : Nat → Int32) (y17 : Int32) (y19 : Int32) (k25 : Nat) (y29 : Int32) (ab_now : NB knowF) (sb_now : SB knowF) (hb6 : bq < 6) (hsd : 0 ≤ y.toInt ∧ y.toInt ≤ 3) (hbs : BSok (knowF (113 + bq)).toInt y.toInt (knowF 0).toInt (knowF 1).toInt) (he0 : HE kn0 knowF) (e2 : y1 = knowF (113 + bq)) (b3 : 0 ≤ y1.toInt) (b4 : y1.toInt ≤ 35) (t11 : ¬ BSok y1.toInt y.toInt (knowF 0).toInt (knowF 1).toInt) (nb14 : NB g12) (sb15 : SB g12) (he16 : HE kn0 g12) (e18 : y17 = g12 (119 + bq)) (e20 : y19 = g12 (113 + bq)) (b21 : 0 ≤ y19.toInt) (b22 : y19.toInt ≤ 35) (h27 : 1 ≤ k25) (h28 : k25 ≤ 4) (e30 : y29 = y17 - (nI k25)) : 67 ≤ (119 + bq) := by
  have b_y := ia_b y
  have b_y1 := ia_b y1
  have b_y17 := ia_b y17
  have b_y19 := ia_b y19
  have b_y29 := ia_b y29
  try have k_0 := ia_n k25 (by first | decide | omega)
  try unfold BSok at *
  try simp only [ia_lt, ia_le, ia_eq, ia_m1, ia_0, ia_1, ne_eq, true_and, and_true, false_and, and_false, or_false, false_or, or_true, true_or, not_true_eq_false, not_false_eq_true] at *
  all_goals omega
set_option maxRecDepth 20000 in
theorem lf_e_live1_22 (knowF : Nat → Int32) (kn0 : Nat → Int32) (bq : Nat) (y : Int32) (y1 : Int32) (g12 : Nat → Int32) (y17 : Int32) (y19 : Int32) (k25 : Nat) (y29 : Int32) (g31 : Nat → Int32) (y36 : Int32) (y38 : Int32) (ab_now : NB knowF) (sb_now : SB knowF) (hb6 : bq < 6) (hsd : 0 ≤ y.toInt ∧ y.toInt ≤ 3) (hbs : BSok (knowF (113 + bq)).toInt y.toInt (knowF 0).toInt (knowF 1).toInt) (he0 : HE kn0 knowF) (e2 : y1 = knowF (113 + bq)) (b3 : 0 ≤ y1.toInt) (b4 : y1.toInt ≤ 35) (t11 : ¬ BSok y1.toInt y.toInt (knowF 0).toInt (knowF 1).toInt) (nb14 : NB g12) (sb15 : SB g12) (he16 : HE kn0 g12) (e18 : y17 = g12 (119 + bq)) (e20 : y19 = g12 (113 + bq)) (b21 : 0 ≤ y19.toInt) (b22 : y19.toInt ≤ 35) (h27 : 1 ≤ k25) (h28 : k25 ≤ 4) (e30 : y29 = y17 - (nI k25)) (nb33 : NB g31) (sb34 : SB g31) (he35 : HE kn0 g31) (e37 : y36 = g31 70) (e39 : y38 = y36 + (nI 1)) : -2147483648 ≤ (y38).toInt := by
  have b_y := ia_b y
  have b_y1 := ia_b y1
  have b_y17 := ia_b y17
  have b_y19 := ia_b y19
  have b_y29 := ia_b y29
  have b_y36 := ia_b y36
  have b_y38 := ia_b y38
  try have k_0 := ia_n k25 (by first | decide | omega)
  try have k_1 := ia_n 1 (by first | decide | omega)
  try unfold BSok at *
  try simp only [ia_lt, ia_le, ia_eq, ia_m1, ia_0, ia_1, ne_eq, true_and, and_true, false_and, and_false, or_false, false_or, or_true, true_or, not_true_eq_false, not_false_eq_true] at *
  all_goals omega
set_option maxRecDepth 20000 in
theorem lf_e_live1_23 (knowF : Nat → Int32) (kn0 : Nat → Int32) (bq : Nat) (y : Int32) (y1 : Int32) (g12 : Nat → Int32) (y17 : Int32) (y19 : Int32) (k25 : Nat) (y29 : Int32) (g31 : Nat → Int32) (y36 : Int32) (y38 : Int32) (ab_now : NB knowF) (sb_now : SB knowF) (hb6 : bq < 6) (hsd : 0 ≤ y.toInt ∧ y.toInt ≤ 3) (hbs : BSok (knowF (113 + bq)).toInt y.toInt (knowF 0).toInt (knowF 1).toInt) (he0 : HE kn0 knowF) (e2 : y1 = knowF (113 + bq)) (b3 : 0 ≤ y1.toInt) (b4 : y1.toInt ≤ 35) (t11 : ¬ BSok y1.toInt y.toInt (knowF 0).toInt (knowF 1).toInt) (nb14 : NB g12) (sb15 : SB g12) (he16 : HE kn0 g12) (e18 : y17 = g12 (119 + bq)) (e20 : y19 = g12 (113 + bq)) (b21 : 0 ≤ y19.toInt) (b22 : y19.toInt ≤ 35) (h27 : 1 ≤ k25) (h28 : k25 ≤ 4) (e30 : y29 = y17 - (nI k25)) (nb33 : NB g31) (sb34 : SB g31) (he35 : HE kn0 g31) (e37 : y36 = g31 70) (e39 : y38 = y36 + (nI 1)) : (y38).toInt ≤ 2147483647 := by
  have b_y := ia_b y
  have b_y1 := ia_b y1
  have b_y17 := ia_b y17
  have b_y19 := ia_b y19
  have b_y29 := ia_b y29
  have b_y36 := ia_b y36
  have b_y38 := ia_b y38
  try have k_0 := ia_n k25 (by first | decide | omega)
  try have k_1 := ia_n 1 (by first | decide | omega)
  try unfold BSok at *
  try simp only [ia_lt, ia_le, ia_eq, ia_m1, ia_0, ia_1, ne_eq, true_and, and_true, false_and, and_false, or_false, false_or, or_true, true_or, not_true_eq_false, not_false_eq_true] at *
  all_goals omega
set_option maxRecDepth 20000 in
theorem lf_e_live1_24 (k7 : Nat) (h9 : k7 < 36) : 0 ≤ (nI k7).toInt := by
  try have k_0 := ia_n k7 (by first | decide | omega)
  try simp only [ia_lt, ia_le, ia_eq, ia_m1, ia_0, ia_1, ne_eq, true_and, and_true, false_and, and_false, or_false, false_or, or_true, true_or, not_true_eq_false, not_false_eq_true] at *
  all_goals omega
set_option maxRecDepth 20000 in
theorem lf_e_live1_25 (k7 : Nat) (h9 : k7 < 36) : (nI k7).toInt ≤ 35 := by
  try have k_0 := ia_n k7 (by first | decide | omega)
  try simp only [ia_lt, ia_le, ia_eq, ia_m1, ia_0, ia_1, ne_eq, true_and, and_true, false_and, and_false, or_false, false_or, or_true, true_or, not_true_eq_false, not_false_eq_true] at *
  all_goals omega
set_option maxRecDepth 20000 in
theorem lf_e_live1_26 (knowF : Nat → Int32) (kn0 : Nat → Int32) (bq : Nat) (y : Int32) (y1 : Int32) (ab_now : NB knowF) (sb_now : SB knowF) (hb6 : bq < 6) (hsd : 0 ≤ y.toInt ∧ y.toInt ≤ 3) (hbs : BSok (knowF (113 + bq)).toInt y.toInt (knowF 0).toInt (knowF 1).toInt) (he0 : HE kn0 knowF) (e2 : y1 = knowF (113 + bq)) (b3 : 0 ≤ y1.toInt) (b4 : y1.toInt ≤ 35) (h10 : BSok y1.toInt y.toInt (knowF 0).toInt (knowF 1).toInt) : (113 + bq) < 373 := by
  have b_y := ia_b y
  have b_y1 := ia_b y1
  try unfold BSok at *
  try simp only [ia_lt, ia_le, ia_eq, ia_m1, ia_0, ia_1, ne_eq, true_and, and_true, false_and, and_false, or_false, false_or, or_true, true_or, not_true_eq_false, not_false_eq_true] at *
  all_goals omega
set_option maxRecDepth 20000 in
theorem lf_e_live1_27 (knowF : Nat → Int32) (kn0 : Nat → Int32) (bq : Nat) (y : Int32) (y1 : Int32) (ab_now : NB knowF) (sb_now : SB knowF) (hb6 : bq < 6) (hsd : 0 ≤ y.toInt ∧ y.toInt ≤ 3) (hbs : BSok (knowF (113 + bq)).toInt y.toInt (knowF 0).toInt (knowF 1).toInt) (he0 : HE kn0 knowF) (e2 : y1 = knowF (113 + bq)) (b3 : 0 ≤ y1.toInt) (b4 : y1.toInt ≤ 35) (h10 : BSok y1.toInt y.toInt (knowF 0).toInt (knowF 1).toInt) : 107 ≤ (113 + bq) := by
  have b_y := ia_b y
  have b_y1 := ia_b y1
  try unfold BSok at *
  try simp only [ia_lt, ia_le, ia_eq, ia_m1, ia_0, ia_1, ne_eq, true_and, and_true, false_and, and_false, or_false, false_or, or_true, true_or, not_true_eq_false, not_false_eq_true] at *
  all_goals omega
set_option maxRecDepth 20000 in
theorem lf_e_live1_28 (knowF : Nat → Int32) (kn0 : Nat → Int32) (bq : Nat) (y : Int32) (y1 : Int32) (ab_now : NB knowF) (sb_now : SB knowF) (hb6 : bq < 6) (hsd : 0 ≤ y.toInt ∧ y.toInt ≤ 3) (hbs : BSok (knowF (113 + bq)).toInt y.toInt (knowF 0).toInt (knowF 1).toInt) (he0 : HE kn0 knowF) (e2 : y1 = knowF (113 + bq)) (b3 : 0 ≤ y1.toInt) (b4 : y1.toInt ≤ 35) (h10 : BSok y1.toInt y.toInt (knowF 0).toInt (knowF 1).toInt) : (113 + bq) < 119 := by
  have b_y := ia_b y
  have b_y1 := ia_b y1
  try unfold BSok at *
  try simp only [ia_lt, ia_le, ia_eq, ia_m1, ia_0, ia_1, ne_eq, true_and, and_true, false_and, and_false, or_false, false_or, or_true, true_or, not_true_eq_false, not_false_eq_true] at *
  all_goals omega
set_option maxRecDepth 20000 in
theorem lf_e_live1_29 (knowF : Nat → Int32) (kn0 : Nat → Int32) (bq : Nat) (y : Int32) (y1 : Int32) (ab_now : NB knowF) (sb_now : SB knowF) (hb6 : bq < 6) (hsd : 0 ≤ y.toInt ∧ y.toInt ≤ 3) (hbs : BSok (knowF (113 + bq)).toInt y.toInt (knowF 0).toInt (knowF 1).toInt) (he0 : HE kn0 knowF) (e2 : y1 = knowF (113 + bq)) (b3 : 0 ≤ y1.toInt) (b4 : y1.toInt ≤ 35) (h10 : BSok y1.toInt y.toInt (knowF 0).toInt (knowF 1).toInt) : 67 ≤ (113 + bq) := by
  have b_y := ia_b y
  have b_y1 := ia_b y1
  try unfold BSok at *
  try simp only [ia_lt, ia_le, ia_eq, ia_m1, ia_0, ia_1, ne_eq, true_and, and_true, false_and, and_false, or_false, false_or, or_true, true_or, not_true_eq_false, not_false_eq_true] at *
  all_goals omega
set_option maxRecDepth 20000 in
theorem lf_e_live1_30 (knowF : Nat → Int32) (kn0 : Nat → Int32) (bq : Nat) (y : Int32) (y1 : Int32) (g45 : Nat → Int32) (y50 : Int32) (ab_now : NB knowF) (sb_now : SB knowF) (hb6 : bq < 6) (hsd : 0 ≤ y.toInt ∧ y.toInt ≤ 3) (hbs : BSok (knowF (113 + bq)).toInt y.toInt (knowF 0).toInt (knowF 1).toInt) (he0 : HE kn0 knowF) (e2 : y1 = knowF (113 + bq)) (b3 : 0 ≤ y1.toInt) (b4 : y1.toInt ≤ 35) (h10 : BSok y1.toInt y.toInt (knowF 0).toInt (knowF 1).toInt) (nb47 : NB g45) (sb48 : SB g45) (he49 : HE kn0 g45) (e51 : y50 = g45 (119 + bq)) : (119 + bq) < 373 := by
  have b_y := ia_b y
  have b_y1 := ia_b y1
  have b_y50 := ia_b y50
  try unfold BSok at *
  try simp only [ia_lt, ia_le, ia_eq, ia_m1, ia_0, ia_1, ne_eq, true_and, and_true, false_and, and_false, or_false, false_or, or_true, true_or, not_true_eq_false, not_false_eq_true] at *
  all_goals omega
set_option maxRecDepth 20000 in
theorem lf_e_live1_31 (knowF : Nat → Int32) (kn0 : Nat → Int32) (bq : Nat) (y : Int32) (y1 : Int32) (g45 : Nat → Int32) (y50 : Int32) (y52 : Int32) (ab_now : NB knowF) (sb_now : SB knowF) (hb6 : bq < 6) (hsd : 0 ≤ y.toInt ∧ y.toInt ≤ 3) (hbs : BSok (knowF (113 + bq)).toInt y.toInt (knowF 0).toInt (knowF 1).toInt) (he0 : HE kn0 knowF) (e2 : y1 = knowF (113 + bq)) (b3 : 0 ≤ y1.toInt) (b4 : y1.toInt ≤ 35) (h10 : BSok y1.toInt y.toInt (knowF 0).toInt (knowF 1).toInt) (nb47 : NB g45) (sb48 : SB g45) (he49 : HE kn0 g45) (e51 : y50 = g45 (119 + bq)) (e53 : y52 = g45 (113 + bq)) : (113 + bq) < 373 := by
  have b_y := ia_b y
  have b_y1 := ia_b y1
  have b_y50 := ia_b y50
  have b_y52 := ia_b y52
  try unfold BSok at *
  try simp only [ia_lt, ia_le, ia_eq, ia_m1, ia_0, ia_1, ne_eq, true_and, and_true, false_and, and_false, or_false, false_or, or_true, true_or, not_true_eq_false, not_false_eq_true] at *
  all_goals omega
set_option maxRecDepth 20000 in
theorem lf_e_live1_32 (knowF : Nat → Int32) (kn0 : Nat → Int32) (bq : Nat) (y : Int32) (y1 : Int32) (g45 : Nat → Int32) (y50 : Int32) (y52 : Int32) (ab_now : NB knowF) (sb_now : SB knowF) (hb6 : bq < 6) (hsd : 0 ≤ y.toInt ∧ y.toInt ≤ 3) (hbs : BSok (knowF (113 + bq)).toInt y.toInt (knowF 0).toInt (knowF 1).toInt) (he0 : HE kn0 knowF) (e2 : y1 = knowF (113 + bq)) (b3 : 0 ≤ y1.toInt) (b4 : y1.toInt ≤ 35) (h10 : BSok y1.toInt y.toInt (knowF 0).toInt (knowF 1).toInt) (nb47 : NB g45) (sb48 : SB g45) (he49 : HE kn0 g45) (e51 : y50 = g45 (119 + bq)) (e53 : y52 = g45 (113 + bq)) : 107 ≤ (113 + bq) := by
  have b_y := ia_b y
  have b_y1 := ia_b y1
  have b_y50 := ia_b y50
  have b_y52 := ia_b y52
  try unfold BSok at *
  try simp only [ia_lt, ia_le, ia_eq, ia_m1, ia_0, ia_1, ne_eq, true_and, and_true, false_and, and_false, or_false, false_or, or_true, true_or, not_true_eq_false, not_false_eq_true] at *
  all_goals omega
set_option maxRecDepth 20000 in
theorem lf_e_live1_33 (knowF : Nat → Int32) (kn0 : Nat → Int32) (bq : Nat) (y : Int32) (y1 : Int32) (g45 : Nat → Int32) (y50 : Int32) (y52 : Int32) (ab_now : NB knowF) (sb_now : SB knowF) (hb6 : bq < 6) (hsd : 0 ≤ y.toInt ∧ y.toInt ≤ 3) (hbs : BSok (knowF (113 + bq)).toInt y.toInt (knowF 0).toInt (knowF 1).toInt) (he0 : HE kn0 knowF) (e2 : y1 = knowF (113 + bq)) (b3 : 0 ≤ y1.toInt) (b4 : y1.toInt ≤ 35) (h10 : BSok y1.toInt y.toInt (knowF 0).toInt (knowF 1).toInt) (nb47 : NB g45) (sb48 : SB g45) (he49 : HE kn0 g45) (e51 : y50 = g45 (119 + bq)) (e53 : y52 = g45 (113 + bq)) : (113 + bq) < 119 := by
  have b_y := ia_b y
  have b_y1 := ia_b y1
  have b_y50 := ia_b y50
  have b_y52 := ia_b y52
  try unfold BSok at *
  try simp only [ia_lt, ia_le, ia_eq, ia_m1, ia_0, ia_1, ne_eq, true_and, and_true, false_and, and_false, or_false, false_or, or_true, true_or, not_true_eq_false, not_false_eq_true] at *
  all_goals omega
set_option maxRecDepth 20000 in
theorem lf_e_live1_34 (knowF : Nat → Int32) (kn0 : Nat → Int32) (bq : Nat) (y : Int32) (y1 : Int32) (g45 : Nat → Int32) (y50 : Int32) (y52 : Int32) (ab_now : NB knowF) (sb_now : SB knowF) (hb6 : bq < 6) (hsd : 0 ≤ y.toInt ∧ y.toInt ≤ 3) (hbs : BSok (knowF (113 + bq)).toInt y.toInt (knowF 0).toInt (knowF 1).toInt) (he0 : HE kn0 knowF) (e2 : y1 = knowF (113 + bq)) (b3 : 0 ≤ y1.toInt) (b4 : y1.toInt ≤ 35) (h10 : BSok y1.toInt y.toInt (knowF 0).toInt (knowF 1).toInt) (nb47 : NB g45) (sb48 : SB g45) (he49 : HE kn0 g45) (e51 : y50 = g45 (119 + bq)) (e53 : y52 = g45 (113 + bq)) (b54 : 0 ≤ y52.toInt) (b55 : y52.toInt ≤ 35) : 0 ≤ y52.toInt ∧ y52.toInt ≤ 35 := by
  have b_y := ia_b y
  have b_y1 := ia_b y1
  have b_y50 := ia_b y50
  have b_y52 := ia_b y52
  try unfold BSok at *
  try simp only [ia_lt, ia_le, ia_eq, ia_m1, ia_0, ia_1, ne_eq, true_and, and_true, false_and, and_false, or_false, false_or, or_true, true_or, not_true_eq_false, not_false_eq_true] at *
  all_goals omega
set_option maxRecDepth 20000 in
theorem lf_e_live1_35 (knowF : Nat → Int32) (kn0 : Nat → Int32) (bq : Nat) (y : Int32) (y1 : Int32) (g45 : Nat → Int32) (y50 : Int32) (y52 : Int32) (k58 : Nat) (y62 : Int32) (ab_now : NB knowF) (sb_now : SB knowF) (hb6 : bq < 6) (hsd : 0 ≤ y.toInt ∧ y.toInt ≤ 3) (hbs : BSok (knowF (113 + bq)).toInt y.toInt (knowF 0).toInt (knowF 1).toInt) (he0 : HE kn0 knowF) (e2 : y1 = knowF (113 + bq)) (b3 : 0 ≤ y1.toInt) (b4 : y1.toInt ≤ 35) (h10 : BSok y1.toInt y.toInt (knowF 0).toInt (knowF 1).toInt) (nb47 : NB g45) (sb48 : SB g45) (he49 : HE kn0 g45) (e51 : y50 = g45 (119 + bq)) (e53 : y52 = g45 (113 + bq)) (b54 : 0 ≤ y52.toInt) (b55 : y52.toInt ≤ 35) (h60 : 1 ≤ k58) (h61 : k58 ≤ 4) (e63 : y62 = y50 - (nI k58)) : -2147483648 ≤ (y62).toInt := by
  have b_y := ia_b y
  have b_y1 := ia_b y1
  have b_y50 := ia_b y50
  have b_y52 := ia_b y52
  have b_y62 := ia_b y62
  try have k_0 := ia_n k58 (by first | decide | omega)
  try unfold BSok at *
  try simp only [ia_lt, ia_le, ia_eq, ia_m1, ia_0, ia_1, ne_eq, true_and, and_true, false_and, and_false, or_false, false_or, or_true, true_or, not_true_eq_false, not_false_eq_true] at *
  all_goals omega
set_option maxRecDepth 20000 in
theorem lf_e_live1_36 (knowF : Nat → Int32) (kn0 : Nat → Int32) (bq : Nat) (y : Int32) (y1 : Int32) (g45 : Nat → Int32) (y50 : Int32) (y52 : Int32) (k58 : Nat) (y62 : Int32) (ab_now : NB knowF) (sb_now : SB knowF) (hb6 : bq < 6) (hsd : 0 ≤ y.toInt ∧ y.toInt ≤ 3) (hbs : BSok (knowF (113 + bq)).toInt y.toInt (knowF 0).toInt (knowF 1).toInt) (he0 : HE kn0 knowF) (e2 : y1 = knowF (113 + bq)) (b3 : 0 ≤ y1.toInt) (b4 : y1.toInt ≤ 35) (h10 : BSok y1.toInt y.toInt (knowF 0).toInt (knowF 1).toInt) (nb47 : NB g45) (sb48 : SB g45) (he49 : HE kn0 g45) (e51 : y50 = g45 (119 + bq)) (e53 : y52 = g45 (113 + bq)) (b54 : 0 ≤ y52.toInt) (b55 : y52.toInt ≤ 35) (h60 : 1 ≤ k58) (h61 : k58 ≤ 4) (e63 : y62 = y50 - (nI k58)) : (y62).toInt ≤ 2147483647 := by
  have b_y := ia_b y
  have b_y1 := ia_b y1
  have b_y50 := ia_b y50
  have b_y52 := ia_b y52
  have b_y62 := ia_b y62
  try have k_0 := ia_n k58 (by first | decide | omega)
  try unfold BSok at *
  try simp only [ia_lt, ia_le, ia_eq, ia_m1, ia_0, ia_1, ne_eq, true_and, and_true, false_and, and_false, or_false, false_or, or_true, true_or, not_true_eq_false, not_false_eq_true] at *
  all_goals omega
set_option maxRecDepth 20000 in
theorem lf_e_live1_37 (knowF : Nat → Int32) (kn0 : Nat → Int32) (bq : Nat) (y : Int32) (y1 : Int32) (g45 : Nat → Int32) (y50 : Int32) (y52 : Int32) (k58 : Nat) (y62 : Int32) (ab_now : NB knowF) (sb_now : SB knowF) (hb6 : bq < 6) (hsd : 0 ≤ y.toInt ∧ y.toInt ≤ 3) (hbs : BSok (knowF (113 + bq)).toInt y.toInt (knowF 0).toInt (knowF 1).toInt) (he0 : HE kn0 knowF) (e2 : y1 = knowF (113 + bq)) (b3 : 0 ≤ y1.toInt) (b4 : y1.toInt ≤ 35) (h10 : BSok y1.toInt y.toInt (knowF 0).toInt (knowF 1).toInt) (nb47 : NB g45) (sb48 : SB g45) (he49 : HE kn0 g45) (e51 : y50 = g45 (119 + bq)) (e53 : y52 = g45 (113 + bq)) (b54 : 0 ≤ y52.toInt) (b55 : y52.toInt ≤ 35) (h60 : 1 ≤ k58) (h61 : k58 ≤ 4) (e63 : y62 = y50 - (nI k58)) : (119 + bq) < 373 := by
  have b_y := ia_b y
  have b_y1 := ia_b y1
  have b_y50 := ia_b y50
  have b_y52 := ia_b y52
  have b_y62 := ia_b y62
  try have k_0 := ia_n k58 (by first | decide | omega)
  try unfold BSok at *
  try simp only [ia_lt, ia_le, ia_eq, ia_m1, ia_0, ia_1, ne_eq, true_and, and_true, false_and, and_false, or_false, false_or, or_true, true_or, not_true_eq_false, not_false_eq_true] at *
  all_goals omega
set_option maxRecDepth 20000 in
theorem lf_e_live1_38 (knowF : Nat → Int32) (kn0 : Nat → Int32) (bq : Nat) (y : Int32) (y1 : Int32) (g45 : Nat → Int32) (y50 : Int32) (y52 : Int32) (k58 : Nat) (y62 : Int32) (ab_now : NB knowF) (sb_now : SB knowF) (hb6 : bq < 6) (hsd : 0 ≤ y.toInt ∧ y.toInt ≤ 3) (hbs : BSok (knowF (113 + bq)).toInt y.toInt (knowF 0).toInt (knowF 1).toInt) (he0 : HE kn0 knowF) (e2 : y1 = knowF (113 + bq)) (b3 : 0 ≤ y1.toInt) (b4 : y1.toInt ≤ 35) (h10 : BSok y1.toInt y.toInt (knowF 0).toInt (knowF 1).toInt) (nb47 : NB g45) (sb48 : SB g45) (he49 : HE kn0 g45) (e51 : y50 = g45 (119 + bq)) (e53 : y52 = g45 (113 + bq)) (b54 : 0 ≤ y52.toInt) (b55 : y52.toInt ≤ 35) (h60 : 1 ≤ k58) (h61 : k58 ≤ 4) (e63 : y62 = y50 - (nI k58)) : 119 ≤ (119 + bq) := by
  have b_y := ia_b y
  have b_y1 := ia_b y1
  have b_y50 := ia_b y50
  have b_y52 := ia_b y52
  have b_y62 := ia_b y62
  try have k_0 := ia_n k58 (by first | decide | omega)
  try unfold BSok at *
  try simp only [ia_lt, ia_le, ia_eq, ia_m1, ia_0, ia_1, ne_eq, true_and, and_true, false_and, and_false, or_false, false_or, or_true, true_or, not_true_eq_false, not_false_eq_true] at *
  all_goals omega
set_option maxRecDepth 20000 in
theorem lf_e_live1_39 (knowF : Nat → Int32) (kn0 : Nat → Int32) (bq : Nat) (y : Int32) (y1 : Int32) (g45 : Nat → Int32) (y50 : Int32) (y52 : Int32) (k58 : Nat) (y62 : Int32) (ab_now : NB knowF) (sb_now : SB knowF) (hb6 : bq < 6) (hsd : 0 ≤ y.toInt ∧ y.toInt ≤ 3) (hbs : BSok (knowF (113 + bq)).toInt y.toInt (knowF 0).toInt (knowF 1).toInt) (he0 : HE kn0 knowF) (e2 : y1 = knowF (113 + bq)) (b3 : 0 ≤ y1.toInt) (b4 : y1.toInt ≤ 35) (h10 : BSok y1.toInt y.toInt (knowF 0).toInt (knowF 1).toInt) (nb47 : NB g45) (sb48 : SB g45) (he49 : HE kn0 g45) (e51 : y50 = g45 (119 + bq)) (e53 : y52 = g45 (113 + bq)) (b54 : 0 ≤ y52.toInt) (b55 : y52.toInt ≤ 35) (h60 : 1 ≤ k58) (h61 : k58 ≤ 4) (e63 : y62 = y50 - (nI k58)) : (119 + bq) < 132 := by
  have b_y := ia_b y
  have b_y1 := ia_b y1
  have b_y50 := ia_b y50
  have b_y52 := ia_b y52
  have b_y62 := ia_b y62
  try have k_0 := ia_n k58 (by first | decide | omega)
  try unfold BSok at *
  try simp only [ia_lt, ia_le, ia_eq, ia_m1, ia_0, ia_1, ne_eq, true_and, and_true, false_and, and_false, or_false, false_or, or_true, true_or, not_true_eq_false, not_false_eq_true] at *
  all_goals omega
set_option maxRecDepth 20000 in
theorem lf_e_live1_40 (knowF : Nat → Int32) (kn0 : Nat → Int32) (bq : Nat) (y : Int32) (y1 : Int32) (g45 : Nat → Int32) (y50 : Int32) (y52 : Int32) (k58 : Nat) (y62 : Int32) (ab_now : NB knowF) (sb_now : SB knowF) (hb6 : bq < 6) (hsd : 0 ≤ y.toInt ∧ y.toInt ≤ 3) (hbs : BSok (knowF (113 + bq)).toInt y.toInt (knowF 0).toInt (knowF 1).toInt) (he0 : HE kn0 knowF) (e2 : y1 = knowF (113 + bq)) (b3 : 0 ≤ y1.toInt) (b4 : y1.toInt ≤ 35) (h10 : BSok y1.toInt y.toInt (knowF 0).toInt (knowF 1).toInt) (nb47 : NB g45) (sb48 : SB g45) (he49 : HE kn0 g45) (e51 : y50 = g45 (119 + bq)) (e53 : y52 = g45 (113 + bq)) (b54 : 0 ≤ y52.toInt) (b55 : y52.toInt ≤ 35) (h60 : 1 ≤ k58) (h61 : k58 ≤ 4) (e63 : y62 = y50 - (nI k58)) : 67 ≤ (119 + bq) := by
  have b_y := ia_b y
  have b_y1 := ia_b y1
  have b_y50 := ia_b y50
  have b_y52 := ia_b y52
  have b_y62 := ia_b y62
  try have k_0 := ia_n k58 (by first | decide | omega)
  try unfold BSok at *
  try simp only [ia_lt, ia_le, ia_eq, ia_m1, ia_0, ia_1, ne_eq, true_and, and_true, false_and, and_false, or_false, false_or, or_true, true_or, not_true_eq_false, not_false_eq_true] at *
  all_goals omega
set_option maxRecDepth 20000 in
theorem lf_e_live1_41 (knowF : Nat → Int32) (kn0 : Nat → Int32) (bq : Nat) (y : Int32) (y1 : Int32) (g45 : Nat → Int32) (y50 : Int32) (y52 : Int32) (k58 : Nat) (y62 : Int32) (g64 : Nat → Int32) (y69 : Int32) (y71 : Int32) (ab_now : NB knowF) (sb_now : SB knowF) (hb6 : bq < 6) (hsd : 0 ≤ y.toInt ∧ y.toInt ≤ 3) (hbs : BSok (knowF (113 + bq)).toInt y.toInt (knowF 0).toInt (knowF 1).toInt) (he0 : HE kn0 knowF) (e2 : y1 = knowF (113 + bq)) (b3 : 0 ≤ y1.toInt) (b4 : y1.toInt ≤ 35) (h10 : BSok y1.toInt y.toInt (knowF 0).toInt (knowF 1).toInt) (nb47 : NB g45) (sb48 : SB g45) (he49 : HE kn0 g45) (e51 : y50 = g45 (119 + bq)) (e53 : y52 = g45 (113 + bq)) (b54 : 0 ≤ y52.toInt) (b55 : y52.toInt ≤ 35) (h60 : 1 ≤ k58) (h61 : k58 ≤ 4) (e63 : y62 = y50 - (nI k58)) (nb66 : NB g64) (sb67 : SB g64) (he68 : HE kn0 g64) (e70 : y69 = g64 70) (e72 : y71 = y69 + (nI 1)) : -2147483648 ≤ (y71).toInt := by
  have b_y := ia_b y
  have b_y1 := ia_b y1
  have b_y50 := ia_b y50
  have b_y52 := ia_b y52
  have b_y62 := ia_b y62
  have b_y69 := ia_b y69
  have b_y71 := ia_b y71
  try have k_0 := ia_n k58 (by first | decide | omega)
  try have k_1 := ia_n 1 (by first | decide | omega)
  try unfold BSok at *
  try simp only [ia_lt, ia_le, ia_eq, ia_m1, ia_0, ia_1, ne_eq, true_and, and_true, false_and, and_false, or_false, false_or, or_true, true_or, not_true_eq_false, not_false_eq_true] at *
  all_goals omega
set_option maxRecDepth 20000 in
theorem lf_e_live1_42 (knowF : Nat → Int32) (kn0 : Nat → Int32) (bq : Nat) (y : Int32) (y1 : Int32) (g45 : Nat → Int32) (y50 : Int32) (y52 : Int32) (k58 : Nat) (y62 : Int32) (g64 : Nat → Int32) (y69 : Int32) (y71 : Int32) (ab_now : NB knowF) (sb_now : SB knowF) (hb6 : bq < 6) (hsd : 0 ≤ y.toInt ∧ y.toInt ≤ 3) (hbs : BSok (knowF (113 + bq)).toInt y.toInt (knowF 0).toInt (knowF 1).toInt) (he0 : HE kn0 knowF) (e2 : y1 = knowF (113 + bq)) (b3 : 0 ≤ y1.toInt) (b4 : y1.toInt ≤ 35) (h10 : BSok y1.toInt y.toInt (knowF 0).toInt (knowF 1).toInt) (nb47 : NB g45) (sb48 : SB g45) (he49 : HE kn0 g45) (e51 : y50 = g45 (119 + bq)) (e53 : y52 = g45 (113 + bq)) (b54 : 0 ≤ y52.toInt) (b55 : y52.toInt ≤ 35) (h60 : 1 ≤ k58) (h61 : k58 ≤ 4) (e63 : y62 = y50 - (nI k58)) (nb66 : NB g64) (sb67 : SB g64) (he68 : HE kn0 g64) (e70 : y69 = g64 70) (e72 : y71 = y69 + (nI 1)) : (y71).toInt ≤ 2147483647 := by
  have b_y := ia_b y
  have b_y1 := ia_b y1
  have b_y50 := ia_b y50
  have b_y52 := ia_b y52
  have b_y62 := ia_b y62
  have b_y69 := ia_b y69
  have b_y71 := ia_b y71
  try have k_0 := ia_n k58 (by first | decide | omega)
  try have k_1 := ia_n 1 (by first | decide | omega)
  try unfold BSok at *
  try simp only [ia_lt, ia_le, ia_eq, ia_m1, ia_0, ia_1, ne_eq, true_and, and_true, false_and, and_false, or_false, false_or, or_true, true_or, not_true_eq_false, not_false_eq_true] at *
  all_goals omega
set_option maxHeartbeats 4000000 in
set_option maxRecDepth 100000 in
theorem c_e_live1 (l : Launch) (dC : Nat → ClassId) (dI : Nat → Nat → Nat) (ky : Nat → ClassId) (sz : Nat) (o : Nat) (kthrown : Int32) (ktape : Nat) (ktaped : Nat) (ksize : Nat) (klimit : Nat) (kto : Nat) (kfrom : Nat) (kkind : Int32) (knumber : Int32) (ksign : Int32) (kfault : Int32) (kplace : Int32) (kword : Int64) (ktold : Int32) (know : Nat) (kread : Nat) (kkept : Nat) (ksnaps : Nat) (kaside : Nat) (kname : Nat) (kreadName : Nat) (kkeptName : Nat) (kisKept : Nat) (konces : Nat) (ksnapMany : Nat) (khasCells : Int32) (kpoured : Nat) (kfar : Nat) (ksides : Nat) (ksideMany : Nat) (kwayDays : Int32) (khasWay : Int32) (klines : Nat) (kmet : Nat) (kmetMany : Nat) (ksunk : Nat) (ktrying : Nat) (ksunkMany : Nat) (ksending : Int32) (kfleets : Int32) (ktext : Nat) (ktexts : Nat) (kseed : Int32) (kline : Nat) (kwritten : Nat) (klineMany : Nat) (khasWritten : Int32) (knode : Nat) (knodes : Nat) (konesMany : Nat) (kwithin : Nat) (ktop : Nat) (knowF : Nat → Int32) (kn0 : Nat → Int32) (bq : Nat) (y : Int32) (iv_ko_0 : ktaped ≤ 940) (iv_ko_1 : ksize ≤ 940) (iv_ko_2 : klimit ≤ 900) (iv_ko_3 : kto ≤ ksize) (iv_ko_4 : kfrom ≤ 940) (iv_ko_5 : ksnapMany ≤ 8) (iv_ko_6 : ksideMany ≤ 36) (iv_ko_7 : kmetMany ≤ 3) (iv_ko_8 : ksunkMany ≤ 36) (iv_ko_9 : ktexts ≤ 64) (iv_ko_10 : klineMany ≤ 40) (iv_ko_11 : knodes ≤ 60) (iv_ko_12 : konesMany ≤ 20) (iv_ko_13 : kwithin ≤ 8) (iv_ko_14 : ktop ≤ 59) (ab_now : NB knowF) (sb_now : SB knowF) (hb6 : bq < 6) (hsd : 0 ≤ y.toInt ∧ y.toInt ≤ 3) (hbs : BSok (knowF (113 + bq)).toInt y.toInt (knowF 0).toInt (knowF 1).toInt) (he0 : HE kn0 knowF) : Met l yX12_live wsX12_live ({ frames := 3, cells := 0, slots := 0, locals := 68 }) (PcU dC dI ky [.ref o, .int (nI 1), .int (nI bq), .int y] [(o, .inr (12, [.int kthrown, .ref ktape, .int (nI ktaped), .int (nI ksize), .int (nI klimit), .int (nI kto), .int (nI kfrom), .int kkind, .int knumber, .int ksign, .int kfault, .int kplace, .long kword, .int ktold, .ref know, .ref kread, .ref kkept, .ref ksnaps, .ref kaside, .ref kname, .ref kreadName, .ref kkeptName, .ref kisKept, .ref konces, .int (nI ksnapMany), .int khasCells, .ref kpoured, .ref kfar, .ref ksides, .int (nI ksideMany), .int kwayDays, .int khasWay, .ref klines, .ref kmet, .int (nI kmetMany), .ref ksunk, .ref ktrying, .int (nI ksunkMany), .int ksending, .int kfleets, .ref ktext, .int (nI ktexts), .int kseed, .ref kline, .ref kwritten, .int (nI klineMany), .int khasWritten, .ref knode, .int (nI knodes), .int (nI konesMany), .int (nI kwithin), .int (nI ktop)])), (know, .inl (ky 0, 373, .inl knowF))] sz) (va_Qv (fun (knowG : (Nat → Int32)) => (NB knowG) ∧ (SB knowG) ∧ (HE kn0 knowG)) (BU dC dI ky (fun (knowG : (Nat → Int32)) => [(o, .inr (12, [.int kthrown, .ref ktape, .int (nI ktaped), .int (nI ksize), .int (nI klimit), .int (nI kto), .int (nI kfrom), .int kkind, .int knumber, .int ksign, .int kfault, .int kplace, .long kword, .int ktold, .ref know, .ref kread, .ref kkept, .ref ksnaps, .ref kaside, .ref kname, .ref kreadName, .ref kkeptName, .ref kisKept, .ref konces, .int (nI ksnapMany), .int khasCells, .ref kpoured, .ref kfar, .ref ksides, .int (nI ksideMany), .int kwayDays, .int khasWay, .ref klines, .ref kmet, .int (nI kmetMany), .ref ksunk, .ref ktrying, .int (nI ksunkMany), .int ksending, .int kfleets, .ref ktext, .int (nI ktexts), .int kseed, .ref kline, .ref kwritten, .int (nI klineMany), .int khasWritten, .ref knode, .int (nI knodes), .int (nI konesMany), .int (nI kwithin), .int (nI ktop)])), (know, .inl (ky 0, 373, .inl knowG))]) (va_A [(o, .inr (12, [.int kthrown, .ref ktape, .int (nI ktaped), .int (nI ksize), .int (nI klimit), .int (nI kto), .int (nI kfrom), .int kkind, .int knumber, .int ksign, .int kfault, .int kplace, .long kword, .int ktold, .ref know, .ref kread, .ref kkept, .ref ksnaps, .ref kaside, .ref kname, .ref kreadName, .ref kkeptName, .ref kisKept, .ref konces, .int (nI ksnapMany), .int khasCells, .ref kpoured, .ref kfar, .ref ksides, .int (nI ksideMany), .int kwayDays, .int khasWay, .ref klines, .ref kmet, .int (nI kmetMany), .ref ksunk, .ref ktrying, .int (nI ksunkMany), .int ksending, .int kfleets, .ref ktext, .int (nI ktexts), .int kseed, .ref kline, .ref kwritten, .int (nI klineMany), .int khasWritten, .ref knode, .int (nI knodes), .int (nI konesMany), .int (nI kwithin), .int (nI ktop)])), (know, .inl (ky 0, 373, .inl knowF))] sz)) (va_A [(o, .inr (12, [.int kthrown, .ref ktape, .int (nI ktaped), .int (nI ksize), .int (nI klimit), .int (nI kto), .int (nI kfrom), .int kkind, .int knumber, .int ksign, .int kfault, .int kplace, .long kword, .int ktold, .ref know, .ref kread, .ref kkept, .ref ksnaps, .ref kaside, .ref kname, .ref kreadName, .ref kkeptName, .ref kisKept, .ref konces, .int (nI ksnapMany), .int khasCells, .ref kpoured, .ref kfar, .ref ksides, .int (nI ksideMany), .int kwayDays, .int khasWay, .ref klines, .ref kmet, .int (nI kmetMany), .ref ksunk, .ref ktrying, .int (nI ksunkMany), .int ksending, .int kfleets, .ref ktext, .int (nI ktexts), .int kseed, .ref kline, .ref kwritten, .int (nI klineMany), .int khasWritten, .ref knode, .int (nI knodes), .int (nI konesMany), .int (nI kwithin), .int (nI ktop)])), (know, .inl (ky 0, 373, .inl knowF))] sz)) 0 0 (va_A [(o, .inr (12, [.int kthrown, .ref ktape, .int (nI ktaped), .int (nI ksize), .int (nI klimit), .int (nI kto), .int (nI kfrom), .int kkind, .int knumber, .int ksign, .int kfault, .int kplace, .long kword, .int ktold, .ref know, .ref kread, .ref kkept, .ref ksnaps, .ref kaside, .ref kname, .ref kreadName, .ref kkeptName, .ref kisKept, .ref konces, .int (nI ksnapMany), .int khasCells, .ref kpoured, .ref kfar, .ref ksides, .int (nI ksideMany), .int kwayDays, .int khasWay, .ref klines, .ref kmet, .int (nI kmetMany), .ref ksunk, .ref ktrying, .int (nI ksunkMany), .int ksending, .int kfleets, .ref ktext, .int (nI ktexts), .int kseed, .ref kline, .ref kwritten, .int (nI klineMany), .int khasWritten, .ref knode, .int (nI knodes), .int (nI konesMany), .int (nI kwithin), .int (nI ktop)])), (know, .inl (ky 0, 373, .inl knowF))] sz) := by
  refine Met.ofW (cc := cX12_live) (maxL := 4) (ret := none) (by decide) rfl ?_
  intro p e s m args below meth c s₁ B hml hv
  obtain ⟨rfl, hsz, hP, hK, hD0⟩ := hv
  have hx := B.exec
  have hb := B.bytes
  have hr := B.returns
  have hts := atoms_spec (ws := wsX12_live) B.pre
  have hown : s.vm.findClass RX12 = some m.cls := findClass_of_methodNamed B.named
  have hlocks := B.notSynchronized
  have hin12 : ∀ w ∈ u_ws RX12 TX12 52, w ∈ wsX12_live := by decide +kernel
  subst hsz
  have hD := hD0.self (sz := s.heap.size)
  generalize hAe : va_A [(o, .inr (12, [.int kthrown, .ref ktape, .int (nI ktaped), .int (nI ksize), .int (nI klimit), .int (nI kto), .int (nI kfrom), .int kkind, .int knumber, .int ksign, .int kfault, .int kplace, .long kword, .int ktold, .ref know, .ref kread, .ref kkept, .ref ksnaps, .ref kaside, .ref kname, .ref kreadName, .ref kkeptName, .ref kisKept, .ref konces, .int (nI ksnapMany), .int khasCells, .ref kpoured, .ref kfar, .ref ksides, .int (nI ksideMany), .int kwayDays, .int khasWay, .ref klines, .ref kmet, .int (nI kmetMany), .ref ksunk, .ref ktrying, .int (nI ksunkMany), .int ksending, .int kfleets, .ref ktext, .int (nI ktexts), .int kseed, .ref kline, .ref kwritten, .int (nI klineMany), .int khasWritten, .ref knode, .int (nI knodes), .int (nI konesMany), .int (nI kwithin), .int (nI ktop)])), (know, .inl (ky 0, 373, .inl knowF))] s.heap.size = A at hD ⊢
  have hA : ∀ q : Nat, s.heap.size ≤ q → A q := fun q h => by rw [← hAe]; exact Or.inr h
  have hS : va_S A s.heap s.heap [] := va_S.rf
  have hl := lv_entry ([.ref o, .int (nI 1), .int (nI bq), .int y]) (n := 4) (Nat.le_of_ble_eq_true rfl)
  rw [lg_entry_eq]
  generalize (lg_sl ([.ref o, .int (nI 1), .int (nI bq), .int y]) ++ List.replicate (4 - (lg_sl ([.ref o, .int (nI 1), .int (nI bq), .int y])).length) Slot.unset).toArray = ls at hl ⊢
  have hl : lv_has ls 4 [(0, .ref o), (1, .int (nI 1)), (2, .int (nI bq)), (3, .int y)] := hl
  refine q_name (fun Q hQ => ?_)
  generalize ([.ref o, .int (nI 1), .int (nI bq), .int y] : List Value).toArray = args at hts hQ ⊢
  refine lv_iload_n hx hb dX12_live_0 rfl (lv_at hl 1 rfl) ?_
  refine lv_tableIn (off := 37) (tgt := 38) hx hb dX12_live_1 (by decide) (by decide) rfl (by decide) ?_
  refine lv_aload_n hx hb dX12_live_38 rfl (lv_at hl 0 rfl) ?_
  refine va_get (D := (dC, dI)) (ci := 12) (v := .ref know) (C := RX12) (T := TX12) (N := 52) hx hb hts hin12 hown hK hP 0 rfl rfl 14 (by decide) (hts (.fieldLink RX12 98 "PorridgeSeaModel" "now" "[I") (List.mem_of_getElem? (i := 1) rfl)) (fun _ h9 => h9) rfl dX12_live_39 ?_
  refine lv_bipush (v := nI 113) hx hb dX12_live_42 (by decide) ?_
  refine lv_iload_n hx hb dX12_live_44 rfl (lv_at hl 2 rfl) ?_
  refine lv_iadd hx hb dX12_live_45 ?_
  refine r_ti (nI (113 + bq)) (nI_add _ _) ?_
  refine lv_aload_n hx hb dX12_live_46 rfl (lv_at hl 0 rfl) ?_
  refine lv_aload_n hx hb dX12_live_47 rfl (lv_at hl 0 rfl) ?_
  refine va_get (D := (dC, dI)) (ci := 12) (v := .ref know) (C := RX12) (T := TX12) (N := 52) hx hb hts hin12 hown hK hP 0 rfl rfl 14 (by decide) (hts (.fieldLink RX12 98 "PorridgeSeaModel" "now" "[I") (List.mem_of_getElem? (i := 1) rfl)) (fun _ h9 => h9) rfl dX12_live_48 ?_
  refine lv_bipush (v := nI 113) hx hb dX12_live_51 (by decide) ?_
  refine lv_iload_n hx hb dX12_live_53 rfl (lv_at hl 2 rfl) ?_
  refine lv_iadd hx hb dX12_live_54 ?_
  refine r_ti (nI (113 + bq)) (nI_add _ _) ?_
  obtain ⟨y1, e2⟩ : ∃ z9, z9 = knowF (113 + bq) := ⟨_, rfl⟩
  refine r_iald hx hb hK hP 1 rfl (113 + bq) (lf_e_live1_1 knowF kn0 bq y y1 ab_now sb_now hb6 hsd hbs he0 e2) (by decide) y1 e2.symm dX12_live_55 ?_
  obtain ⟨b3, b4⟩ : (0 : Int) ≤ y1.toInt ∧ y1.toInt ≤ 35 := by rw [e2]; exact ld_NB_107 ab_now (113 + bq) (lf_e_live1_2 knowF kn0 bq y y1 ab_now sb_now hb6 hsd hbs he0 e2) (lf_e_live1_3 knowF kn0 bq y y1 ab_now sb_now hb6 hsd hbs he0 e2)
  refine lv_iload_n hx hb dX12_live_56 rfl (lv_at hl 3 rfl) ?_
  refine vp_callSi (W.runV (As := [.int y1, .int y]) (rest := [.int (nI (113 + bq)), .ref know]) ⟨hx, hb, hml, hown, hts⟩ (c_x_beside l dC dI ky o kthrown ktape ktaped ksize klimit kto kfrom kkind knumber ksign kfault kplace kword ktold know kread kkept ksnaps kaside kname kreadName kkeptName kisKept konces ksnapMany khasCells kpoured kfar ksides ksideMany kwayDays khasWay klines kmet kmetMany ksunk ktrying ksunkMany ksending kfleets ktext ktexts kseed kline kwritten klineMany khasWritten knode knodes konesMany kwithin ktop knowF y1 y iv_ko_0 iv_ko_1 iv_ko_2 iv_ko_3 iv_ko_4 iv_ko_5 iv_ko_6 iv_ko_7 iv_ko_8 iv_ko_9 iv_ko_10 iv_ko_11 iv_ko_12 iv_ko_13 iv_ko_14 ab_now (lf_e_live1_4 knowF kn0 bq y y1 ab_now sb_now hb6 hsd hbs he0 e2 b3 b4) hsd) (cwV 2 hts gX12_live_X12_beside rfl rfl rfl (by decide +kernel) ⟨(Nat.le_of_ble_eq_true rfl), (Nat.le_of_ble_eq_true rfl)⟩) (pre_PV hK hP [0, 1] rfl (ci := 12) (q0 := 0) rfl rfl) rfl rfl hl.1 rfl (lv_room (Nat.le_of_ble_eq_true rfl)) dX12_live_57 ⟨(Nat.le_of_ble_eq_true rfl), (Nat.le_of_ble_eq_true rfl)⟩) (fun r5 p6 => ?_)
  rcases p6 with ⟨rfl, t11⟩ | ⟨k7, ⟨h9, h10⟩, rfl⟩
  · refine r_iast (x := (-1 : Int32)) hx hb hK hP hD hS 1 rfl (113 + bq) (lf_e_live1_7 knowF kn0 bq y y1 ab_now sb_now hb6 hsd hbs he0 e2 b3 b4 t11) (by decide) dX12_live_60 (fun H locs hP hD hS => ?_)
    obtain ⟨g12, e13⟩ : ∃ z9, z9 = upd knowF (113 + bq) (-1 : Int32) := ⟨_, rfl⟩
    rw [← e13] at hP hD
    have nb14 : NB g12 := by rw [e13]; exact st_NB_107 ab_now (113 + bq) (lf_e_live1_8 knowF kn0 bq y y1 ab_now sb_now hb6 hsd hbs he0 e2 b3 b4 t11) (lf_e_live1_9 knowF kn0 bq y y1 ab_now sb_now hb6 hsd hbs he0 e2 b3 b4 t11) (lf_e_live1_5 o kthrown ktape ktaped ksize klimit kto kfrom kkind knumber ksign kfault kplace kword ktold know kread kkept ksnaps kaside kname kreadName kkeptName kisKept konces ksnapMany khasCells kpoured kfar ksides ksideMany kwayDays khasWay klines kmet kmetMany ksunk ktrying ksunkMany ksending kfleets ktext ktexts kseed kline kwritten klineMany khasWritten knode knodes konesMany kwithin ktop knowF kn0 bq y y1 iv_ko_0 iv_ko_1 iv_ko_2 iv_ko_3 iv_ko_4 iv_ko_5 iv_ko_6 iv_ko_7 iv_ko_8 iv_ko_9 iv_ko_10 iv_ko_11 iv_ko_12 iv_ko_13 iv_ko_14 ab_now sb_now hb6 hsd hbs he0 e2 b3 b4 t11) (lf_e_live1_6)
    have sb15 : SB g12 := by rw [e13]; exact SB_lo sb_now _ _ (by omega)
    have he16 : HE kn0 g12 := by rw [e13]; exact HE_upd he0 (lf_e_live1_10 knowF kn0 bq y y1 ab_now sb_now hb6 hsd hbs he0 e2 b3 b4 t11) _
    have hP : va_P (dC, dI) vwCl [(o, .inr (12, [.int kthrown, .ref ktape, .int (nI ktaped), .int (nI ksize), .int (nI klimit), .int (nI kto), .int (nI kfrom), .int kkind, .int knumber, .int ksign, .int kfault, .int kplace, .long kword, .int ktold, .ref know, .ref kread, .ref kkept, .ref ksnaps, .ref kaside, .ref kname, .ref kreadName, .ref kkeptName, .ref kisKept, .ref konces, .int (nI ksnapMany), .int khasCells, .ref kpoured, .ref kfar, .ref ksides, .int (nI ksideMany), .int kwayDays, .int khasWay, .ref klines, .ref kmet, .int (nI kmetMany), .ref ksunk, .ref ktrying, .int (nI ksunkMany), .int ksending, .int kfleets, .ref ktext, .int (nI ktexts), .int kseed, .ref kline, .ref kwritten, .int (nI klineMany), .int khasWritten, .ref knode, .int (nI knodes), .int (nI konesMany), .int (nI kwithin), .int (nI ktop)])), (know, .inl (ky 0, 373, .inl g12))] H := hP
    have hD : va_D A [(o, .inr (12, [.int kthrown, .ref ktape, .int (nI ktaped), .int (nI ksize), .int (nI klimit), .int (nI kto), .int (nI kfrom), .int kkind, .int knumber, .int ksign, .int kfault, .int kplace, .long kword, .int ktold, .ref know, .ref kread, .ref kkept, .ref ksnaps, .ref kaside, .ref kname, .ref kreadName, .ref kkeptName, .ref kisKept, .ref konces, .int (nI ksnapMany), .int khasCells, .ref kpoured, .ref kfar, .ref ksides, .int (nI ksideMany), .int kwayDays, .int khasWay, .ref klines, .ref kmet, .int (nI kmetMany), .ref ksunk, .ref ktrying, .int (nI ksunkMany), .int ksending, .int kfleets, .ref ktext, .int (nI ktexts), .int kseed, .ref kline, .ref kwritten, .int (nI klineMany), .int khasWritten, .ref knode, .int (nI knodes), .int (nI konesMany), .int (nI kwithin), .int (nI ktop)])), (know, .inl (ky 0, 373, .inl g12))] := hD
    refine lv_aload_n hx hb dX12_live_61 rfl (lv_at hl 0 rfl) ?_
    refine va_get (D := (dC, dI)) (ci := 12) (v := .ref know) (C := RX12) (T := TX12) (N := 52) hx hb hts hin12 hown hK hP 0 rfl rfl 14 (by decide) (hts (.fieldLink RX12 98 "PorridgeSeaModel" "now" "[I") (List.mem_of_getElem? (i := 1) rfl)) (fun _ h9 => h9) rfl dX12_live_62 ?_
    refine lv_bipush (v := nI 119) hx hb dX12_live_65 (by decide) ?_
    refine lv_iload_n hx hb dX12_live_67 rfl (lv_at hl 2 rfl) ?_
    refine lv_iadd hx hb dX12_live_68 ?_
    refine r_ti (nI (119 + bq)) (nI_add _ _) ?_
    refine lv_dup2_11 hx hb dX12_live_69 rfl rfl ?_
    obtain ⟨y17, e18⟩ : ∃ z9, z9 = g12 (119 + bq) := ⟨_, rfl⟩
    refine r_iald hx hb hK hP 1 rfl (119 + bq) (lf_e_live1_11 knowF kn0 bq y y1 g12 y17 ab_now sb_now hb6 hsd hbs he0 e2 b3 b4 t11 nb14 sb15 he16 e18) (by decide) y17 e18.symm dX12_live_70 ?_
    refine lv_aload_n hx hb dX12_live_71 rfl (lv_at hl 0 rfl) ?_
    refine lv_aload_n hx hb dX12_live_72 rfl (lv_at hl 0 rfl) ?_
    refine va_get (D := (dC, dI)) (ci := 12) (v := .ref know) (C := RX12) (T := TX12) (N := 52) hx hb hts hin12 hown hK hP 0 rfl rfl 14 (by decide) (hts (.fieldLink RX12 98 "PorridgeSeaModel" "now" "[I") (List.mem_of_getElem? (i := 1) rfl)) (fun _ h9 => h9) rfl dX12_live_73 ?_
    refine lv_bipush (v := nI 113) hx hb dX12_live_76 (by decide) ?_
    refine lv_iload_n hx hb dX12_live_78 rfl (lv_at hl 2 rfl) ?_
    refine lv_iadd hx hb dX12_live_79 ?_
    refine r_ti (nI (113 + bq)) (nI_add _ _) ?_
    obtain ⟨y19, e20⟩ : ∃ z9, z9 = g12 (113 + bq) := ⟨_, rfl⟩
    refine r_iald hx hb hK hP 1 rfl (113 + bq) (lf_e_live1_12 knowF kn0 bq y y1 g12 y17 y19 ab_now sb_now hb6 hsd hbs he0 e2 b3 b4 t11 nb14 sb15 he16 e18 e20) (by decide) y19 e20.symm dX12_live_80 ?_
    obtain ⟨b21, b22⟩ : (0 : Int) ≤ y19.toInt ∧ y19.toInt ≤ 35 := by rw [e20]; exact ld_NB_107 nb14 (113 + bq) (lf_e_live1_13 knowF kn0 bq y y1 g12 y17 y19 ab_now sb_now hb6 hsd hbs he0 e2 b3 b4 t11 nb14 sb15 he16 e18 e20) (lf_e_live1_14 knowF kn0 bq y y1 g12 y17 y19 ab_now sb_now hb6 hsd hbs he0 e2 b3 b4 t11 nb14 sb15 he16 e18 e20)
    refine vp_callSi (W.runV (As := [.int y19]) (rest := [.int y17, .int (nI (119 + bq)), .ref know]) ⟨hx, hb, hml, hown, hts⟩ (c_x_costOf l dC dI ky o kthrown ktape ktaped ksize klimit kto kfrom kkind knumber ksign kfault kplace kword ktold know kread kkept ksnaps kaside kname kreadName kkeptName kisKept konces ksnapMany khasCells kpoured kfar ksides ksideMany kwayDays khasWay klines kmet kmetMany ksunk ktrying ksunkMany ksending kfleets ktext ktexts kseed kline kwritten klineMany khasWritten knode knodes konesMany kwithin ktop g12 y19 iv_ko_0 iv_ko_1 iv_ko_2 iv_ko_3 iv_ko_4 iv_ko_5 iv_ko_6 iv_ko_7 iv_ko_8 iv_ko_9 iv_ko_10 iv_ko_11 iv_ko_12 iv_ko_13 iv_ko_14 nb14 (lf_e_live1_15 knowF kn0 bq y y1 g12 y17 y19 ab_now sb_now hb6 hsd hbs he0 e2 b3 b4 t11 nb14 sb15 he16 e18 e20 b21 b22)) (cwV 1 hts gX12_live_X12_costOf rfl rfl rfl (by decide +kernel) ⟨(Nat.le_of_ble_eq_true rfl), (Nat.le_of_ble_eq_true rfl)⟩) (pre_PV hK hP [0, 1] rfl (ci := 12) (q0 := 0) rfl rfl) rfl rfl hl.1 rfl (lv_room (Nat.le_of_ble_eq_true rfl)) dX12_live_81 ⟨(Nat.le_of_ble_eq_true rfl), (Nat.le_of_ble_eq_true rfl)⟩) (fun r23 p24 => ?_)
    obtain ⟨k25, ⟨h27, h28⟩, rfl⟩ := p24
    refine lv_isub hx hb dX12_live_84 ?_
    refine lv_topi (fun y29 e30 => ?_)
    refine r_iast (x := y29) hx hb hK hP hD hS 1 rfl (119 + bq) (lf_e_live1_18 knowF kn0 bq y y1 g12 y17 y19 k25 y29 ab_now sb_now hb6 hsd hbs he0 e2 b3 b4 t11 nb14 sb15 he16 e18 e20 b21 b22 h27 h28 e30) (by decide) dX12_live_85 (fun H locs hP hD hS => ?_)
    obtain ⟨g31, e32⟩ : ∃ z9, z9 = upd g12 (119 + bq) y29 := ⟨_, rfl⟩
    rw [← e32] at hP hD
    have nb33 : NB g31 := by rw [e32]; exact st_NB_119 nb14 (119 + bq) (lf_e_live1_19 knowF kn0 bq y y1 g12 y17 y19 k25 y29 ab_now sb_now hb6 hsd hbs he0 e2 b3 b4 t11 nb14 sb15 he16 e18 e20 b21 b22 h27 h28 e30) (lf_e_live1_20 knowF kn0 bq y y1 g12 y17 y19 k25 y29 ab_now sb_now hb6 hsd hbs he0 e2 b3 b4 t11 nb14 sb15 he16 e18 e20 b21 b22 h27 h28 e30) (lf_e_live1_16 knowF kn0 bq y y1 g12 y17 y19 k25 y29 ab_now sb_now hb6 hsd hbs he0 e2 b3 b4 t11 nb14 sb15 he16 e18 e20 b21 b22 h27 h28 e30) (lf_e_live1_17 knowF kn0 bq y y1 g12 y17 y19 k25 y29 ab_now sb_now hb6 hsd hbs he0 e2 b3 b4 t11 nb14 sb15 he16 e18 e20 b21 b22 h27 h28 e30)
    have sb34 : SB g31 := by rw [e32]; exact SB_lo sb15 _ _ (by omega)
    have he35 : HE kn0 g31 := by rw [e32]; exact HE_upd he16 (lf_e_live1_21 knowF kn0 bq y y1 g12 y17 y19 k25 y29 ab_now sb_now hb6 hsd hbs he0 e2 b3 b4 t11 nb14 sb15 he16 e18 e20 b21 b22 h27 h28 e30) _
    have hP : va_P (dC, dI) vwCl [(o, .inr (12, [.int kthrown, .ref ktape, .int (nI ktaped), .int (nI ksize), .int (nI klimit), .int (nI kto), .int (nI kfrom), .int kkind, .int knumber, .int ksign, .int kfault, .int kplace, .long kword, .int ktold, .ref know, .ref kread, .ref kkept, .ref ksnaps, .ref kaside, .ref kname, .ref kreadName, .ref kkeptName, .ref kisKept, .ref konces, .int (nI ksnapMany), .int khasCells, .ref kpoured, .ref kfar, .ref ksides, .int (nI ksideMany), .int kwayDays, .int khasWay, .ref klines, .ref kmet, .int (nI kmetMany), .ref ksunk, .ref ktrying, .int (nI ksunkMany), .int ksending, .int kfleets, .ref ktext, .int (nI ktexts), .int kseed, .ref kline, .ref kwritten, .int (nI klineMany), .int khasWritten, .ref knode, .int (nI knodes), .int (nI konesMany), .int (nI kwithin), .int (nI ktop)])), (know, .inl (ky 0, 373, .inl g31))] H := hP
    have hD : va_D A [(o, .inr (12, [.int kthrown, .ref ktape, .int (nI ktaped), .int (nI ksize), .int (nI klimit), .int (nI kto), .int (nI kfrom), .int kkind, .int knumber, .int ksign, .int kfault, .int kplace, .long kword, .int ktold, .ref know, .ref kread, .ref kkept, .ref ksnaps, .ref kaside, .ref kname, .ref kreadName, .ref kkeptName, .ref kisKept, .ref konces, .int (nI ksnapMany), .int khasCells, .ref kpoured, .ref kfar, .ref ksides, .int (nI ksideMany), .int kwayDays, .int khasWay, .ref klines, .ref kmet, .int (nI kmetMany), .ref ksunk, .ref ktrying, .int (nI ksunkMany), .int ksending, .int kfleets, .ref ktext, .int (nI ktexts), .int kseed, .ref kline, .ref kwritten, .int (nI klineMany), .int khasWritten, .ref knode, .int (nI knodes), .int (nI konesMany), .int (nI kwithin), .int (nI ktop)])), (know, .inl (ky 0, 373, .inl g31))] := hD
    refine lv_aload_n hx hb dX12_live_86 rfl (lv_at hl 0 rfl) ?_
    refine va_get (D := (dC, dI)) (ci := 12) (v := .ref know) (C := RX12) (T := TX12) (N := 52) hx hb hts hin12 hown hK hP 0 rfl rfl 14 (by decide) (hts (.fieldLink RX12 98 "PorridgeSeaModel" "now" "[I") (List.mem_of_getElem? (i := 1) rfl)) (fun _ h9 => h9) rfl dX12_live_87 ?_
    refine lv_bipush (v := nI 70) hx hb dX12_live_90 (by decide) ?_
    refine lv_dup2_11 hx hb dX12_live_92 rfl rfl ?_
    obtain ⟨y36, e37⟩ : ∃ z9, z9 = g31 70 := ⟨_, rfl⟩
    refine r_iald hx hb hK hP 1 rfl 70 (by decide) (by decide) y36 e37.symm dX12_live_93 ?_
    refine lv_iconst (v := nI 1) hx hb dX12_live_94 (by decide) ?_
    refine lv_iadd hx hb dX12_live_95 ?_
    refine lv_topi (fun y38 e39 => ?_)
    refine r_iast (x := y38) hx hb hK hP hD hS 1 rfl 70 (by decide) (by decide) dX12_live_96 (fun H locs hP hD hS => ?_)
    obtain ⟨g40, e41⟩ : ∃ z9, z9 = upd g31 70 y38 := ⟨_, rfl⟩
    rw [← e41] at hP hD
    have nb42 : NB g40 := by rw [e41]; exact st_NB_67 nb33 70 (by decide) (by decide) (lf_e_live1_22 knowF kn0 bq y y1 g12 y17 y19 k25 y29 g31 y36 y38 ab_now sb_now hb6 hsd hbs he0 e2 b3 b4 t11 nb14 sb15 he16 e18 e20 b21 b22 h27 h28 e30 nb33 sb34 he35 e37 e39) (lf_e_live1_23 knowF kn0 bq y y1 g12 y17 y19 k25 y29 g31 y36 y38 ab_now sb_now hb6 hsd hbs he0 e2 b3 b4 t11 nb14 sb15 he16 e18 e20 b21 b22 h27 h28 e30 nb33 sb34 he35 e37 e39)
    have sb43 : SB g40 := by rw [e41]; exact SB_lo sb34 _ _ (by omega)
    have he44 : HE kn0 g40 := by rw [e41]; exact HE_upd he35 (by decide) _
    have hP : va_P (dC, dI) vwCl [(o, .inr (12, [.int kthrown, .ref ktape, .int (nI ktaped), .int (nI ksize), .int (nI klimit), .int (nI kto), .int (nI kfrom), .int kkind, .int knumber, .int ksign, .int kfault, .int kplace, .long kword, .int ktold, .ref know, .ref kread, .ref kkept, .ref ksnaps, .ref kaside, .ref kname, .ref kreadName, .ref kkeptName, .ref kisKept, .ref konces, .int (nI ksnapMany), .int khasCells, .ref kpoured, .ref kfar, .ref ksides, .int (nI ksideMany), .int kwayDays, .int khasWay, .ref klines, .ref kmet, .int (nI kmetMany), .ref ksunk, .ref ktrying, .int (nI ksunkMany), .int ksending, .int kfleets, .ref ktext, .int (nI ktexts), .int kseed, .ref kline, .ref kwritten, .int (nI klineMany), .int khasWritten, .ref knode, .int (nI knodes), .int (nI konesMany), .int (nI kwithin), .int (nI ktop)])), (know, .inl (ky 0, 373, .inl g40))] H := hP
    have hD : va_D A [(o, .inr (12, [.int kthrown, .ref ktape, .int (nI ktaped), .int (nI ksize), .int (nI klimit), .int (nI kto), .int (nI kfrom), .int kkind, .int knumber, .int ksign, .int kfault, .int kplace, .long kword, .int ktold, .ref know, .ref kread, .ref kkept, .ref ksnaps, .ref kaside, .ref kname, .ref kreadName, .ref kkeptName, .ref kisKept, .ref konces, .int (nI ksnapMany), .int khasCells, .ref kpoured, .ref kfar, .ref ksides, .int (nI ksideMany), .int kwayDays, .int khasWay, .ref klines, .ref kmet, .int (nI kmetMany), .ref ksunk, .ref ktrying, .int (nI ksunkMany), .int ksending, .int kfleets, .ref ktext, .int (nI ktexts), .int kseed, .ref kline, .ref kwritten, .int (nI klineMany), .int khasWritten, .ref knode, .int (nI knodes), .int (nI konesMany), .int (nI kwithin), .int (nI ktop)])), (know, .inl (ky 0, 373, .inl g40))] := hD
    rw [hQ]
    exact W.vret hx hb hr (fun t9 ht9 hW9 => ⟨⟨g40, rfl, ⟨nb42, sb43, he44⟩, by rw [ht9]; exact hP, va_K.moved hW9.alike hK, hD⟩, hS.F ht9⟩) hS.2.2 dX12_live_97
  · refine r_iast (x := (nI k7)) hx hb hK hP hD hS 1 rfl (113 + bq) (lf_e_live1_26 knowF kn0 bq y y1 ab_now sb_now hb6 hsd hbs he0 e2 b3 b4 h10) (by decide) dX12_live_60 (fun H locs hP hD hS => ?_)
    obtain ⟨g45, e46⟩ : ∃ z9, z9 = upd knowF (113 + bq) (nI k7) := ⟨_, rfl⟩
    rw [← e46] at hP hD
    have nb47 : NB g45 := by rw [e46]; exact st_NB_107 ab_now (113 + bq) (lf_e_live1_27 knowF kn0 bq y y1 ab_now sb_now hb6 hsd hbs he0 e2 b3 b4 h10) (lf_e_live1_28 knowF kn0 bq y y1 ab_now sb_now hb6 hsd hbs he0 e2 b3 b4 h10) (lf_e_live1_24 k7 h9) (lf_e_live1_25 k7 h9)
    have sb48 : SB g45 := by rw [e46]; exact SB_lo sb_now _ _ (by omega)
    have he49 : HE kn0 g45 := by rw [e46]; exact HE_upd he0 (lf_e_live1_29 knowF kn0 bq y y1 ab_now sb_now hb6 hsd hbs he0 e2 b3 b4 h10) _
    have hP : va_P (dC, dI) vwCl [(o, .inr (12, [.int kthrown, .ref ktape, .int (nI ktaped), .int (nI ksize), .int (nI klimit), .int (nI kto), .int (nI kfrom), .int kkind, .int knumber, .int ksign, .int kfault, .int kplace, .long kword, .int ktold, .ref know, .ref kread, .ref kkept, .ref ksnaps, .ref kaside, .ref kname, .ref kreadName, .ref kkeptName, .ref kisKept, .ref konces, .int (nI ksnapMany), .int khasCells, .ref kpoured, .ref kfar, .ref ksides, .int (nI ksideMany), .int kwayDays, .int khasWay, .ref klines, .ref kmet, .int (nI kmetMany), .ref ksunk, .ref ktrying, .int (nI ksunkMany), .int ksending, .int kfleets, .ref ktext, .int (nI ktexts), .int kseed, .ref kline, .ref kwritten, .int (nI klineMany), .int khasWritten, .ref knode, .int (nI knodes), .int (nI konesMany), .int (nI kwithin), .int (nI ktop)])), (know, .inl (ky 0, 373, .inl g45))] H := hP
    have hD : va_D A [(o, .inr (12, [.int kthrown, .ref ktape, .int (nI ktaped), .int (nI ksize), .int (nI klimit), .int (nI kto), .int (nI kfrom), .int kkind, .int knumber, .int ksign, .int kfault, .int kplace, .long kword, .int ktold, .ref know, .ref kread, .ref kkept, .ref ksnaps, .ref kaside, .ref kname, .ref kreadName, .ref kkeptName, .ref kisKept, .ref konces, .int (nI ksnapMany), .int khasCells, .ref kpoured, .ref kfar, .ref ksides, .int (nI ksideMany), .int kwayDays, .int khasWay, .ref klines, .ref kmet, .int (nI kmetMany), .ref ksunk, .ref ktrying, .int (nI ksunkMany), .int ksending, .int kfleets, .ref ktext, .int (nI ktexts), .int kseed, .ref kline, .ref kwritten, .int (nI klineMany), .int khasWritten, .ref knode, .int (nI knodes), .int (nI konesMany), .int (nI kwithin), .int (nI ktop)])), (know, .inl (ky 0, 373, .inl g45))] := hD
    refine lv_aload_n hx hb dX12_live_61 rfl (lv_at hl 0 rfl) ?_
    refine va_get (D := (dC, dI)) (ci := 12) (v := .ref know) (C := RX12) (T := TX12) (N := 52) hx hb hts hin12 hown hK hP 0 rfl rfl 14 (by decide) (hts (.fieldLink RX12 98 "PorridgeSeaModel" "now" "[I") (List.mem_of_getElem? (i := 1) rfl)) (fun _ h9 => h9) rfl dX12_live_62 ?_
    refine lv_bipush (v := nI 119) hx hb dX12_live_65 (by decide) ?_
    refine lv_iload_n hx hb dX12_live_67 rfl (lv_at hl 2 rfl) ?_
    refine lv_iadd hx hb dX12_live_68 ?_
    refine r_ti (nI (119 + bq)) (nI_add _ _) ?_
    refine lv_dup2_11 hx hb dX12_live_69 rfl rfl ?_
    obtain ⟨y50, e51⟩ : ∃ z9, z9 = g45 (119 + bq) := ⟨_, rfl⟩
    refine r_iald hx hb hK hP 1 rfl (119 + bq) (lf_e_live1_30 knowF kn0 bq y y1 g45 y50 ab_now sb_now hb6 hsd hbs he0 e2 b3 b4 h10 nb47 sb48 he49 e51) (by decide) y50 e51.symm dX12_live_70 ?_
    refine lv_aload_n hx hb dX12_live_71 rfl (lv_at hl 0 rfl) ?_
    refine lv_aload_n hx hb dX12_live_72 rfl (lv_at hl 0 rfl) ?_
    refine va_get (D := (dC, dI)) (ci := 12) (v := .ref know) (C := RX12) (T := TX12) (N := 52) hx hb hts hin12 hown hK hP 0 rfl rfl 14 (by decide) (hts (.fieldLink RX12 98 "PorridgeSeaModel" "now" "[I") (List.mem_of_getElem? (i := 1) rfl)) (fun _ h9 => h9) rfl dX12_live_73 ?_
    refine lv_bipush (v := nI 113) hx hb dX12_live_76 (by decide) ?_
    refine lv_iload_n hx hb dX12_live_78 rfl (lv_at hl 2 rfl) ?_
    refine lv_iadd hx hb dX12_live_79 ?_
    refine r_ti (nI (113 + bq)) (nI_add _ _) ?_
    obtain ⟨y52, e53⟩ : ∃ z9, z9 = g45 (113 + bq) := ⟨_, rfl⟩
    refine r_iald hx hb hK hP 1 rfl (113 + bq) (lf_e_live1_31 knowF kn0 bq y y1 g45 y50 y52 ab_now sb_now hb6 hsd hbs he0 e2 b3 b4 h10 nb47 sb48 he49 e51 e53) (by decide) y52 e53.symm dX12_live_80 ?_
    obtain ⟨b54, b55⟩ : (0 : Int) ≤ y52.toInt ∧ y52.toInt ≤ 35 := by rw [e53]; exact ld_NB_107 nb47 (113 + bq) (lf_e_live1_32 knowF kn0 bq y y1 g45 y50 y52 ab_now sb_now hb6 hsd hbs he0 e2 b3 b4 h10 nb47 sb48 he49 e51 e53) (lf_e_live1_33 knowF kn0 bq y y1 g45 y50 y52 ab_now sb_now hb6 hsd hbs he0 e2 b3 b4 h10 nb47 sb48 he49 e51 e53)
    refine vp_callSi (W.runV (As := [.int y52]) (rest := [.int y50, .int (nI (119 + bq)), .ref know]) ⟨hx, hb, hml, hown, hts⟩ (c_x_costOf l dC dI ky o kthrown ktape ktaped ksize klimit kto kfrom kkind knumber ksign kfault kplace kword ktold know kread kkept ksnaps kaside kname kreadName kkeptName kisKept konces ksnapMany khasCells kpoured kfar ksides ksideMany kwayDays khasWay klines kmet kmetMany ksunk ktrying ksunkMany ksending kfleets ktext ktexts kseed kline kwritten klineMany khasWritten knode knodes konesMany kwithin ktop g45 y52 iv_ko_0 iv_ko_1 iv_ko_2 iv_ko_3 iv_ko_4 iv_ko_5 iv_ko_6 iv_ko_7 iv_ko_8 iv_ko_9 iv_ko_10 iv_ko_11 iv_ko_12 iv_ko_13 iv_ko_14 nb47 (lf_e_live1_34 knowF kn0 bq y y1 g45 y50 y52 ab_now sb_now hb6 hsd hbs he0 e2 b3 b4 h10 nb47 sb48 he49 e51 e53 b54 b55)) (cwV 1 hts gX12_live_X12_costOf rfl rfl rfl (by decide +kernel) ⟨(Nat.le_of_ble_eq_true rfl), (Nat.le_of_ble_eq_true rfl)⟩) (pre_PV hK hP [0, 1] rfl (ci := 12) (q0 := 0) rfl rfl) rfl rfl hl.1 rfl (lv_room (Nat.le_of_ble_eq_true rfl)) dX12_live_81 ⟨(Nat.le_of_ble_eq_true rfl), (Nat.le_of_ble_eq_true rfl)⟩) (fun r56 p57 => ?_)
    obtain ⟨k58, ⟨h60, h61⟩, rfl⟩ := p57
    refine lv_isub hx hb dX12_live_84 ?_
    refine lv_topi (fun y62 e63 => ?_)
    refine r_iast (x := y62) hx hb hK hP hD hS 1 rfl (119 + bq) (lf_e_live1_37 knowF kn0 bq y y1 g45 y50 y52 k58 y62 ab_now sb_now hb6 hsd hbs he0 e2 b3 b4 h10 nb47 sb48 he49 e51 e53 b54 b55 h60 h61 e63) (by decide) dX12_live_85 (fun H locs hP hD hS => ?_)
    obtain ⟨g64, e65⟩ : ∃ z9, z9 = upd g45 (119 + bq) y62 := ⟨_, rfl⟩
    rw [← e65] at hP hD
    have nb66 : NB g64 := by rw [e65]; exact st_NB_119 nb47 (119 + bq) (lf_e_live1_38 knowF kn0 bq y y1 g45 y50 y52 k58 y62 ab_now sb_now hb6 hsd hbs he0 e2 b3 b4 h10 nb47 sb48 he49 e51 e53 b54 b55 h60 h61 e63) (lf_e_live1_39 knowF kn0 bq y y1 g45 y50 y52 k58 y62 ab_now sb_now hb6 hsd hbs he0 e2 b3 b4 h10 nb47 sb48 he49 e51 e53 b54 b55 h60 h61 e63) (lf_e_live1_35 knowF kn0 bq y y1 g45 y50 y52 k58 y62 ab_now sb_now hb6 hsd hbs he0 e2 b3 b4 h10 nb47 sb48 he49 e51 e53 b54 b55 h60 h61 e63) (lf_e_live1_36 knowF kn0 bq y y1 g45 y50 y52 k58 y62 ab_now sb_now hb6 hsd hbs he0 e2 b3 b4 h10 nb47 sb48 he49 e51 e53 b54 b55 h60 h61 e63)
    have sb67 : SB g64 := by rw [e65]; exact SB_lo sb48 _ _ (by omega)
    have he68 : HE kn0 g64 := by rw [e65]; exact HE_upd he49 (lf_e_live1_40 knowF kn0 bq y y1 g45 y50 y52 k58 y62 ab_now sb_now hb6 hsd hbs he0 e2 b3 b4 h10 nb47 sb48 he49 e51 e53 b54 b55 h60 h61 e63) _
    have hP : va_P (dC, dI) vwCl [(o, .inr (12, [.int kthrown, .ref ktape, .int (nI ktaped), .int (nI ksize), .int (nI klimit), .int (nI kto), .int (nI kfrom), .int kkind, .int knumber, .int ksign, .int kfault, .int kplace, .long kword, .int ktold, .ref know, .ref kread, .ref kkept, .ref ksnaps, .ref kaside, .ref kname, .ref kreadName, .ref kkeptName, .ref kisKept, .ref konces, .int (nI ksnapMany), .int khasCells, .ref kpoured, .ref kfar, .ref ksides, .int (nI ksideMany), .int kwayDays, .int khasWay, .ref klines, .ref kmet, .int (nI kmetMany), .ref ksunk, .ref ktrying, .int (nI ksunkMany), .int ksending, .int kfleets, .ref ktext, .int (nI ktexts), .int kseed, .ref kline, .ref kwritten, .int (nI klineMany), .int khasWritten, .ref knode, .int (nI knodes), .int (nI konesMany), .int (nI kwithin), .int (nI ktop)])), (know, .inl (ky 0, 373, .inl g64))] H := hP
    have hD : va_D A [(o, .inr (12, [.int kthrown, .ref ktape, .int (nI ktaped), .int (nI ksize), .int (nI klimit), .int (nI kto), .int (nI kfrom), .int kkind, .int knumber, .int ksign, .int kfault, .int kplace, .long kword, .int ktold, .ref know, .ref kread, .ref kkept, .ref ksnaps, .ref kaside, .ref kname, .ref kreadName, .ref kkeptName, .ref kisKept, .ref konces, .int (nI ksnapMany), .int khasCells, .ref kpoured, .ref kfar, .ref ksides, .int (nI ksideMany), .int kwayDays, .int khasWay, .ref klines, .ref kmet, .int (nI kmetMany), .ref ksunk, .ref ktrying, .int (nI ksunkMany), .int ksending, .int kfleets, .ref ktext, .int (nI ktexts), .int kseed, .ref kline, .ref kwritten, .int (nI klineMany), .int khasWritten, .ref knode, .int (nI knodes), .int (nI konesMany), .int (nI kwithin), .int (nI ktop)])), (know, .inl (ky 0, 373, .inl g64))] := hD
    refine lv_aload_n hx hb dX12_live_86 rfl (lv_at hl 0 rfl) ?_
    refine va_get (D := (dC, dI)) (ci := 12) (v := .ref know) (C := RX12) (T := TX12) (N := 52) hx hb hts hin12 hown hK hP 0 rfl rfl 14 (by decide) (hts (.fieldLink RX12 98 "PorridgeSeaModel" "now" "[I") (List.mem_of_getElem? (i := 1) rfl)) (fun _ h9 => h9) rfl dX12_live_87 ?_
    refine lv_bipush (v := nI 70) hx hb dX12_live_90 (by decide) ?_
    refine lv_dup2_11 hx hb dX12_live_92 rfl rfl ?_
    obtain ⟨y69, e70⟩ : ∃ z9, z9 = g64 70 := ⟨_, rfl⟩
    refine r_iald hx hb hK hP 1 rfl 70 (by decide) (by decide) y69 e70.symm dX12_live_93 ?_
    refine lv_iconst (v := nI 1) hx hb dX12_live_94 (by decide) ?_
    refine lv_iadd hx hb dX12_live_95 ?_
    refine lv_topi (fun y71 e72 => ?_)
    refine r_iast (x := y71) hx hb hK hP hD hS 1 rfl 70 (by decide) (by decide) dX12_live_96 (fun H locs hP hD hS => ?_)
    obtain ⟨g73, e74⟩ : ∃ z9, z9 = upd g64 70 y71 := ⟨_, rfl⟩
    rw [← e74] at hP hD
    have nb75 : NB g73 := by rw [e74]; exact st_NB_67 nb66 70 (by decide) (by decide) (lf_e_live1_41 knowF kn0 bq y y1 g45 y50 y52 k58 y62 g64 y69 y71 ab_now sb_now hb6 hsd hbs he0 e2 b3 b4 h10 nb47 sb48 he49 e51 e53 b54 b55 h60 h61 e63 nb66 sb67 he68 e70 e72) (lf_e_live1_42 knowF kn0 bq y y1 g45 y50 y52 k58 y62 g64 y69 y71 ab_now sb_now hb6 hsd hbs he0 e2 b3 b4 h10 nb47 sb48 he49 e51 e53 b54 b55 h60 h61 e63 nb66 sb67 he68 e70 e72)
    have sb76 : SB g73 := by rw [e74]; exact SB_lo sb67 _ _ (by omega)
    have he77 : HE kn0 g73 := by rw [e74]; exact HE_upd he68 (by decide) _
    have hP : va_P (dC, dI) vwCl [(o, .inr (12, [.int kthrown, .ref ktape, .int (nI ktaped), .int (nI ksize), .int (nI klimit), .int (nI kto), .int (nI kfrom), .int kkind, .int knumber, .int ksign, .int kfault, .int kplace, .long kword, .int ktold, .ref know, .ref kread, .ref kkept, .ref ksnaps, .ref kaside, .ref kname, .ref kreadName, .ref kkeptName, .ref kisKept, .ref konces, .int (nI ksnapMany), .int khasCells, .ref kpoured, .ref kfar, .ref ksides, .int (nI ksideMany), .int kwayDays, .int khasWay, .ref klines, .ref kmet, .int (nI kmetMany), .ref ksunk, .ref ktrying, .int (nI ksunkMany), .int ksending, .int kfleets, .ref ktext, .int (nI ktexts), .int kseed, .ref kline, .ref kwritten, .int (nI klineMany), .int khasWritten, .ref knode, .int (nI knodes), .int (nI konesMany), .int (nI kwithin), .int (nI ktop)])), (know, .inl (ky 0, 373, .inl g73))] H := hP
    have hD : va_D A [(o, .inr (12, [.int kthrown, .ref ktape, .int (nI ktaped), .int (nI ksize), .int (nI klimit), .int (nI kto), .int (nI kfrom), .int kkind, .int knumber, .int ksign, .int kfault, .int kplace, .long kword, .int ktold, .ref know, .ref kread, .ref kkept, .ref ksnaps, .ref kaside, .ref kname, .ref kreadName, .ref kkeptName, .ref kisKept, .ref konces, .int (nI ksnapMany), .int khasCells, .ref kpoured, .ref kfar, .ref ksides, .int (nI ksideMany), .int kwayDays, .int khasWay, .ref klines, .ref kmet, .int (nI kmetMany), .ref ksunk, .ref ktrying, .int (nI ksunkMany), .int ksending, .int kfleets, .ref ktext, .int (nI ktexts), .int kseed, .ref kline, .ref kwritten, .int (nI klineMany), .int khasWritten, .ref knode, .int (nI knodes), .int (nI konesMany), .int (nI kwithin), .int (nI ktop)])), (know, .inl (ky 0, 373, .inl g73))] := hD
    rw [hQ]
    exact W.vret hx hb hr (fun t9 ht9 hW9 => ⟨⟨g73, rfl, ⟨nb75, sb76, he77⟩, by rw [ht9]; exact hP, va_K.moved hW9.alike hK, hD⟩, hS.F ht9⟩) hS.2.2 dX12_live_97
set_option maxRecDepth 20000 in
theorem lf_e_live2_1 (x : Int32) (hc_x : 0 ≤ x.toInt ∧ x.toInt ≤ 35) : 0 ≤ x.toInt ∧ x.toInt < ((36 : Nat) : Int) := by
  have b_x := ia_b x
  try simp only [ia_lt, ia_le, ia_eq, ia_m1, ia_0, ia_1, ne_eq, true_and, and_true, false_and, and_false, or_false, false_or, or_true, true_or, not_true_eq_false, not_false_eq_true] at *
  all_goals omega
set_option maxRecDepth 20000 in
theorem lf_e_live2_2 (knowF : Nat → Int32) (kn0 : Nat → Int32) (x : Int32) (n1 : Nat) (y4 : Int32) (ab_now : NB knowF) (sb_now : SB knowF) (hc_x : 0 ≤ x.toInt ∧ x.toInt ≤ 35) (he0 : HE kn0 knowF) (h2 : n1 < 36) (e3 : x = nI n1) (e5 : y4 = knowF (71 + n1)) : (71 + n1) < 373 := by
  have b_x := ia_b x
  have b_y4 := ia_b y4
  try have k_0 := ia_n n1 (by first | decide | omega)
  try simp only [ia_lt, ia_le, ia_eq, ia_m1, ia_0, ia_1, ne_eq, true_and, and_true, false_and, and_false, or_false, false_or, or_true, true_or, not_true_eq_false, not_false_eq_true] at *
  all_goals omega
set_option maxRecDepth 20000 in
theorem lf_e_live2_3 (knowF : Nat → Int32) (kn0 : Nat → Int32) (x : Int32) (n1 : Nat) (y4 : Int32) (ab_now : NB knowF) (sb_now : SB knowF) (hc_x : 0 ≤ x.toInt ∧ x.toInt ≤ 35) (he0 : HE kn0 knowF) (h2 : n1 < 36) (e3 : x = nI n1) (e5 : y4 = knowF (71 + n1)) : 71 ≤ (71 + n1) := by
  have b_x := ia_b x
  have b_y4 := ia_b y4
  try have k_0 := ia_n n1 (by first | decide | omega)
  try simp only [ia_lt, ia_le, ia_eq, ia_m1, ia_0, ia_1, ne_eq, true_and, and_true, false_and, and_false, or_false, false_or, or_true, true_or, not_true_eq_false, not_false_eq_true] at *
  all_goals omega
set_option maxRecDepth 20000 in
theorem lf_e_live2_4 (knowF : Nat → Int32) (kn0 : Nat → Int32) (x : Int32) (n1 : Nat) (y4 : Int32) (ab_now : NB knowF) (sb_now : SB knowF) (hc_x : 0 ≤ x.toInt ∧ x.toInt ≤ 35) (he0 : HE kn0 knowF) (h2 : n1 < 36) (e3 : x = nI n1) (e5 : y4 = knowF (71 + n1)) : (71 + n1) < 107 := by
  have b_x := ia_b x
  have b_y4 := ia_b y4
  try have k_0 := ia_n n1 (by first | decide | omega)
  try simp only [ia_lt, ia_le, ia_eq, ia_m1, ia_0, ia_1, ne_eq, true_and, and_true, false_and, and_false, or_false, false_or, or_true, true_or, not_true_eq_false, not_false_eq_true] at *
  all_goals omega
set_option maxRecDepth 20000 in
theorem lf_e_live2_5 (knowF : Nat → Int32) (kn0 : Nat → Int32) (x : Int32) (n1 : Nat) (y4 : Int32) (ab_now : NB knowF) (sb_now : SB knowF) (hc_x : 0 ≤ x.toInt ∧ x.toInt ≤ 35) (he0 : HE kn0 knowF) (h2 : n1 < 36) (e3 : x = nI n1) (e5 : y4 = knowF (71 + n1)) (b6 : 0 ≤ y4.toInt) (b7 : y4.toInt ≤ 9) : 0 ≤ y4.toInt ∧ y4.toInt < ((10 : Nat) : Int) := by
  have b_x := ia_b x
  have b_y4 := ia_b y4
  try have k_0 := ia_n n1 (by first | decide | omega)
  try simp only [ia_lt, ia_le, ia_eq, ia_m1, ia_0, ia_1, ne_eq, true_and, and_true, false_and, and_false, or_false, false_or, or_true, true_or, not_true_eq_false, not_false_eq_true] at *
  all_goals omega
set_option maxRecDepth 20000 in
theorem lf_e_live2_6 (y : Int32) (hy9 : 1 ≤ y.toInt ∧ y.toInt ≤ 9) : 0 ≤ y.toInt ∧ y.toInt < ((10 : Nat) : Int) := by
  have b_y := ia_b y
  try simp only [ia_lt, ia_le, ia_eq, ia_m1, ia_0, ia_1, ne_eq, true_and, and_true, false_and, and_false, or_false, false_or, or_true, true_or, not_true_eq_false, not_false_eq_true] at *
  all_goals omega
set_option maxRecDepth 20000 in
theorem lf_e_live2_7 (y : Int32) (n11 : Nat) (hy9 : 1 ≤ y.toInt ∧ y.toInt ≤ 9) (h12 : n11 < 10) (e13 : y = nI n11) : 1 ≤ n11 := by
  have b_y := ia_b y
  try have k_0 := ia_n n11 (by first | decide | omega)
  try simp only [ia_lt, ia_le, ia_eq, ia_m1, ia_0, ia_1, ne_eq, true_and, and_true, false_and, and_false, or_false, false_or, or_true, true_or, not_true_eq_false, not_false_eq_true] at *
  all_goals omega
set_option maxRecDepth 20000 in
theorem lf_e_live2_8 (knowF : Nat → Int32) (kn0 : Nat → Int32) (x : Int32) (y : Int32) (n1 : Nat) (y4 : Int32) (n8 : Nat) (n11 : Nat) (r15 : Int32) (ab_now : NB knowF) (sb_now : SB knowF) (hc_x : 0 ≤ x.toInt ∧ x.toInt ≤ 35) (hy9 : 1 ≤ y.toInt ∧ y.toInt ≤ 9) (he0 : HE kn0 knowF) (h2 : n1 < 36) (e3 : x = nI n1) (e5 : y4 = knowF (71 + n1)) (b6 : 0 ≤ y4.toInt) (b7 : y4.toInt ≤ 9) (h9 : n8 < 10) (e10 : y4 = nI n8) (h12 : n11 < 10) (e13 : y = nI n11) (f14 : 1 ≤ n11) (p16 : (r15 = (nI 9) ∨ r15 = (nI (n8 + n11))) ∧ r15.toInt ≤ (nI 9).toInt ∧ r15.toInt ≤ (nI (n8 + n11)).toInt) : 0 ≤ (r15).toInt := by
  have b_x := ia_b x
  have b_y := ia_b y
  have b_y4 := ia_b y4
  have b_r15 := ia_b r15
  try have k_0 := ia_n n1 (by first | decide | omega)
  try have k_1 := ia_n n8 (by first | decide | omega)
  try have k_2 := ia_n n11 (by first | decide | omega)
  try have k_3 := ia_n 9 (by first | decide | omega)
  try have k_4 := ia_n (n8 + n11) (by first | decide | omega)
  try simp only [ia_lt, ia_le, ia_eq, ia_m1, ia_0, ia_1, ne_eq, true_and, and_true, false_and, and_false, or_false, false_or, or_true, true_or, not_true_eq_false, not_false_eq_true] at *
  all_goals omega
set_option maxRecDepth 20000 in
theorem lf_e_live2_9 (knowF : Nat → Int32) (kn0 : Nat → Int32) (x : Int32) (y : Int32) (n1 : Nat) (y4 : Int32) (n8 : Nat) (n11 : Nat) (r15 : Int32) (ab_now : NB knowF) (sb_now : SB knowF) (hc_x : 0 ≤ x.toInt ∧ x.toInt ≤ 35) (hy9 : 1 ≤ y.toInt ∧ y.toInt ≤ 9) (he0 : HE kn0 knowF) (h2 : n1 < 36) (e3 : x = nI n1) (e5 : y4 = knowF (71 + n1)) (b6 : 0 ≤ y4.toInt) (b7 : y4.toInt ≤ 9) (h9 : n8 < 10) (e10 : y4 = nI n8) (h12 : n11 < 10) (e13 : y = nI n11) (f14 : 1 ≤ n11) (p16 : (r15 = (nI 9) ∨ r15 = (nI (n8 + n11))) ∧ r15.toInt ≤ (nI 9).toInt ∧ r15.toInt ≤ (nI (n8 + n11)).toInt) : (r15).toInt ≤ 9 := by
  have b_x := ia_b x
  have b_y := ia_b y
  have b_y4 := ia_b y4
  have b_r15 := ia_b r15
  try have k_0 := ia_n n1 (by first | decide | omega)
  try have k_1 := ia_n n8 (by first | decide | omega)
  try have k_2 := ia_n n11 (by first | decide | omega)
  try have k_3 := ia_n 9 (by first | decide | omega)
  try have k_4 := ia_n (n8 + n11) (by first | decide | omega)
  try simp only [ia_lt, ia_le, ia_eq, ia_m1, ia_0, ia_1, ne_eq, true_and, and_true, false_and, and_false, or_false, false_or, or_true, true_or, not_true_eq_false, not_false_eq_true] at *
  all_goals omega
set_option maxRecDepth 20000 in
theorem lf_e_live2_10 (knowF : Nat → Int32) (kn0 : Nat → Int32) (x : Int32) (y : Int32) (n1 : Nat) (y4 : Int32) (n8 : Nat) (n11 : Nat) (r15 : Int32) (ab_now : NB knowF) (sb_now : SB knowF) (hc_x : 0 ≤ x.toInt ∧ x.toInt ≤ 35) (hy9 : 1 ≤ y.toInt ∧ y.toInt ≤ 9) (he0 : HE kn0 knowF) (h2 : n1 < 36) (e3 : x = nI n1) (e5 : y4 = knowF (71 + n1)) (b6 : 0 ≤ y4.toInt) (b7 : y4.toInt ≤ 9) (h9 : n8 < 10) (e10 : y4 = nI n8) (h12 : n11 < 10) (e13 : y = nI n11) (f14 : 1 ≤ n11) (p16 : (r15 = (nI 9) ∨ r15 = (nI (n8 + n11))) ∧ r15.toInt ≤ (nI 9).toInt ∧ r15.toInt ≤ (nI (n8 + n11)).toInt) : (71 + n1) < 373 := by
  have b_x := ia_b x
  have b_y := ia_b y
  have b_y4 := ia_b y4
  have b_r15 := ia_b r15
  try have k_0 := ia_n n1 (by first | decide | omega)
  try have k_1 := ia_n n8 (by first | decide | omega)
  try have k_2 := ia_n n11 (by first | decide | omega)
  try have k_3 := ia_n 9 (by first | decide | omega)
  try have k_4 := ia_n (n8 + n11) (by first | decide | omega)
  try simp only [ia_lt, ia_le, ia_eq, ia_m1, ia_0, ia_1, ne_eq, true_and, and_true, false_and, and_false, or_false, false_or, or_true, true_or, not_true_eq_false, not_false_eq_true] at *
  all_goals omega
set_option maxRecDepth 20000 in
theorem lf_e_live2_11 (knowF : Nat → Int32) (kn0 : Nat → Int32) (x : Int32) (y : Int32) (n1 : Nat) (y4 : Int32) (n8 : Nat) (n11 : Nat) (r15 : Int32) (ab_now : NB knowF) (sb_now : SB knowF) (hc_x : 0 ≤ x.toInt ∧ x.toInt ≤ 35) (hy9 : 1 ≤ y.toInt ∧ y.toInt ≤ 9) (he0 : HE kn0 knowF) (h2 : n1 < 36) (e3 : x = nI n1) (e5 : y4 = knowF (71 + n1)) (b6 : 0 ≤ y4.toInt) (b7 : y4.toInt ≤ 9) (h9 : n8 < 10) (e10 : y4 = nI n8) (h12 : n11 < 10) (e13 : y = nI n11) (f14 : 1 ≤ n11) (p16 : (r15 = (nI 9) ∨ r15 = (nI (n8 + n11))) ∧ r15.toInt ≤ (nI 9).toInt ∧ r15.toInt ≤ (nI (n8 + n11)).toInt) : 71 ≤ (71 + n1) := by
  have b_x := ia_b x
  have b_y := ia_b y
  have b_y4 := ia_b y4
  have b_r15 := ia_b r15
  try have k_0 := ia_n n1 (by first | decide | omega)
  try have k_1 := ia_n n8 (by first | decide | omega)
  try have k_2 := ia_n n11 (by first | decide | omega)
  try have k_3 := ia_n 9 (by first | decide | omega)
  try have k_4 := ia_n (n8 + n11) (by first | decide | omega)
  try simp only [ia_lt, ia_le, ia_eq, ia_m1, ia_0, ia_1, ne_eq, true_and, and_true, false_and, and_false, or_false, false_or, or_true, true_or, not_true_eq_false, not_false_eq_true] at *
  all_goals omega
set_option maxRecDepth 20000 in
theorem lf_e_live2_12 (knowF : Nat → Int32) (kn0 : Nat → Int32) (x : Int32) (y : Int32) (n1 : Nat) (y4 : Int32) (n8 : Nat) (n11 : Nat) (r15 : Int32) (ab_now : NB knowF) (sb_now : SB knowF) (hc_x : 0 ≤ x.toInt ∧ x.toInt ≤ 35) (hy9 : 1 ≤ y.toInt ∧ y.toInt ≤ 9) (he0 : HE kn0 knowF) (h2 : n1 < 36) (e3 : x = nI n1) (e5 : y4 = knowF (71 + n1)) (b6 : 0 ≤ y4.toInt) (b7 : y4.toInt ≤ 9) (h9 : n8 < 10) (e10 : y4 = nI n8) (h12 : n11 < 10) (e13 : y = nI n11) (f14 : 1 ≤ n11) (p16 : (r15 = (nI 9) ∨ r15 = (nI (n8 + n11))) ∧ r15.toInt ≤ (nI 9).toInt ∧ r15.toInt ≤ (nI (n8 + n11)).toInt) : (71 + n1) < 107 := by
  have b_x := ia_b x
  have b_y := ia_b y
  have b_y4 := ia_b y4
  have b_r15 := ia_b r15
  try have k_0 := ia_n n1 (by first | decide | omega)
  try have k_1 := ia_n n8 (by first | decide | omega)
  try have k_2 := ia_n n11 (by first | decide | omega)
  try have k_3 := ia_n 9 (by first | decide | omega)
  try have k_4 := ia_n (n8 + n11) (by first | decide | omega)
  try simp only [ia_lt, ia_le, ia_eq, ia_m1, ia_0, ia_1, ne_eq, true_and, and_true, false_and, and_false, or_false, false_or, or_true, true_or, not_true_eq_false, not_false_eq_true] at *
  all_goals omega
set_option maxRecDepth 20000 in
theorem lf_e_live2_13 (knowF : Nat → Int32) (kn0 : Nat → Int32) (x : Int32) (y : Int32) (n1 : Nat) (y4 : Int32) (n8 : Nat) (n11 : Nat) (r15 : Int32) (ab_now : NB knowF) (sb_now : SB knowF) (hc_x : 0 ≤ x.toInt ∧ x.toInt ≤ 35) (hy9 : 1 ≤ y.toInt ∧ y.toInt ≤ 9) (he0 : HE kn0 knowF) (h2 : n1 < 36) (e3 : x = nI n1) (e5 : y4 = knowF (71 + n1)) (b6 : 0 ≤ y4.toInt) (b7 : y4.toInt ≤ 9) (h9 : n8 < 10) (e10 : y4 = nI n8) (h12 : n11 < 10) (e13 : y = nI n11) (f14 : 1 ≤ n11) (p16 : (r15 = (nI 9) ∨ r15 = (nI (n8 + n11))) ∧ r15.toInt ≤ (nI 9).toInt ∧ r15.toInt ≤ (nI (n8 + n11)).toInt) : 67 ≤ (71 + n1) := by
  have b_x := ia_b x
  have b_y := ia_b y
  have b_y4 := ia_b y4
  have b_r15 := ia_b r15
  try have k_0 := ia_n n1 (by first | decide | omega)
  try have k_1 := ia_n n8 (by first | decide | omega)
  try have k_2 := ia_n n11 (by first | decide | omega)
  try have k_3 := ia_n 9 (by first | decide | omega)
  try have k_4 := ia_n (n8 + n11) (by first | decide | omega)
  try simp only [ia_lt, ia_le, ia_eq, ia_m1, ia_0, ia_1, ne_eq, true_and, and_true, false_and, and_false, or_false, false_or, or_true, true_or, not_true_eq_false, not_false_eq_true] at *
  all_goals omega
set_option maxHeartbeats 4000000 in
set_option maxRecDepth 100000 in
theorem c_e_live2 (l : Launch) (dC : Nat → ClassId) (dI : Nat → Nat → Nat) (ky : Nat → ClassId) (sz : Nat) (o : Nat) (kthrown : Int32) (ktape : Nat) (ktaped : Nat) (ksize : Nat) (klimit : Nat) (kto : Nat) (kfrom : Nat) (kkind : Int32) (knumber : Int32) (ksign : Int32) (kfault : Int32) (kplace : Int32) (kword : Int64) (ktold : Int32) (know : Nat) (kread : Nat) (kkept : Nat) (ksnaps : Nat) (kaside : Nat) (kname : Nat) (kreadName : Nat) (kkeptName : Nat) (kisKept : Nat) (konces : Nat) (ksnapMany : Nat) (khasCells : Int32) (kpoured : Nat) (kfar : Nat) (ksides : Nat) (ksideMany : Nat) (kwayDays : Int32) (khasWay : Int32) (klines : Nat) (kmet : Nat) (kmetMany : Nat) (ksunk : Nat) (ktrying : Nat) (ksunkMany : Nat) (ksending : Int32) (kfleets : Int32) (ktext : Nat) (ktexts : Nat) (kseed : Int32) (kline : Nat) (kwritten : Nat) (klineMany : Nat) (khasWritten : Int32) (knode : Nat) (knodes : Nat) (konesMany : Nat) (kwithin : Nat) (ktop : Nat) (knowF : Nat → Int32) (kn0 : Nat → Int32) (x : Int32) (y : Int32) (iv_ko_0 : ktaped ≤ 940) (iv_ko_1 : ksize ≤ 940) (iv_ko_2 : klimit ≤ 900) (iv_ko_3 : kto ≤ ksize) (iv_ko_4 : kfrom ≤ 940) (iv_ko_5 : ksnapMany ≤ 8) (iv_ko_6 : ksideMany ≤ 36) (iv_ko_7 : kmetMany ≤ 3) (iv_ko_8 : ksunkMany ≤ 36) (iv_ko_9 : ktexts ≤ 64) (iv_ko_10 : klineMany ≤ 40) (iv_ko_11 : knodes ≤ 60) (iv_ko_12 : konesMany ≤ 20) (iv_ko_13 : kwithin ≤ 8) (iv_ko_14 : ktop ≤ 59) (ab_now : NB knowF) (sb_now : SB knowF) (hc_x : 0 ≤ x.toInt ∧ x.toInt ≤ 35) (hy9 : 1 ≤ y.toInt ∧ y.toInt ≤ 9) (he0 : HE kn0 knowF) : Met l yX12_live wsX12_live ({ frames := 1, cells := 0, slots := 0, locals := 21 }) (PcU dC dI ky [.ref o, .int (nI 2), .int x, .int y] [(o, .inr (12, [.int kthrown, .ref ktape, .int (nI ktaped), .int (nI ksize), .int (nI klimit), .int (nI kto), .int (nI kfrom), .int kkind, .int knumber, .int ksign, .int kfault, .int kplace, .long kword, .int ktold, .ref know, .ref kread, .ref kkept, .ref ksnaps, .ref kaside, .ref kname, .ref kreadName, .ref kkeptName, .ref kisKept, .ref konces, .int (nI ksnapMany), .int khasCells, .ref kpoured, .ref kfar, .ref ksides, .int (nI ksideMany), .int kwayDays, .int khasWay, .ref klines, .ref kmet, .int (nI kmetMany), .ref ksunk, .ref ktrying, .int (nI ksunkMany), .int ksending, .int kfleets, .ref ktext, .int (nI ktexts), .int kseed, .ref kline, .ref kwritten, .int (nI klineMany), .int khasWritten, .ref knode, .int (nI knodes), .int (nI konesMany), .int (nI kwithin), .int (nI ktop)])), (know, .inl (ky 0, 373, .inl knowF))] sz) (va_Qv (fun (knowG : (Nat → Int32)) => (NB knowG) ∧ (SB knowG) ∧ (HE kn0 knowG)) (BU dC dI ky (fun (knowG : (Nat → Int32)) => [(o, .inr (12, [.int kthrown, .ref ktape, .int (nI ktaped), .int (nI ksize), .int (nI klimit), .int (nI kto), .int (nI kfrom), .int kkind, .int knumber, .int ksign, .int kfault, .int kplace, .long kword, .int ktold, .ref know, .ref kread, .ref kkept, .ref ksnaps, .ref kaside, .ref kname, .ref kreadName, .ref kkeptName, .ref kisKept, .ref konces, .int (nI ksnapMany), .int khasCells, .ref kpoured, .ref kfar, .ref ksides, .int (nI ksideMany), .int kwayDays, .int khasWay, .ref klines, .ref kmet, .int (nI kmetMany), .ref ksunk, .ref ktrying, .int (nI ksunkMany), .int ksending, .int kfleets, .ref ktext, .int (nI ktexts), .int kseed, .ref kline, .ref kwritten, .int (nI klineMany), .int khasWritten, .ref knode, .int (nI knodes), .int (nI konesMany), .int (nI kwithin), .int (nI ktop)])), (know, .inl (ky 0, 373, .inl knowG))]) (va_A [(o, .inr (12, [.int kthrown, .ref ktape, .int (nI ktaped), .int (nI ksize), .int (nI klimit), .int (nI kto), .int (nI kfrom), .int kkind, .int knumber, .int ksign, .int kfault, .int kplace, .long kword, .int ktold, .ref know, .ref kread, .ref kkept, .ref ksnaps, .ref kaside, .ref kname, .ref kreadName, .ref kkeptName, .ref kisKept, .ref konces, .int (nI ksnapMany), .int khasCells, .ref kpoured, .ref kfar, .ref ksides, .int (nI ksideMany), .int kwayDays, .int khasWay, .ref klines, .ref kmet, .int (nI kmetMany), .ref ksunk, .ref ktrying, .int (nI ksunkMany), .int ksending, .int kfleets, .ref ktext, .int (nI ktexts), .int kseed, .ref kline, .ref kwritten, .int (nI klineMany), .int khasWritten, .ref knode, .int (nI knodes), .int (nI konesMany), .int (nI kwithin), .int (nI ktop)])), (know, .inl (ky 0, 373, .inl knowF))] sz)) (va_A [(o, .inr (12, [.int kthrown, .ref ktape, .int (nI ktaped), .int (nI ksize), .int (nI klimit), .int (nI kto), .int (nI kfrom), .int kkind, .int knumber, .int ksign, .int kfault, .int kplace, .long kword, .int ktold, .ref know, .ref kread, .ref kkept, .ref ksnaps, .ref kaside, .ref kname, .ref kreadName, .ref kkeptName, .ref kisKept, .ref konces, .int (nI ksnapMany), .int khasCells, .ref kpoured, .ref kfar, .ref ksides, .int (nI ksideMany), .int kwayDays, .int khasWay, .ref klines, .ref kmet, .int (nI kmetMany), .ref ksunk, .ref ktrying, .int (nI ksunkMany), .int ksending, .int kfleets, .ref ktext, .int (nI ktexts), .int kseed, .ref kline, .ref kwritten, .int (nI klineMany), .int khasWritten, .ref knode, .int (nI knodes), .int (nI konesMany), .int (nI kwithin), .int (nI ktop)])), (know, .inl (ky 0, 373, .inl knowF))] sz)) 0 0 (va_A [(o, .inr (12, [.int kthrown, .ref ktape, .int (nI ktaped), .int (nI ksize), .int (nI klimit), .int (nI kto), .int (nI kfrom), .int kkind, .int knumber, .int ksign, .int kfault, .int kplace, .long kword, .int ktold, .ref know, .ref kread, .ref kkept, .ref ksnaps, .ref kaside, .ref kname, .ref kreadName, .ref kkeptName, .ref kisKept, .ref konces, .int (nI ksnapMany), .int khasCells, .ref kpoured, .ref kfar, .ref ksides, .int (nI ksideMany), .int kwayDays, .int khasWay, .ref klines, .ref kmet, .int (nI kmetMany), .ref ksunk, .ref ktrying, .int (nI ksunkMany), .int ksending, .int kfleets, .ref ktext, .int (nI ktexts), .int kseed, .ref kline, .ref kwritten, .int (nI klineMany), .int khasWritten, .ref knode, .int (nI knodes), .int (nI konesMany), .int (nI kwithin), .int (nI ktop)])), (know, .inl (ky 0, 373, .inl knowF))] sz) := by
  refine Met.ofW (cc := cX12_live) (maxL := 4) (ret := none) (by decide) rfl ?_
  intro p e s m args below meth c s₁ B hml hv
  obtain ⟨rfl, hsz, hP, hK, hD0⟩ := hv
  have hx := B.exec
  have hb := B.bytes
  have hr := B.returns
  have hts := atoms_spec (ws := wsX12_live) B.pre
  have hown : s.vm.findClass RX12 = some m.cls := findClass_of_methodNamed B.named
  have hlocks := B.notSynchronized
  have hin12 : ∀ w ∈ u_ws RX12 TX12 52, w ∈ wsX12_live := by decide +kernel
  subst hsz
  have hD := hD0.self (sz := s.heap.size)
  generalize hAe : va_A [(o, .inr (12, [.int kthrown, .ref ktape, .int (nI ktaped), .int (nI ksize), .int (nI klimit), .int (nI kto), .int (nI kfrom), .int kkind, .int knumber, .int ksign, .int kfault, .int kplace, .long kword, .int ktold, .ref know, .ref kread, .ref kkept, .ref ksnaps, .ref kaside, .ref kname, .ref kreadName, .ref kkeptName, .ref kisKept, .ref konces, .int (nI ksnapMany), .int khasCells, .ref kpoured, .ref kfar, .ref ksides, .int (nI ksideMany), .int kwayDays, .int khasWay, .ref klines, .ref kmet, .int (nI kmetMany), .ref ksunk, .ref ktrying, .int (nI ksunkMany), .int ksending, .int kfleets, .ref ktext, .int (nI ktexts), .int kseed, .ref kline, .ref kwritten, .int (nI klineMany), .int khasWritten, .ref knode, .int (nI knodes), .int (nI konesMany), .int (nI kwithin), .int (nI ktop)])), (know, .inl (ky 0, 373, .inl knowF))] s.heap.size = A at hD ⊢
  have hA : ∀ q : Nat, s.heap.size ≤ q → A q := fun q h => by rw [← hAe]; exact Or.inr h
  have hS : va_S A s.heap s.heap [] := va_S.rf
  have hl := lv_entry ([.ref o, .int (nI 2), .int x, .int y]) (n := 4) (Nat.le_of_ble_eq_true rfl)
  rw [lg_entry_eq]
  generalize (lg_sl ([.ref o, .int (nI 2), .int x, .int y]) ++ List.replicate (4 - (lg_sl ([.ref o, .int (nI 2), .int x, .int y])).length) Slot.unset).toArray = ls at hl ⊢
  have hl : lv_has ls 4 [(0, .ref o), (1, .int (nI 2)), (2, .int x), (3, .int y)] := hl
  refine q_name (fun Q hQ => ?_)
  generalize ([.ref o, .int (nI 2), .int x, .int y] : List Value).toArray = args at hts hQ ⊢
  refine lv_iload_n hx hb dX12_live_0 rfl (lv_at hl 1 rfl) ?_
  refine lv_tableIn (off := 97) (tgt := 98) hx hb dX12_live_1 (by decide) (by decide) rfl (by decide) ?_
  refine lv_aload_n hx hb dX12_live_98 rfl (lv_at hl 0 rfl) ?_
  refine va_get (D := (dC, dI)) (ci := 12) (v := .ref know) (C := RX12) (T := TX12) (N := 52) hx hb hts hin12 hown hK hP 0 rfl rfl 14 (by decide) (hts (.fieldLink RX12 98 "PorridgeSeaModel" "now" "[I") (List.mem_of_getElem? (i := 1) rfl)) (fun _ h9 => h9) rfl dX12_live_99 ?_
  refine lv_bipush (v := nI 71) hx hb dX12_live_102 (by decide) ?_
  refine lv_iload_n hx hb dX12_live_104 rfl (lv_at hl 2 rfl) ?_
  obtain ⟨n1, h2, e3⟩ := nat_of x 36 (by decide) (lf_e_live2_1 x hc_x)
  rw [e3]
  refine lv_iadd hx hb dX12_live_105 ?_
  refine r_ti (nI (71 + n1)) (nI_add _ _) ?_
  refine lv_bipush (v := nI 9) hx hb dX12_live_106 (by decide) ?_
  refine lv_aload_n hx hb dX12_live_108 rfl (lv_at hl 0 rfl) ?_
  refine va_get (D := (dC, dI)) (ci := 12) (v := .ref know) (C := RX12) (T := TX12) (N := 52) hx hb hts hin12 hown hK hP 0 rfl rfl 14 (by decide) (hts (.fieldLink RX12 98 "PorridgeSeaModel" "now" "[I") (List.mem_of_getElem? (i := 1) rfl)) (fun _ h9 => h9) rfl dX12_live_109 ?_
  refine lv_bipush (v := nI 71) hx hb dX12_live_112 (by decide) ?_
  refine lv_iload_n hx hb dX12_live_114 rfl (lv_at hl 2 rfl) ?_
  rw [e3]
  refine lv_iadd hx hb dX12_live_115 ?_
  refine r_ti (nI (71 + n1)) (nI_add _ _) ?_
  obtain ⟨y4, e5⟩ : ∃ z9, z9 = knowF (71 + n1) := ⟨_, rfl⟩
  refine r_iald hx hb hK hP 1 rfl (71 + n1) (lf_e_live2_2 knowF kn0 x n1 y4 ab_now sb_now hc_x he0 h2 e3 e5) (by decide) y4 e5.symm dX12_live_116 ?_
  obtain ⟨b6, b7⟩ : (0 : Int) ≤ y4.toInt ∧ y4.toInt ≤ 9 := by rw [e5]; exact ld_NB_71 ab_now (71 + n1) (lf_e_live2_3 knowF kn0 x n1 y4 ab_now sb_now hc_x he0 h2 e3 e5) (lf_e_live2_4 knowF kn0 x n1 y4 ab_now sb_now hc_x he0 h2 e3 e5)
  refine lv_iload_n hx hb dX12_live_117 rfl (lv_at hl 3 rfl) ?_
  obtain ⟨n8, h9, e10⟩ := nat_of y4 10 (by decide) (lf_e_live2_5 knowF kn0 x n1 y4 ab_now sb_now hc_x he0 h2 e3 e5 b6 b7)
  rw [e10]
  obtain ⟨n11, h12, e13⟩ := nat_of y 10 (by decide) (lf_e_live2_6 y hy9)
  have f14 : 1 ≤ n11 := (lf_e_live2_7 y n11 hy9 h12 e13)
  rw [e13]
  refine lv_iadd hx hb dX12_live_118 ?_
  refine r_ti (nI (n8 + n11)) (nI_add _ _) ?_
  refine vp_callSi (W.runS (As := [.int (nI 9), .int (nI (n8 + n11))]) (rest := [.int (nI (71 + n1)), .ref know]) ⟨hx, hb, hml, hown, hts⟩ (c_x_least l dC dI ky (nI 9) (nI (n8 + n11))) (va_cwS 2 hts gX12_live_X12_least rfl rfl rfl (by decide +kernel) ⟨(Nat.le_of_ble_eq_true rfl), (Nat.le_of_ble_eq_true rfl)⟩) (pre_PS hK hP [] rfl) rfl rfl hl.1 rfl (lv_room (Nat.le_of_ble_eq_true rfl)) dX12_live_119 ⟨(Nat.le_of_ble_eq_true rfl), (Nat.le_of_ble_eq_true rfl)⟩) (fun r15 p16 => ?_)
  refine r_iast (x := r15) hx hb hK hP hD hS 1 rfl (71 + n1) (lf_e_live2_10 knowF kn0 x y n1 y4 n8 n11 r15 ab_now sb_now hc_x hy9 he0 h2 e3 e5 b6 b7 h9 e10 h12 e13 f14 p16) (by decide) dX12_live_122 (fun H locs hP hD hS => ?_)
  obtain ⟨g17, e18⟩ : ∃ z9, z9 = upd knowF (71 + n1) r15 := ⟨_, rfl⟩
  rw [← e18] at hP hD
  have nb19 : NB g17 := by rw [e18]; exact st_NB_71 ab_now (71 + n1) (lf_e_live2_11 knowF kn0 x y n1 y4 n8 n11 r15 ab_now sb_now hc_x hy9 he0 h2 e3 e5 b6 b7 h9 e10 h12 e13 f14 p16) (lf_e_live2_12 knowF kn0 x y n1 y4 n8 n11 r15 ab_now sb_now hc_x hy9 he0 h2 e3 e5 b6 b7 h9 e10 h12 e13 f14 p16) (lf_e_live2_8 knowF kn0 x y n1 y4 n8 n11 r15 ab_now sb_now hc_x hy9 he0 h2 e3 e5 b6 b7 h9 e10 h12 e13 f14 p16) (lf_e_live2_9 knowF kn0 x y n1 y4 n8 n11 r15 ab_now sb_now hc_x hy9 he0 h2 e3 e5 b6 b7 h9 e10 h12 e13 f14 p16)
  have sb20 : SB g17 := by rw [e18]; exact SB_lo sb_now _ _ (by omega)
  have he21 : HE kn0 g17 := by rw [e18]; exact HE_upd he0 (lf_e_live2_13 knowF kn0 x y n1 y4 n8 n11 r15 ab_now sb_now hc_x hy9 he0 h2 e3 e5 b6 b7 h9 e10 h12 e13 f14 p16) _
  have hP : va_P (dC, dI) vwCl [(o, .inr (12, [.int kthrown, .ref ktape, .int (nI ktaped), .int (nI ksize), .int (nI klimit), .int (nI kto), .int (nI kfrom), .int kkind, .int knumber, .int ksign, .int kfault, .int kplace, .long kword, .int ktold, .ref know, .ref kread, .ref kkept, .ref ksnaps, .ref kaside, .ref kname, .ref kreadName, .ref kkeptName, .ref kisKept, .ref konces, .int (nI ksnapMany), .int khasCells, .ref kpoured, .ref kfar, .ref ksides, .int (nI ksideMany), .int kwayDays, .int khasWay, .ref klines, .ref kmet, .int (nI kmetMany), .ref ksunk, .ref ktrying, .int (nI ksunkMany), .int ksending, .int kfleets, .ref ktext, .int (nI ktexts), .int kseed, .ref kline, .ref kwritten, .int (nI klineMany), .int khasWritten, .ref knode, .int (nI knodes), .int (nI konesMany), .int (nI kwithin), .int (nI ktop)])), (know, .inl (ky 0, 373, .inl g17))] H := hP
  have hD : va_D A [(o, .inr (12, [.int kthrown, .ref ktape, .int (nI ktaped), .int (nI ksize), .int (nI klimit), .int (nI kto), .int (nI kfrom), .int kkind, .int knumber, .int ksign, .int kfault, .int kplace, .long kword, .int ktold, .ref know, .ref kread, .ref kkept, .ref ksnaps, .ref kaside, .ref kname, .ref kreadName, .ref kkeptName, .ref kisKept, .ref konces, .int (nI ksnapMany), .int khasCells, .ref kpoured, .ref kfar, .ref ksides, .int (nI ksideMany), .int kwayDays, .int khasWay, .ref klines, .ref kmet, .int (nI kmetMany), .ref ksunk, .ref ktrying, .int (nI ksunkMany), .int ksending, .int kfleets, .ref ktext, .int (nI ktexts), .int kseed, .ref kline, .ref kwritten, .int (nI klineMany), .int khasWritten, .ref knode, .int (nI knodes), .int (nI konesMany), .int (nI kwithin), .int (nI ktop)])), (know, .inl (ky 0, 373, .inl g17))] := hD
  rw [hQ]
  exact W.vret hx hb hr (fun t9 ht9 hW9 => ⟨⟨g17, rfl, ⟨nb19, sb20, he21⟩, by rw [ht9]; exact hP, va_K.moved hW9.alike hK, hD⟩, hS.F ht9⟩) hS.2.2 dX12_live_123
set_option maxRecDepth 20000 in
theorem lf_e_live3_1 (x : Int32) (hc_x : 0 ≤ x.toInt ∧ x.toInt ≤ 35) : 0 ≤ x.toInt ∧ x.toInt < ((36 : Nat) : Int) := by
  have b_x := ia_b x
  try simp only [ia_lt, ia_le, ia_eq, ia_m1, ia_0, ia_1, ne_eq, true_and, and_true, false_and, and_false, or_false, false_or, or_true, true_or, not_true_eq_false, not_false_eq_true] at *
  all_goals omega
set_option maxRecDepth 20000 in
theorem lf_e_live3_2 (knowF : Nat → Int32) (kn0 : Nat → Int32) (x : Int32) (n1 : Nat) (y4 : Int32) (ab_now : NB knowF) (sb_now : SB knowF) (hc_x : 0 ≤ x.toInt ∧ x.toInt ≤ 35) (he0 : HE kn0 knowF) (h2 : n1 < 36) (e3 : x = nI n1) (e5 : y4 = knowF (71 + n1)) : (71 + n1) < 373 := by
  have b_x := ia_b x
  have b_y4 := ia_b y4
  try have k_0 := ia_n n1 (by first | decide | omega)
  try simp only [ia_lt, ia_le, ia_eq, ia_m1, ia_0, ia_1, ne_eq, true_and, and_true, false_and, and_false, or_false, false_or, or_true, true_or, not_true_eq_false, not_false_eq_true] at *
  all_goals omega
set_option maxRecDepth 20000 in
theorem lf_e_live3_3 (knowF : Nat → Int32) (kn0 : Nat → Int32) (x : Int32) (n1 : Nat) (y4 : Int32) (ab_now : NB knowF) (sb_now : SB knowF) (hc_x : 0 ≤ x.toInt ∧ x.toInt ≤ 35) (he0 : HE kn0 knowF) (h2 : n1 < 36) (e3 : x = nI n1) (e5 : y4 = knowF (71 + n1)) : 71 ≤ (71 + n1) := by
  have b_x := ia_b x
  have b_y4 := ia_b y4
  try have k_0 := ia_n n1 (by first | decide | omega)
  try simp only [ia_lt, ia_le, ia_eq, ia_m1, ia_0, ia_1, ne_eq, true_and, and_true, false_and, and_false, or_false, false_or, or_true, true_or, not_true_eq_false, not_false_eq_true] at *
  all_goals omega
set_option maxRecDepth 20000 in
theorem lf_e_live3_4 (knowF : Nat → Int32) (kn0 : Nat → Int32) (x : Int32) (n1 : Nat) (y4 : Int32) (ab_now : NB knowF) (sb_now : SB knowF) (hc_x : 0 ≤ x.toInt ∧ x.toInt ≤ 35) (he0 : HE kn0 knowF) (h2 : n1 < 36) (e3 : x = nI n1) (e5 : y4 = knowF (71 + n1)) : (71 + n1) < 107 := by
  have b_x := ia_b x
  have b_y4 := ia_b y4
  try have k_0 := ia_n n1 (by first | decide | omega)
  try simp only [ia_lt, ia_le, ia_eq, ia_m1, ia_0, ia_1, ne_eq, true_and, and_true, false_and, and_false, or_false, false_or, or_true, true_or, not_true_eq_false, not_false_eq_true] at *
  all_goals omega
set_option maxRecDepth 20000 in
theorem lf_e_live3_5 (knowF : Nat → Int32) (kn0 : Nat → Int32) (x : Int32) (n1 : Nat) (y4 : Int32) (y8 : Int32) (ab_now : NB knowF) (sb_now : SB knowF) (hc_x : 0 ≤ x.toInt ∧ x.toInt ≤ 35) (he0 : HE kn0 knowF) (h2 : n1 < 36) (e3 : x = nI n1) (e5 : y4 = knowF (71 + n1)) (b6 : 0 ≤ y4.toInt) (b7 : y4.toInt ≤ 9) (e9 : y8 = knowF (71 + n1)) : (71 + n1) < 373 := by
  have b_x := ia_b x
  have b_y4 := ia_b y4
  have b_y8 := ia_b y8
  try have k_0 := ia_n n1 (by first | decide | omega)
  try simp only [ia_lt, ia_le, ia_eq, ia_m1, ia_0, ia_1, ne_eq, true_and, and_true, false_and, and_false, or_false, false_or, or_true, true_or, not_true_eq_false, not_false_eq_true] at *
  all_goals omega
set_option maxRecDepth 20000 in
theorem lf_e_live3_6 (knowF : Nat → Int32) (kn0 : Nat → Int32) (x : Int32) (n1 : Nat) (y4 : Int32) (y8 : Int32) (ab_now : NB knowF) (sb_now : SB knowF) (hc_x : 0 ≤ x.toInt ∧ x.toInt ≤ 35) (he0 : HE kn0 knowF) (h2 : n1 < 36) (e3 : x = nI n1) (e5 : y4 = knowF (71 + n1)) (b6 : 0 ≤ y4.toInt) (b7 : y4.toInt ≤ 9) (e9 : y8 = knowF (71 + n1)) : 71 ≤ (71 + n1) := by
  have b_x := ia_b x
  have b_y4 := ia_b y4
  have b_y8 := ia_b y8
  try have k_0 := ia_n n1 (by first | decide | omega)
  try simp only [ia_lt, ia_le, ia_eq, ia_m1, ia_0, ia_1, ne_eq, true_and, and_true, false_and, and_false, or_false, false_or, or_true, true_or, not_true_eq_false, not_false_eq_true] at *
  all_goals omega
set_option maxRecDepth 20000 in
theorem lf_e_live3_7 (knowF : Nat → Int32) (kn0 : Nat → Int32) (x : Int32) (n1 : Nat) (y4 : Int32) (y8 : Int32) (ab_now : NB knowF) (sb_now : SB knowF) (hc_x : 0 ≤ x.toInt ∧ x.toInt ≤ 35) (he0 : HE kn0 knowF) (h2 : n1 < 36) (e3 : x = nI n1) (e5 : y4 = knowF (71 + n1)) (b6 : 0 ≤ y4.toInt) (b7 : y4.toInt ≤ 9) (e9 : y8 = knowF (71 + n1)) : (71 + n1) < 107 := by
  have b_x := ia_b x
  have b_y4 := ia_b y4
  have b_y8 := ia_b y8
  try have k_0 := ia_n n1 (by first | decide | omega)
  try simp only [ia_lt, ia_le, ia_eq, ia_m1, ia_0, ia_1, ne_eq, true_and, and_true, false_and, and_false, or_false, false_or, or_true, true_or, not_true_eq_false, not_false_eq_true] at *
  all_goals omega
set_option maxRecDepth 20000 in
theorem lf_e_live3_8 (knowF : Nat → Int32) (kn0 : Nat → Int32) (x : Int32) (y : Int32) (n1 : Nat) (y4 : Int32) (y8 : Int32) (r12 : Int32) (ab_now : NB knowF) (sb_now : SB knowF) (hc_x : 0 ≤ x.toInt ∧ x.toInt ≤ 35) (hy9 : 1 ≤ y.toInt ∧ y.toInt ≤ 9) (he0 : HE kn0 knowF) (h2 : n1 < 36) (e3 : x = nI n1) (e5 : y4 = knowF (71 + n1)) (b6 : 0 ≤ y4.toInt) (b7 : y4.toInt ≤ 9) (e9 : y8 = knowF (71 + n1)) (b10 : 0 ≤ y8.toInt) (b11 : y8.toInt ≤ 9) (p13 : (r12 = y ∨ r12 = y8) ∧ r12.toInt ≤ y.toInt ∧ r12.toInt ≤ y8.toInt) : 0 ≤ y4.toInt ∧ y4.toInt < ((10 : Nat) : Int) := by
  have b_x := ia_b x
  have b_y := ia_b y
  have b_y4 := ia_b y4
  have b_y8 := ia_b y8
  have b_r12 := ia_b r12
  try have k_0 := ia_n n1 (by first | decide | omega)
  try simp only [ia_lt, ia_le, ia_eq, ia_m1, ia_0, ia_1, ne_eq, true_and, and_true, false_and, and_false, or_false, false_or, or_true, true_or, not_true_eq_false, not_false_eq_true] at *
  all_goals omega
set_option maxRecDepth 20000 in
theorem lf_e_live3_9 (knowF : Nat → Int32) (kn0 : Nat → Int32) (x : Int32) (y : Int32) (n1 : Nat) (y4 : Int32) (y8 : Int32) (r12 : Int32) (n14 : Nat) (ab_now : NB knowF) (sb_now : SB knowF) (hc_x : 0 ≤ x.toInt ∧ x.toInt ≤ 35) (hy9 : 1 ≤ y.toInt ∧ y.toInt ≤ 9) (he0 : HE kn0 knowF) (h2 : n1 < 36) (e3 : x = nI n1) (e5 : y4 = knowF (71 + n1)) (b6 : 0 ≤ y4.toInt) (b7 : y4.toInt ≤ 9) (e9 : y8 = knowF (71 + n1)) (b10 : 0 ≤ y8.toInt) (b11 : y8.toInt ≤ 9) (p13 : (r12 = y ∨ r12 = y8) ∧ r12.toInt ≤ y.toInt ∧ r12.toInt ≤ y8.toInt) (h15 : n14 < 10) (e16 : y4 = nI n14) : 0 ≤ r12.toInt ∧ r12.toInt < ((10 : Nat) : Int) := by
  have b_x := ia_b x
  have b_y := ia_b y
  have b_y4 := ia_b y4
  have b_y8 := ia_b y8
  have b_r12 := ia_b r12
  try have k_0 := ia_n n1 (by first | decide | omega)
  try have k_1 := ia_n n14 (by first | decide | omega)
  try simp only [ia_lt, ia_le, ia_eq, ia_m1, ia_0, ia_1, ne_eq, true_and, and_true, false_and, and_false, or_false, false_or, or_true, true_or, not_true_eq_false, not_false_eq_true] at *
  all_goals omega
set_option maxRecDepth 20000 in
theorem lf_e_live3_10 (knowF : Nat → Int32) (kn0 : Nat → Int32) (x : Int32) (y : Int32) (n1 : Nat) (y4 : Int32) (y8 : Int32) (r12 : Int32) (n14 : Nat) (n17 : Nat) (y20 : Int32) (ab_now : NB knowF) (sb_now : SB knowF) (hc_x : 0 ≤ x.toInt ∧ x.toInt ≤ 35) (hy9 : 1 ≤ y.toInt ∧ y.toInt ≤ 9) (he0 : HE kn0 knowF) (h2 : n1 < 36) (e3 : x = nI n1) (e5 : y4 = knowF (71 + n1)) (b6 : 0 ≤ y4.toInt) (b7 : y4.toInt ≤ 9) (e9 : y8 = knowF (71 + n1)) (b10 : 0 ≤ y8.toInt) (b11 : y8.toInt ≤ 9) (p13 : (r12 = y ∨ r12 = y8) ∧ r12.toInt ≤ y.toInt ∧ r12.toInt ≤ y8.toInt) (h15 : n14 < 10) (e16 : y4 = nI n14) (h18 : n17 < 10) (e19 : r12 = nI n17) (f22 : y20.toInt = ((n14 : Nat) : Int) - ((n17 : Nat) : Int)) : 0 ≤ (y20).toInt := by
  have b_x := ia_b x
  have b_y := ia_b y
  have b_y4 := ia_b y4
  have b_y8 := ia_b y8
  have b_r12 := ia_b r12
  have b_y20 := ia_b y20
  try have k_0 := ia_n n1 (by first | decide | omega)
  try have k_1 := ia_n n14 (by first | decide | omega)
  try have k_2 := ia_n n17 (by first | decide | omega)
  try simp only [ia_lt, ia_le, ia_eq, ia_m1, ia_0, ia_1, ne_eq, true_and, and_true, false_and, and_false, or_false, false_or, or_true, true_or, not_true_eq_false, not_false_eq_true] at *
  all_goals omega
set_option maxRecDepth 20000 in
theorem lf_e_live3_11 (knowF : Nat → Int32) (kn0 : Nat → Int32) (x : Int32) (y : Int32) (n1 : Nat) (y4 : Int32) (y8 : Int32) (r12 : Int32) (n14 : Nat) (n17 : Nat) (y20 : Int32) (ab_now : NB knowF) (sb_now : SB knowF) (hc_x : 0 ≤ x.toInt ∧ x.toInt ≤ 35) (hy9 : 1 ≤ y.toInt ∧ y.toInt ≤ 9) (he0 : HE kn0 knowF) (h2 : n1 < 36) (e3 : x = nI n1) (e5 : y4 = knowF (71 + n1)) (b6 : 0 ≤ y4.toInt) (b7 : y4.toInt ≤ 9) (e9 : y8 = knowF (71 + n1)) (b10 : 0 ≤ y8.toInt) (b11 : y8.toInt ≤ 9) (p13 : (r12 = y ∨ r12 = y8) ∧ r12.toInt ≤ y.toInt ∧ r12.toInt ≤ y8.toInt) (h15 : n14 < 10) (e16 : y4 = nI n14) (h18 : n17 < 10) (e19 : r12 = nI n17) (f22 : y20.toInt = ((n14 : Nat) : Int) - ((n17 : Nat) : Int)) : (y20).toInt ≤ 9 := by
  have b_x := ia_b x
  have b_y := ia_b y
  have b_y4 := ia_b y4
  have b_y8 := ia_b y8
  have b_r12 := ia_b r12
  have b_y20 := ia_b y20
  try have k_0 := ia_n n1 (by first | decide | omega)
  try have k_1 := ia_n n14 (by first | decide | omega)
  try have k_2 := ia_n n17 (by first | decide | omega)
  try simp only [ia_lt, ia_le, ia_eq, ia_m1, ia_0, ia_1, ne_eq, true_and, and_true, false_and, and_false, or_false, false_or, or_true, true_or, not_true_eq_false, not_false_eq_true] at *
  all_goals omega
set_option maxRecDepth 20000 in
theorem lf_e_live3_12 (knowF : Nat → Int32) (kn0 : Nat → Int32) (x : Int32) (y : Int32) (n1 : Nat) (y4 : Int32) (y8 : Int32) (r12 : Int32) (n14 : Nat) (n17 : Nat) (y20 : Int32) (ab_now : NB knowF) (sb_now : SB knowF) (hc_x : 0 ≤ x.toInt ∧ x.toInt ≤ 35) (hy9 : 1 ≤ y.toInt ∧ y.toInt ≤ 9) (he0 : HE kn0 knowF) (h2 : n1 < 36) (e3 : x = nI n1) (e5 : y4 = knowF (71 + n1)) (b6 : 0 ≤ y4.toInt) (b7 : y4.toInt ≤ 9) (e9 : y8 = knowF (71 + n1)) (b10 : 0 ≤ y8.toInt) (b11 : y8.toInt ≤ 9) (p13 : (r12 = y ∨ r12 = y8) ∧ r12.toInt ≤ y.toInt ∧ r12.toInt ≤ y8.toInt) (h15 : n14 < 10) (e16 : y4 = nI n14) (h18 : n17 < 10) (e19 : r12 = nI n17) (f22 : y20.toInt = ((n14 : Nat) : Int) - ((n17 : Nat) : Int)) : (71 + n1) < 373 := by
  have b_x := ia_b x
  have b_y := ia_b y
  have b_y4 := ia_b y4
  have b_y8 := ia_b y8
  have b_r12 := ia_b r12
  have b_y20 := ia_b y20
  try have k_0 := ia_n n1 (by first | decide | omega)
  try have k_1 := ia_n n14 (by first | decide | omega)
  try have k_2 := ia_n n17 (by first | decide | omega)
  try simp only [ia_lt, ia_le, ia_eq, ia_m1, ia_0, ia_1, ne_eq, true_and, and_true, false_and, and_false, or_false, false_or, or_true, true_or, not_true_eq_false, not_false_eq_true] at *
  all_goals omega
set_option maxRecDepth 20000 in
theorem lf_e_live3_13 (knowF : Nat → Int32) (kn0 : Nat → Int32) (x : Int32) (y : Int32) (n1 : Nat) (y4 : Int32) (y8 : Int32) (r12 : Int32) (n14 : Nat) (n17 : Nat) (y20 : Int32) (ab_now : NB knowF) (sb_now : SB knowF) (hc_x : 0 ≤ x.toInt ∧ x.toInt ≤ 35) (hy9 : 1 ≤ y.toInt ∧ y.toInt ≤ 9) (he0 : HE kn0 knowF) (h2 : n1 < 36) (e3 : x = nI n1) (e5 : y4 = knowF (71 + n1)) (b6 : 0 ≤ y4.toInt) (b7 : y4.toInt ≤ 9) (e9 : y8 = knowF (71 + n1)) (b10 : 0 ≤ y8.toInt) (b11 : y8.toInt ≤ 9) (p13 : (r12 = y ∨ r12 = y8) ∧ r12.toInt ≤ y.toInt ∧ r12.toInt ≤ y8.toInt) (h15 : n14 < 10) (e16 : y4 = nI n14) (h18 : n17 < 10) (e19 : r12 = nI n17) (f22 : y20.toInt = ((n14 : Nat) : Int) - ((n17 : Nat) : Int)) : 71 ≤ (71 + n1) := by
  have b_x := ia_b x
  have b_y := ia_b y
  have b_y4 := ia_b y4
  have b_y8 := ia_b y8
  have b_r12 := ia_b r12
  have b_y20 := ia_b y20
  try have k_0 := ia_n n1 (by first | decide | omega)
  try have k_1 := ia_n n14 (by first | decide | omega)
  try have k_2 := ia_n n17 (by first | decide | omega)
  try simp only [ia_lt, ia_le, ia_eq, ia_m1, ia_0, ia_1, ne_eq, true_and, and_true, false_and, and_false, or_false, false_or, or_true, true_or, not_true_eq_false, not_false_eq_true] at *
  all_goals omega
set_option maxRecDepth 20000 in
theorem lf_e_live3_14 (knowF : Nat → Int32) (kn0 : Nat → Int32) (x : Int32) (y : Int32) (n1 : Nat) (y4 : Int32) (y8 : Int32) (r12 : Int32) (n14 : Nat) (n17 : Nat) (y20 : Int32) (ab_now : NB knowF) (sb_now : SB knowF) (hc_x : 0 ≤ x.toInt ∧ x.toInt ≤ 35) (hy9 : 1 ≤ y.toInt ∧ y.toInt ≤ 9) (he0 : HE kn0 knowF) (h2 : n1 < 36) (e3 : x = nI n1) (e5 : y4 = knowF (71 + n1)) (b6 : 0 ≤ y4.toInt) (b7 : y4.toInt ≤ 9) (e9 : y8 = knowF (71 + n1)) (b10 : 0 ≤ y8.toInt) (b11 : y8.toInt ≤ 9) (p13 : (r12 = y ∨ r12 = y8) ∧ r12.toInt ≤ y.toInt ∧ r12.toInt ≤ y8.toInt) (h15 : n14 < 10) (e16 : y4 = nI n14) (h18 : n17 < 10) (e19 : r12 = nI n17) (f22 : y20.toInt = ((n14 : Nat) : Int) - ((n17 : Nat) : Int)) : (71 + n1) < 107 := by
  have b_x := ia_b x
  have b_y := ia_b y
  have b_y4 := ia_b y4
  have b_y8 := ia_b y8
  have b_r12 := ia_b r12
  have b_y20 := ia_b y20
  try have k_0 := ia_n n1 (by first | decide | omega)
  try have k_1 := ia_n n14 (by first | decide | omega)
  try have k_2 := ia_n n17 (by first | decide | omega)
  try simp only [ia_lt, ia_le, ia_eq, ia_m1, ia_0, ia_1, ne_eq, true_and, and_true, false_and, and_false, or_false, false_or, or_true, true_or, not_true_eq_false, not_false_eq_true] at *
  all_goals omega
set_option maxRecDepth 20000 in
theorem lf_e_live3_15 (knowF : Nat → Int32) (kn0 : Nat → Int32) (x : Int32) (y : Int32) (n1 : Nat) (y4 : Int32) (y8 : Int32) (r12 : Int32) (n14 : Nat) (n17 : Nat) (y20 : Int32) (ab_now : NB knowF) (sb_now : SB knowF) (hc_x : 0 ≤ x.toInt ∧ x.toInt ≤ 35) (hy9 : 1 ≤ y.toInt ∧ y.toInt ≤ 9) (he0 : HE kn0 knowF) (h2 : n1 < 36) (e3 : x = nI n1) (e5 : y4 = knowF (71 + n1)) (b6 : 0 ≤ y4.toInt) (b7 : y4.toInt ≤ 9) (e9 : y8 = knowF (71 + n1)) (b10 : 0 ≤ y8.toInt) (b11 : y8.toInt ≤ 9) (p13 : (r12 = y ∨ r12 = y8) ∧ r12.toInt ≤ y.toInt ∧ r12.toInt ≤ y8.toInt) (h15 : n14 < 10) (e16 : y4 = nI n14) (h18 : n17 < 10) (e19 : r12 = nI n17) (f22 : y20.toInt = ((n14 : Nat) : Int) - ((n17 : Nat) : Int)) : 67 ≤ (71 + n1) := by
  have b_x := ia_b x
  have b_y := ia_b y
  have b_y4 := ia_b y4
  have b_y8 := ia_b y8
  have b_r12 := ia_b r12
  have b_y20 := ia_b y20
  try have k_0 := ia_n n1 (by first | decide | omega)
  try have k_1 := ia_n n14 (by first | decide | omega)
  try have k_2 := ia_n n17 (by first | decide | omega)
  try simp only [ia_lt, ia_le, ia_eq, ia_m1, ia_0, ia_1, ne_eq, true_and, and_true, false_and, and_false, or_false, false_or, or_true, true_or, not_true_eq_false, not_false_eq_true] at *
  all_goals omega
set_option maxHeartbeats 4000000 in
set_option maxRecDepth 100000 in
theorem c_e_live3 (l : Launch) (dC : Nat → ClassId) (dI : Nat → Nat → Nat) (ky : Nat → ClassId) (sz : Nat) (o : Nat) (kthrown : Int32) (ktape : Nat) (ktaped : Nat) (ksize : Nat) (klimit : Nat) (kto : Nat) (kfrom : Nat) (kkind : Int32) (knumber : Int32) (ksign : Int32) (kfault : Int32) (kplace : Int32) (kword : Int64) (ktold : Int32) (know : Nat) (kread : Nat) (kkept : Nat) (ksnaps : Nat) (kaside : Nat) (kname : Nat) (kreadName : Nat) (kkeptName : Nat) (kisKept : Nat) (konces : Nat) (ksnapMany : Nat) (khasCells : Int32) (kpoured : Nat) (kfar : Nat) (ksides : Nat) (ksideMany : Nat) (kwayDays : Int32) (khasWay : Int32) (klines : Nat) (kmet : Nat) (kmetMany : Nat) (ksunk : Nat) (ktrying : Nat) (ksunkMany : Nat) (ksending : Int32) (kfleets : Int32) (ktext : Nat) (ktexts : Nat) (kseed : Int32) (kline : Nat) (kwritten : Nat) (klineMany : Nat) (khasWritten : Int32) (knode : Nat) (knodes : Nat) (konesMany : Nat) (kwithin : Nat) (ktop : Nat) (knowF : Nat → Int32) (kn0 : Nat → Int32) (x : Int32) (y : Int32) (iv_ko_0 : ktaped ≤ 940) (iv_ko_1 : ksize ≤ 940) (iv_ko_2 : klimit ≤ 900) (iv_ko_3 : kto ≤ ksize) (iv_ko_4 : kfrom ≤ 940) (iv_ko_5 : ksnapMany ≤ 8) (iv_ko_6 : ksideMany ≤ 36) (iv_ko_7 : kmetMany ≤ 3) (iv_ko_8 : ksunkMany ≤ 36) (iv_ko_9 : ktexts ≤ 64) (iv_ko_10 : klineMany ≤ 40) (iv_ko_11 : knodes ≤ 60) (iv_ko_12 : konesMany ≤ 20) (iv_ko_13 : kwithin ≤ 8) (iv_ko_14 : ktop ≤ 59) (ab_now : NB knowF) (sb_now : SB knowF) (hc_x : 0 ≤ x.toInt ∧ x.toInt ≤ 35) (hy9 : 1 ≤ y.toInt ∧ y.toInt ≤ 9) (he0 : HE kn0 knowF) : Met l yX12_live wsX12_live ({ frames := 1, cells := 0, slots := 0, locals := 21 }) (PcU dC dI ky [.ref o, .int (nI 3), .int x, .int y] [(o, .inr (12, [.int kthrown, .ref ktape, .int (nI ktaped), .int (nI ksize), .int (nI klimit), .int (nI kto), .int (nI kfrom), .int kkind, .int knumber, .int ksign, .int kfault, .int kplace, .long kword, .int ktold, .ref know, .ref kread, .ref kkept, .ref ksnaps, .ref kaside, .ref kname, .ref kreadName, .ref kkeptName, .ref kisKept, .ref konces, .int (nI ksnapMany), .int khasCells, .ref kpoured, .ref kfar, .ref ksides, .int (nI ksideMany), .int kwayDays, .int khasWay, .ref klines, .ref kmet, .int (nI kmetMany), .ref ksunk, .ref ktrying, .int (nI ksunkMany), .int ksending, .int kfleets, .ref ktext, .int (nI ktexts), .int kseed, .ref kline, .ref kwritten, .int (nI klineMany), .int khasWritten, .ref knode, .int (nI knodes), .int (nI konesMany), .int (nI kwithin), .int (nI ktop)])), (know, .inl (ky 0, 373, .inl knowF))] sz) (va_Qv (fun (knowG : (Nat → Int32)) => (NB knowG) ∧ (SB knowG) ∧ (HE kn0 knowG)) (BU dC dI ky (fun (knowG : (Nat → Int32)) => [(o, .inr (12, [.int kthrown, .ref ktape, .int (nI ktaped), .int (nI ksize), .int (nI klimit), .int (nI kto), .int (nI kfrom), .int kkind, .int knumber, .int ksign, .int kfault, .int kplace, .long kword, .int ktold, .ref know, .ref kread, .ref kkept, .ref ksnaps, .ref kaside, .ref kname, .ref kreadName, .ref kkeptName, .ref kisKept, .ref konces, .int (nI ksnapMany), .int khasCells, .ref kpoured, .ref kfar, .ref ksides, .int (nI ksideMany), .int kwayDays, .int khasWay, .ref klines, .ref kmet, .int (nI kmetMany), .ref ksunk, .ref ktrying, .int (nI ksunkMany), .int ksending, .int kfleets, .ref ktext, .int (nI ktexts), .int kseed, .ref kline, .ref kwritten, .int (nI klineMany), .int khasWritten, .ref knode, .int (nI knodes), .int (nI konesMany), .int (nI kwithin), .int (nI ktop)])), (know, .inl (ky 0, 373, .inl knowG))]) (va_A [(o, .inr (12, [.int kthrown, .ref ktape, .int (nI ktaped), .int (nI ksize), .int (nI klimit), .int (nI kto), .int (nI kfrom), .int kkind, .int knumber, .int ksign, .int kfault, .int kplace, .long kword, .int ktold, .ref know, .ref kread, .ref kkept, .ref ksnaps, .ref kaside, .ref kname, .ref kreadName, .ref kkeptName, .ref kisKept, .ref konces, .int (nI ksnapMany), .int khasCells, .ref kpoured, .ref kfar, .ref ksides, .int (nI ksideMany), .int kwayDays, .int khasWay, .ref klines, .ref kmet, .int (nI kmetMany), .ref ksunk, .ref ktrying, .int (nI ksunkMany), .int ksending, .int kfleets, .ref ktext, .int (nI ktexts), .int kseed, .ref kline, .ref kwritten, .int (nI klineMany), .int khasWritten, .ref knode, .int (nI knodes), .int (nI konesMany), .int (nI kwithin), .int (nI ktop)])), (know, .inl (ky 0, 373, .inl knowF))] sz)) (va_A [(o, .inr (12, [.int kthrown, .ref ktape, .int (nI ktaped), .int (nI ksize), .int (nI klimit), .int (nI kto), .int (nI kfrom), .int kkind, .int knumber, .int ksign, .int kfault, .int kplace, .long kword, .int ktold, .ref know, .ref kread, .ref kkept, .ref ksnaps, .ref kaside, .ref kname, .ref kreadName, .ref kkeptName, .ref kisKept, .ref konces, .int (nI ksnapMany), .int khasCells, .ref kpoured, .ref kfar, .ref ksides, .int (nI ksideMany), .int kwayDays, .int khasWay, .ref klines, .ref kmet, .int (nI kmetMany), .ref ksunk, .ref ktrying, .int (nI ksunkMany), .int ksending, .int kfleets, .ref ktext, .int (nI ktexts), .int kseed, .ref kline, .ref kwritten, .int (nI klineMany), .int khasWritten, .ref knode, .int (nI knodes), .int (nI konesMany), .int (nI kwithin), .int (nI ktop)])), (know, .inl (ky 0, 373, .inl knowF))] sz)) 0 0 (va_A [(o, .inr (12, [.int kthrown, .ref ktape, .int (nI ktaped), .int (nI ksize), .int (nI klimit), .int (nI kto), .int (nI kfrom), .int kkind, .int knumber, .int ksign, .int kfault, .int kplace, .long kword, .int ktold, .ref know, .ref kread, .ref kkept, .ref ksnaps, .ref kaside, .ref kname, .ref kreadName, .ref kkeptName, .ref kisKept, .ref konces, .int (nI ksnapMany), .int khasCells, .ref kpoured, .ref kfar, .ref ksides, .int (nI ksideMany), .int kwayDays, .int khasWay, .ref klines, .ref kmet, .int (nI kmetMany), .ref ksunk, .ref ktrying, .int (nI ksunkMany), .int ksending, .int kfleets, .ref ktext, .int (nI ktexts), .int kseed, .ref kline, .ref kwritten, .int (nI klineMany), .int khasWritten, .ref knode, .int (nI knodes), .int (nI konesMany), .int (nI kwithin), .int (nI ktop)])), (know, .inl (ky 0, 373, .inl knowF))] sz) := by
  refine Met.ofW (cc := cX12_live) (maxL := 4) (ret := none) (by decide) rfl ?_
  intro p e s m args below meth c s₁ B hml hv
  obtain ⟨rfl, hsz, hP, hK, hD0⟩ := hv
  have hx := B.exec
  have hb := B.bytes
  have hr := B.returns
  have hts := atoms_spec (ws := wsX12_live) B.pre
  have hown : s.vm.findClass RX12 = some m.cls := findClass_of_methodNamed B.named
  have hlocks := B.notSynchronized
  have hin12 : ∀ w ∈ u_ws RX12 TX12 52, w ∈ wsX12_live := by decide +kernel
  subst hsz
  have hD := hD0.self (sz := s.heap.size)
  generalize hAe : va_A [(o, .inr (12, [.int kthrown, .ref ktape, .int (nI ktaped), .int (nI ksize), .int (nI klimit), .int (nI kto), .int (nI kfrom), .int kkind, .int knumber, .int ksign, .int kfault, .int kplace, .long kword, .int ktold, .ref know, .ref kread, .ref kkept, .ref ksnaps, .ref kaside, .ref kname, .ref kreadName, .ref kkeptName, .ref kisKept, .ref konces, .int (nI ksnapMany), .int khasCells, .ref kpoured, .ref kfar, .ref ksides, .int (nI ksideMany), .int kwayDays, .int khasWay, .ref klines, .ref kmet, .int (nI kmetMany), .ref ksunk, .ref ktrying, .int (nI ksunkMany), .int ksending, .int kfleets, .ref ktext, .int (nI ktexts), .int kseed, .ref kline, .ref kwritten, .int (nI klineMany), .int khasWritten, .ref knode, .int (nI knodes), .int (nI konesMany), .int (nI kwithin), .int (nI ktop)])), (know, .inl (ky 0, 373, .inl knowF))] s.heap.size = A at hD ⊢
  have hA : ∀ q : Nat, s.heap.size ≤ q → A q := fun q h => by rw [← hAe]; exact Or.inr h
  have hS : va_S A s.heap s.heap [] := va_S.rf
  have hl := lv_entry ([.ref o, .int (nI 3), .int x, .int y]) (n := 4) (Nat.le_of_ble_eq_true rfl)
  rw [lg_entry_eq]
  generalize (lg_sl ([.ref o, .int (nI 3), .int x, .int y]) ++ List.replicate (4 - (lg_sl ([.ref o, .int (nI 3), .int x, .int y])).length) Slot.unset).toArray = ls at hl ⊢
  have hl : lv_has ls 4 [(0, .ref o), (1, .int (nI 3)), (2, .int x), (3, .int y)] := hl
  refine q_name (fun Q hQ => ?_)
  generalize ([.ref o, .int (nI 3), .int x, .int y] : List Value).toArray = args at hts hQ ⊢
  refine lv_iload_n hx hb dX12_live_0 rfl (lv_at hl 1 rfl) ?_
  refine lv_tableIn (off := 123) (tgt := 124) hx hb dX12_live_1 (by decide) (by decide) rfl (by decide) ?_
  refine lv_aload_n hx hb dX12_live_124 rfl (lv_at hl 0 rfl) ?_
  refine va_get (D := (dC, dI)) (ci := 12) (v := .ref know) (C := RX12) (T := TX12) (N := 52) hx hb hts hin12 hown hK hP 0 rfl rfl 14 (by decide) (hts (.fieldLink RX12 98 "PorridgeSeaModel" "now" "[I") (List.mem_of_getElem? (i := 1) rfl)) (fun _ h9 => h9) rfl dX12_live_125 ?_
  refine lv_bipush (v := nI 71) hx hb dX12_live_128 (by decide) ?_
  refine lv_iload_n hx hb dX12_live_130 rfl (lv_at hl 2 rfl) ?_
  obtain ⟨n1, h2, e3⟩ := nat_of x 36 (by decide) (lf_e_live3_1 x hc_x)
  rw [e3]
  refine lv_iadd hx hb dX12_live_131 ?_
  refine r_ti (nI (71 + n1)) (nI_add _ _) ?_
  refine lv_dup2_11 hx hb dX12_live_132 rfl rfl ?_
  obtain ⟨y4, e5⟩ : ∃ z9, z9 = knowF (71 + n1) := ⟨_, rfl⟩
  refine r_iald hx hb hK hP 1 rfl (71 + n1) (lf_e_live3_2 knowF kn0 x n1 y4 ab_now sb_now hc_x he0 h2 e3 e5) (by decide) y4 e5.symm dX12_live_133 ?_
  obtain ⟨b6, b7⟩ : (0 : Int) ≤ y4.toInt ∧ y4.toInt ≤ 9 := by rw [e5]; exact ld_NB_71 ab_now (71 + n1) (lf_e_live3_3 knowF kn0 x n1 y4 ab_now sb_now hc_x he0 h2 e3 e5) (lf_e_live3_4 knowF kn0 x n1 y4 ab_now sb_now hc_x he0 h2 e3 e5)
  refine lv_iload_n hx hb dX12_live_134 rfl (lv_at hl 3 rfl) ?_
  refine lv_aload_n hx hb dX12_live_135 rfl (lv_at hl 0 rfl) ?_
  refine va_get (D := (dC, dI)) (ci := 12) (v := .ref know) (C := RX12) (T := TX12) (N := 52) hx hb hts hin12 hown hK hP 0 rfl rfl 14 (by decide) (hts (.fieldLink RX12 98 "PorridgeSeaModel" "now" "[I") (List.mem_of_getElem? (i := 1) rfl)) (fun _ h9 => h9) rfl dX12_live_136 ?_
  refine lv_bipush (v := nI 71) hx hb dX12_live_139 (by decide) ?_
  refine lv_iload_n hx hb dX12_live_141 rfl (lv_at hl 2 rfl) ?_
  rw [e3]
  refine lv_iadd hx hb dX12_live_142 ?_
  refine r_ti (nI (71 + n1)) (nI_add _ _) ?_
  obtain ⟨y8, e9⟩ : ∃ z9, z9 = knowF (71 + n1) := ⟨_, rfl⟩
  refine r_iald hx hb hK hP 1 rfl (71 + n1) (lf_e_live3_5 knowF kn0 x n1 y4 y8 ab_now sb_now hc_x he0 h2 e3 e5 b6 b7 e9) (by decide) y8 e9.symm dX12_live_143 ?_
  obtain ⟨b10, b11⟩ : (0 : Int) ≤ y8.toInt ∧ y8.toInt ≤ 9 := by rw [e9]; exact ld_NB_71 ab_now (71 + n1) (lf_e_live3_6 knowF kn0 x n1 y4 y8 ab_now sb_now hc_x he0 h2 e3 e5 b6 b7 e9) (lf_e_live3_7 knowF kn0 x n1 y4 y8 ab_now sb_now hc_x he0 h2 e3 e5 b6 b7 e9)
  refine vp_callSi (W.runS (As := [.int y, .int y8]) (rest := [.int y4, .int (nI (71 + n1)), .ref know]) ⟨hx, hb, hml, hown, hts⟩ (c_x_least l dC dI ky y y8) (va_cwS 2 hts gX12_live_X12_least rfl rfl rfl (by decide +kernel) ⟨(Nat.le_of_ble_eq_true rfl), (Nat.le_of_ble_eq_true rfl)⟩) (pre_PS hK hP [] rfl) rfl rfl hl.1 rfl (lv_room (Nat.le_of_ble_eq_true rfl)) dX12_live_144 ⟨(Nat.le_of_ble_eq_true rfl), (Nat.le_of_ble_eq_true rfl)⟩) (fun r12 p13 => ?_)
  obtain ⟨n14, h15, e16⟩ := nat_of y4 10 (by decide) (lf_e_live3_8 knowF kn0 x y n1 y4 y8 r12 ab_now sb_now hc_x hy9 he0 h2 e3 e5 b6 b7 e9 b10 b11 p13)
  rw [e16]
  obtain ⟨n17, h18, e19⟩ := nat_of r12 10 (by decide) (lf_e_live3_9 knowF kn0 x y n1 y4 y8 r12 n14 ab_now sb_now hc_x hy9 he0 h2 e3 e5 b6 b7 e9 b10 b11 p13 h15 e16)
  rw [e19]
  refine lv_isub hx hb dX12_live_147 ?_
  refine lv_topi (fun y20 e21 => ?_)
  have f22 : y20.toInt = ((n14 : Nat) : Int) - ((n17 : Nat) : Int) := by rw [e21]; exact ia_sub _ _ (by omega) (by omega)
  refine r_iast (x := y20) hx hb hK hP hD hS 1 rfl (71 + n1) (lf_e_live3_12 knowF kn0 x y n1 y4 y8 r12 n14 n17 y20 ab_now sb_now hc_x hy9 he0 h2 e3 e5 b6 b7 e9 b10 b11 p13 h15 e16 h18 e19 f22) (by decide) dX12_live_148 (fun H locs hP hD hS => ?_)
  obtain ⟨g23, e24⟩ : ∃ z9, z9 = upd knowF (71 + n1) y20 := ⟨_, rfl⟩
  rw [← e24] at hP hD
  have nb25 : NB g23 := by rw [e24]; exact st_NB_71 ab_now (71 + n1) (lf_e_live3_13 knowF kn0 x y n1 y4 y8 r12 n14 n17 y20 ab_now sb_now hc_x hy9 he0 h2 e3 e5 b6 b7 e9 b10 b11 p13 h15 e16 h18 e19 f22) (lf_e_live3_14 knowF kn0 x y n1 y4 y8 r12 n14 n17 y20 ab_now sb_now hc_x hy9 he0 h2 e3 e5 b6 b7 e9 b10 b11 p13 h15 e16 h18 e19 f22) (lf_e_live3_10 knowF kn0 x y n1 y4 y8 r12 n14 n17 y20 ab_now sb_now hc_x hy9 he0 h2 e3 e5 b6 b7 e9 b10 b11 p13 h15 e16 h18 e19 f22) (lf_e_live3_11 knowF kn0 x y n1 y4 y8 r12 n14 n17 y20 ab_now sb_now hc_x hy9 he0 h2 e3 e5 b6 b7 e9 b10 b11 p13 h15 e16 h18 e19 f22)
  have sb26 : SB g23 := by rw [e24]; exact SB_lo sb_now _ _ (by omega)
  have he27 : HE kn0 g23 := by rw [e24]; exact HE_upd he0 (lf_e_live3_15 knowF kn0 x y n1 y4 y8 r12 n14 n17 y20 ab_now sb_now hc_x hy9 he0 h2 e3 e5 b6 b7 e9 b10 b11 p13 h15 e16 h18 e19 f22) _
  have hP : va_P (dC, dI) vwCl [(o, .inr (12, [.int kthrown, .ref ktape, .int (nI ktaped), .int (nI ksize), .int (nI klimit), .int (nI kto), .int (nI kfrom), .int kkind, .int knumber, .int ksign, .int kfault, .int kplace, .long kword, .int ktold, .ref know, .ref kread, .ref kkept, .ref ksnaps, .ref kaside, .ref kname, .ref kreadName, .ref kkeptName, .ref kisKept, .ref konces, .int (nI ksnapMany), .int khasCells, .ref kpoured, .ref kfar, .ref ksides, .int (nI ksideMany), .int kwayDays, .int khasWay, .ref klines, .ref kmet, .int (nI kmetMany), .ref ksunk, .ref ktrying, .int (nI ksunkMany), .int ksending, .int kfleets, .ref ktext, .int (nI ktexts), .int kseed, .ref kline, .ref kwritten, .int (nI klineMany), .int khasWritten, .ref knode, .int (nI knodes), .int (nI konesMany), .int (nI kwithin), .int (nI ktop)])), (know, .inl (ky 0, 373, .inl g23))] H := hP
  have hD : va_D A [(o, .inr (12, [.int kthrown, .ref ktape, .int (nI ktaped), .int (nI ksize), .int (nI klimit), .int (nI kto), .int (nI kfrom), .int kkind, .int knumber, .int ksign, .int kfault, .int kplace, .long kword, .int ktold, .ref know, .ref kread, .ref kkept, .ref ksnaps, .ref kaside, .ref kname, .ref kreadName, .ref kkeptName, .ref kisKept, .ref konces, .int (nI ksnapMany), .int khasCells, .ref kpoured, .ref kfar, .ref ksides, .int (nI ksideMany), .int kwayDays, .int khasWay, .ref klines, .ref kmet, .int (nI kmetMany), .ref ksunk, .ref ktrying, .int (nI ksunkMany), .int ksending, .int kfleets, .ref ktext, .int (nI ktexts), .int kseed, .ref kline, .ref kwritten, .int (nI klineMany), .int khasWritten, .ref knode, .int (nI knodes), .int (nI konesMany), .int (nI kwithin), .int (nI ktop)])), (know, .inl (ky 0, 373, .inl g23))] := hD
  rw [hQ]
  exact W.vret hx hb hr (fun t9 ht9 hW9 => ⟨⟨g23, rfl, ⟨nb25, sb26, he27⟩, by rw [ht9]; exact hP, va_K.moved hW9.alike hK, hD⟩, hS.F ht9⟩) hS.2.2 dX12_live_149
set_option maxRecDepth 20000 in
theorem lf_e_live4_1 (knowF : Nat → Int32) (kn0 : Nat → Int32) (x : Int32) (y1 : Int32) (y3 : Int32) (r5 : Int32) (ab_now : NB knowF) (sb_now : SB knowF) (he0 : HE kn0 knowF) (e2 : y1 = knowF 68) (e4 : y3 = y1 + x) (p6 : (r5 = (nI 30) ∨ r5 = y3) ∧ r5.toInt ≤ (nI 30).toInt ∧ r5.toInt ≤ y3.toInt) : -2147483648 ≤ (r5).toInt := by
  have b_x := ia_b x
  have b_y1 := ia_b y1
  have b_y3 := ia_b y3
  have b_r5 := ia_b r5
  try have k_0 := ia_n 30 (by first | decide | omega)
  try simp only [ia_lt, ia_le, ia_eq, ia_m1, ia_0, ia_1, ne_eq, true_and, and_true, false_and, and_false, or_false, false_or, or_true, true_or, not_true_eq_false, not_false_eq_true] at *
  all_goals omega
set_option maxRecDepth 20000 in
theorem lf_e_live4_2 (knowF : Nat → Int32) (kn0 : Nat → Int32) (x : Int32) (y1 : Int32) (y3 : Int32) (r5 : Int32) (ab_now : NB knowF) (sb_now : SB knowF) (he0 : HE kn0 knowF) (e2 : y1 = knowF 68) (e4 : y3 = y1 + x) (p6 : (r5 = (nI 30) ∨ r5 = y3) ∧ r5.toInt ≤ (nI 30).toInt ∧ r5.toInt ≤ y3.toInt) : (r5).toInt ≤ 2147483647 := by
  have b_x := ia_b x
  have b_y1 := ia_b y1
  have b_y3 := ia_b y3
  have b_r5 := ia_b r5
  try have k_0 := ia_n 30 (by first | decide | omega)
  try simp only [ia_lt, ia_le, ia_eq, ia_m1, ia_0, ia_1, ne_eq, true_and, and_true, false_and, and_false, or_false, false_or, or_true, true_or, not_true_eq_false, not_false_eq_true] at *
  all_goals omega
set_option maxHeartbeats 4000000 in
set_option maxRecDepth 100000 in
theorem c_e_live4 (l : Launch) (dC : Nat → ClassId) (dI : Nat → Nat → Nat) (ky : Nat → ClassId) (sz : Nat) (o : Nat) (kthrown : Int32) (ktape : Nat) (ktaped : Nat) (ksize : Nat) (klimit : Nat) (kto : Nat) (kfrom : Nat) (kkind : Int32) (knumber : Int32) (ksign : Int32) (kfault : Int32) (kplace : Int32) (kword : Int64) (ktold : Int32) (know : Nat) (kread : Nat) (kkept : Nat) (ksnaps : Nat) (kaside : Nat) (kname : Nat) (kreadName : Nat) (kkeptName : Nat) (kisKept : Nat) (konces : Nat) (ksnapMany : Nat) (khasCells : Int32) (kpoured : Nat) (kfar : Nat) (ksides : Nat) (ksideMany : Nat) (kwayDays : Int32) (khasWay : Int32) (klines : Nat) (kmet : Nat) (kmetMany : Nat) (ksunk : Nat) (ktrying : Nat) (ksunkMany : Nat) (ksending : Int32) (kfleets : Int32) (ktext : Nat) (ktexts : Nat) (kseed : Int32) (kline : Nat) (kwritten : Nat) (klineMany : Nat) (khasWritten : Int32) (knode : Nat) (knodes : Nat) (konesMany : Nat) (kwithin : Nat) (ktop : Nat) (knowF : Nat → Int32) (kn0 : Nat → Int32) (x : Int32) (y : Int32) (iv_ko_0 : ktaped ≤ 940) (iv_ko_1 : ksize ≤ 940) (iv_ko_2 : klimit ≤ 900) (iv_ko_3 : kto ≤ ksize) (iv_ko_4 : kfrom ≤ 940) (iv_ko_5 : ksnapMany ≤ 8) (iv_ko_6 : ksideMany ≤ 36) (iv_ko_7 : kmetMany ≤ 3) (iv_ko_8 : ksunkMany ≤ 36) (iv_ko_9 : ktexts ≤ 64) (iv_ko_10 : klineMany ≤ 40) (iv_ko_11 : knodes ≤ 60) (iv_ko_12 : konesMany ≤ 20) (iv_ko_13 : kwithin ≤ 8) (iv_ko_14 : ktop ≤ 59) (ab_now : NB knowF) (sb_now : SB knowF) (he0 : HE kn0 knowF) : Met l yX12_live wsX12_live ({ frames := 1, cells := 0, slots := 0, locals := 21 }) (PcU dC dI ky [.ref o, .int (nI 4), .int x, .int y] [(o, .inr (12, [.int kthrown, .ref ktape, .int (nI ktaped), .int (nI ksize), .int (nI klimit), .int (nI kto), .int (nI kfrom), .int kkind, .int knumber, .int ksign, .int kfault, .int kplace, .long kword, .int ktold, .ref know, .ref kread, .ref kkept, .ref ksnaps, .ref kaside, .ref kname, .ref kreadName, .ref kkeptName, .ref kisKept, .ref konces, .int (nI ksnapMany), .int khasCells, .ref kpoured, .ref kfar, .ref ksides, .int (nI ksideMany), .int kwayDays, .int khasWay, .ref klines, .ref kmet, .int (nI kmetMany), .ref ksunk, .ref ktrying, .int (nI ksunkMany), .int ksending, .int kfleets, .ref ktext, .int (nI ktexts), .int kseed, .ref kline, .ref kwritten, .int (nI klineMany), .int khasWritten, .ref knode, .int (nI knodes), .int (nI konesMany), .int (nI kwithin), .int (nI ktop)])), (know, .inl (ky 0, 373, .inl knowF))] sz) (va_Qv (fun (knowG : (Nat → Int32)) => (NB knowG) ∧ (SB knowG) ∧ (HE kn0 knowG)) (BU dC dI ky (fun (knowG : (Nat → Int32)) => [(o, .inr (12, [.int kthrown, .ref ktape, .int (nI ktaped), .int (nI ksize), .int (nI klimit), .int (nI kto), .int (nI kfrom), .int kkind, .int knumber, .int ksign, .int kfault, .int kplace, .long kword, .int ktold, .ref know, .ref kread, .ref kkept, .ref ksnaps, .ref kaside, .ref kname, .ref kreadName, .ref kkeptName, .ref kisKept, .ref konces, .int (nI ksnapMany), .int khasCells, .ref kpoured, .ref kfar, .ref ksides, .int (nI ksideMany), .int kwayDays, .int khasWay, .ref klines, .ref kmet, .int (nI kmetMany), .ref ksunk, .ref ktrying, .int (nI ksunkMany), .int ksending, .int kfleets, .ref ktext, .int (nI ktexts), .int kseed, .ref kline, .ref kwritten, .int (nI klineMany), .int khasWritten, .ref knode, .int (nI knodes), .int (nI konesMany), .int (nI kwithin), .int (nI ktop)])), (know, .inl (ky 0, 373, .inl knowG))]) (va_A [(o, .inr (12, [.int kthrown, .ref ktape, .int (nI ktaped), .int (nI ksize), .int (nI klimit), .int (nI kto), .int (nI kfrom), .int kkind, .int knumber, .int ksign, .int kfault, .int kplace, .long kword, .int ktold, .ref know, .ref kread, .ref kkept, .ref ksnaps, .ref kaside, .ref kname, .ref kreadName, .ref kkeptName, .ref kisKept, .ref konces, .int (nI ksnapMany), .int khasCells, .ref kpoured, .ref kfar, .ref ksides, .int (nI ksideMany), .int kwayDays, .int khasWay, .ref klines, .ref kmet, .int (nI kmetMany), .ref ksunk, .ref ktrying, .int (nI ksunkMany), .int ksending, .int kfleets, .ref ktext, .int (nI ktexts), .int kseed, .ref kline, .ref kwritten, .int (nI klineMany), .int khasWritten, .ref knode, .int (nI knodes), .int (nI konesMany), .int (nI kwithin), .int (nI ktop)])), (know, .inl (ky 0, 373, .inl knowF))] sz)) (va_A [(o, .inr (12, [.int kthrown, .ref ktape, .int (nI ktaped), .int (nI ksize), .int (nI klimit), .int (nI kto), .int (nI kfrom), .int kkind, .int knumber, .int ksign, .int kfault, .int kplace, .long kword, .int ktold, .ref know, .ref kread, .ref kkept, .ref ksnaps, .ref kaside, .ref kname, .ref kreadName, .ref kkeptName, .ref kisKept, .ref konces, .int (nI ksnapMany), .int khasCells, .ref kpoured, .ref kfar, .ref ksides, .int (nI ksideMany), .int kwayDays, .int khasWay, .ref klines, .ref kmet, .int (nI kmetMany), .ref ksunk, .ref ktrying, .int (nI ksunkMany), .int ksending, .int kfleets, .ref ktext, .int (nI ktexts), .int kseed, .ref kline, .ref kwritten, .int (nI klineMany), .int khasWritten, .ref knode, .int (nI knodes), .int (nI konesMany), .int (nI kwithin), .int (nI ktop)])), (know, .inl (ky 0, 373, .inl knowF))] sz)) 0 0 (va_A [(o, .inr (12, [.int kthrown, .ref ktape, .int (nI ktaped), .int (nI ksize), .int (nI klimit), .int (nI kto), .int (nI kfrom), .int kkind, .int knumber, .int ksign, .int kfault, .int kplace, .long kword, .int ktold, .ref know, .ref kread, .ref kkept, .ref ksnaps, .ref kaside, .ref kname, .ref kreadName, .ref kkeptName, .ref kisKept, .ref konces, .int (nI ksnapMany), .int khasCells, .ref kpoured, .ref kfar, .ref ksides, .int (nI ksideMany), .int kwayDays, .int khasWay, .ref klines, .ref kmet, .int (nI kmetMany), .ref ksunk, .ref ktrying, .int (nI ksunkMany), .int ksending, .int kfleets, .ref ktext, .int (nI ktexts), .int kseed, .ref kline, .ref kwritten, .int (nI klineMany), .int khasWritten, .ref knode, .int (nI knodes), .int (nI konesMany), .int (nI kwithin), .int (nI ktop)])), (know, .inl (ky 0, 373, .inl knowF))] sz) := by
  refine Met.ofW (cc := cX12_live) (maxL := 4) (ret := none) (by decide) rfl ?_
  intro p e s m args below meth c s₁ B hml hv
  obtain ⟨rfl, hsz, hP, hK, hD0⟩ := hv
  have hx := B.exec
  have hb := B.bytes
  have hr := B.returns
  have hts := atoms_spec (ws := wsX12_live) B.pre
  have hown : s.vm.findClass RX12 = some m.cls := findClass_of_methodNamed B.named
  have hlocks := B.notSynchronized
  have hin12 : ∀ w ∈ u_ws RX12 TX12 52, w ∈ wsX12_live := by decide +kernel
  subst hsz
  have hD := hD0.self (sz := s.heap.size)
  generalize hAe : va_A [(o, .inr (12, [.int kthrown, .ref ktape, .int (nI ktaped), .int (nI ksize), .int (nI klimit), .int (nI kto), .int (nI kfrom), .int kkind, .int knumber, .int ksign, .int kfault, .int kplace, .long kword, .int ktold, .ref know, .ref kread, .ref kkept, .ref ksnaps, .ref kaside, .ref kname, .ref kreadName, .ref kkeptName, .ref kisKept, .ref konces, .int (nI ksnapMany), .int khasCells, .ref kpoured, .ref kfar, .ref ksides, .int (nI ksideMany), .int kwayDays, .int khasWay, .ref klines, .ref kmet, .int (nI kmetMany), .ref ksunk, .ref ktrying, .int (nI ksunkMany), .int ksending, .int kfleets, .ref ktext, .int (nI ktexts), .int kseed, .ref kline, .ref kwritten, .int (nI klineMany), .int khasWritten, .ref knode, .int (nI knodes), .int (nI konesMany), .int (nI kwithin), .int (nI ktop)])), (know, .inl (ky 0, 373, .inl knowF))] s.heap.size = A at hD ⊢
  have hA : ∀ q : Nat, s.heap.size ≤ q → A q := fun q h => by rw [← hAe]; exact Or.inr h
  have hS : va_S A s.heap s.heap [] := va_S.rf
  have hl := lv_entry ([.ref o, .int (nI 4), .int x, .int y]) (n := 4) (Nat.le_of_ble_eq_true rfl)
  rw [lg_entry_eq]
  generalize (lg_sl ([.ref o, .int (nI 4), .int x, .int y]) ++ List.replicate (4 - (lg_sl ([.ref o, .int (nI 4), .int x, .int y])).length) Slot.unset).toArray = ls at hl ⊢
  have hl : lv_has ls 4 [(0, .ref o), (1, .int (nI 4)), (2, .int x), (3, .int y)] := hl
  refine q_name (fun Q hQ => ?_)
  generalize ([.ref o, .int (nI 4), .int x, .int y] : List Value).toArray = args at hts hQ ⊢
  refine lv_iload_n hx hb dX12_live_0 rfl (lv_at hl 1 rfl) ?_
  refine lv_tableOut (tgt := 150) hx hb dX12_live_1 (by decide) (by decide) ?_
  refine lv_aload_n hx hb dX12_live_150 rfl (lv_at hl 0 rfl) ?_
  refine va_get (D := (dC, dI)) (ci := 12) (v := .ref know) (C := RX12) (T := TX12) (N := 52) hx hb hts hin12 hown hK hP 0 rfl rfl 14 (by decide) (hts (.fieldLink RX12 98 "PorridgeSeaModel" "now" "[I") (List.mem_of_getElem? (i := 1) rfl)) (fun _ h9 => h9) rfl dX12_live_151 ?_
  refine lv_bipush (v := nI 68) hx hb dX12_live_154 (by decide) ?_
  refine lv_bipush (v := nI 30) hx hb dX12_live_156 (by decide) ?_
  refine lv_aload_n hx hb dX12_live_158 rfl (lv_at hl 0 rfl) ?_
  refine va_get (D := (dC, dI)) (ci := 12) (v := .ref know) (C := RX12) (T := TX12) (N := 52) hx hb hts hin12 hown hK hP 0 rfl rfl 14 (by decide) (hts (.fieldLink RX12 98 "PorridgeSeaModel" "now" "[I") (List.mem_of_getElem? (i := 1) rfl)) (fun _ h9 => h9) rfl dX12_live_159 ?_
  refine lv_bipush (v := nI 68) hx hb dX12_live_162 (by decide) ?_
  obtain ⟨y1, e2⟩ : ∃ z9, z9 = knowF 68 := ⟨_, rfl⟩
  refine r_iald hx hb hK hP 1 rfl 68 (by decide) (by decide) y1 e2.symm dX12_live_164 ?_
  refine lv_iload_n hx hb dX12_live_165 rfl (lv_at hl 2 rfl) ?_
  refine lv_iadd hx hb dX12_live_166 ?_
  refine lv_topi (fun y3 e4 => ?_)
  refine vp_callSi (W.runS (As := [.int (nI 30), .int y3]) (rest := [.int (nI 68), .ref know]) ⟨hx, hb, hml, hown, hts⟩ (c_x_least l dC dI ky (nI 30) y3) (va_cwS 2 hts gX12_live_X12_least rfl rfl rfl (by decide +kernel) ⟨(Nat.le_of_ble_eq_true rfl), (Nat.le_of_ble_eq_true rfl)⟩) (pre_PS hK hP [] rfl) rfl rfl hl.1 rfl (lv_room (Nat.le_of_ble_eq_true rfl)) dX12_live_167 ⟨(Nat.le_of_ble_eq_true rfl), (Nat.le_of_ble_eq_true rfl)⟩) (fun r5 p6 => ?_)
  refine r_iast (x := r5) hx hb hK hP hD hS 1 rfl 68 (by decide) (by decide) dX12_live_170 (fun H locs hP hD hS => ?_)
  obtain ⟨g7, e8⟩ : ∃ z9, z9 = upd knowF 68 r5 := ⟨_, rfl⟩
  rw [← e8] at hP hD
  have nb9 : NB g7 := by rw [e8]; exact st_NB_67 ab_now 68 (by decide) (by decide) (lf_e_live4_1 knowF kn0 x y1 y3 r5 ab_now sb_now he0 e2 e4 p6) (lf_e_live4_2 knowF kn0 x y1 y3 r5 ab_now sb_now he0 e2 e4 p6)
  have sb10 : SB g7 := by rw [e8]; exact SB_lo sb_now _ _ (by omega)
  have he11 : HE kn0 g7 := by rw [e8]; exact HE_upd he0 (by decide) _
  have hP : va_P (dC, dI) vwCl [(o, .inr (12, [.int kthrown, .ref ktape, .int (nI ktaped), .int (nI ksize), .int (nI klimit), .int (nI kto), .int (nI kfrom), .int kkind, .int knumber, .int ksign, .int kfault, .int kplace, .long kword, .int ktold, .ref know, .ref kread, .ref kkept, .ref ksnaps, .ref kaside, .ref kname, .ref kreadName, .ref kkeptName, .ref kisKept, .ref konces, .int (nI ksnapMany), .int khasCells, .ref kpoured, .ref kfar, .ref ksides, .int (nI ksideMany), .int kwayDays, .int khasWay, .ref klines, .ref kmet, .int (nI kmetMany), .ref ksunk, .ref ktrying, .int (nI ksunkMany), .int ksending, .int kfleets, .ref ktext, .int (nI ktexts), .int kseed, .ref kline, .ref kwritten, .int (nI klineMany), .int khasWritten, .ref knode, .int (nI knodes), .int (nI konesMany), .int (nI kwithin), .int (nI ktop)])), (know, .inl (ky 0, 373, .inl g7))] H := hP
  have hD : va_D A [(o, .inr (12, [.int kthrown, .ref ktape, .int (nI ktaped), .int (nI ksize), .int (nI klimit), .int (nI kto), .int (nI kfrom), .int kkind, .int knumber, .int ksign, .int kfault, .int kplace, .long kword, .int ktold, .ref know, .ref kread, .ref kkept, .ref ksnaps, .ref kaside, .ref kname, .ref kreadName, .ref kkeptName, .ref kisKept, .ref konces, .int (nI ksnapMany), .int khasCells, .ref kpoured, .ref kfar, .ref ksides, .int (nI ksideMany), .int kwayDays, .int khasWay, .ref klines, .ref kmet, .int (nI kmetMany), .ref ksunk, .ref ktrying, .int (nI ksunkMany), .int ksending, .int kfleets, .ref ktext, .int (nI ktexts), .int kseed, .ref kline, .ref kwritten, .int (nI klineMany), .int khasWritten, .ref knode, .int (nI knodes), .int (nI konesMany), .int (nI kwithin), .int (nI ktop)])), (know, .inl (ky 0, 373, .inl g7))] := hD
  rw [hQ]
  exact W.vret hx hb hr (fun t9 ht9 hW9 => ⟨⟨g7, rfl, ⟨nb9, sb10, he11⟩, by rw [ht9]; exact hP, va_K.moved hW9.alike hK, hD⟩, hS.F ht9⟩) hS.2.2 dX12_live_171
set_option maxHeartbeats 4000000 in
set_option maxRecDepth 100000 in
theorem c_e_act0 (l : Launch) (dC : Nat → ClassId) (dI : Nat → Nat → Nat) (ky : Nat → ClassId) (sz : Nat) (o : Nat) (kthrown : Int32) (ktape : Nat) (ktaped : Nat) (ksize : Nat) (klimit : Nat) (kto : Nat) (kfrom : Nat) (kkind : Int32) (knumber : Int32) (ksign : Int32) (kfault : Int32) (kplace : Int32) (kword : Int64) (ktold : Int32) (know : Nat) (kread : Nat) (kkept : Nat) (ksnaps : Nat) (kaside : Nat) (kname : Nat) (kreadName : Nat) (kkeptName : Nat) (kisKept : Nat) (konces : Nat) (ksnapMany : Nat) (khasCells : Int32) (kpoured : Nat) (kfar : Nat) (ksides : Nat) (ksideMany : Nat) (kwayDays : Int32) (khasWay : Int32) (klines : Nat) (kmet : Nat) (kmetMany : Nat) (ksunk : Nat) (ktrying : Nat) (ksunkMany : Nat) (ksending : Int32) (kfleets : Int32) (ktext : Nat) (ktexts : Nat) (kseed : Int32) (kline : Nat) (kwritten : Nat) (klineMany : Nat) (khasWritten : Int32) (knode : Nat) (knodes : Nat) (konesMany : Nat) (kwithin : Nat) (ktop : Nat) (knowF : Nat → Int32) (kpouredF : Nat → Int32) (ksnapsF : Nat → Int32) (kn0 : Nat → Int32) (x : Int32) (y : Int32) (iv_ko_0 : ktaped ≤ 940) (iv_ko_1 : ksize ≤ 940) (iv_ko_2 : klimit ≤ 900) (iv_ko_3 : kto ≤ ksize) (iv_ko_4 : kfrom ≤ 940) (iv_ko_5 : ksnapMany ≤ 8) (iv_ko_6 : ksideMany ≤ 36) (iv_ko_7 : kmetMany ≤ 3) (iv_ko_8 : ksunkMany ≤ 36) (iv_ko_9 : ktexts ≤ 64) (iv_ko_10 : klineMany ≤ 40) (iv_ko_11 : knodes ≤ 60) (iv_ko_12 : konesMany ≤ 20) (iv_ko_13 : kwithin ≤ 8) (iv_ko_14 : ktop ≤ 59) (ab_now : NB knowF) (ab_poured : AP36 kpouredF) (ab_snaps : AB512 ksnapsF) (sb_now : SB knowF) (hl_x : 0 ≤ x.toInt ∧ x.toInt ≤ 23) (he0 : HE kn0 knowF) : Met l yX12_act wsX12_act ({ frames := 3, cells := 0, slots := 0, locals := 72 }) (PcU dC dI ky [.ref o, .int (nI 0), .int x, .int y, .int (nI 1)] [(o, .inr (12, [.int kthrown, .ref ktape, .int (nI ktaped), .int (nI ksize), .int (nI klimit), .int (nI kto), .int (nI kfrom), .int kkind, .int knumber, .int ksign, .int kfault, .int kplace, .long kword, .int ktold, .ref know, .ref kread, .ref kkept, .ref ksnaps, .ref kaside, .ref kname, .ref kreadName, .ref kkeptName, .ref kisKept, .ref konces, .int (nI ksnapMany), .int khasCells, .ref kpoured, .ref kfar, .ref ksides, .int (nI ksideMany), .int kwayDays, .int khasWay, .ref klines, .ref kmet, .int (nI kmetMany), .ref ksunk, .ref ktrying, .int (nI ksunkMany), .int ksending, .int kfleets, .ref ktext, .int (nI ktexts), .int kseed, .ref kline, .ref kwritten, .int (nI klineMany), .int khasWritten, .ref knode, .int (nI knodes), .int (nI konesMany), .int (nI kwithin), .int (nI ktop)])), (know, .inl (ky 0, 373, .inl knowF)), (kpoured, .inl (ky 0, 36, .inl kpouredF)), (ksnaps, .inl (ky 0, 512, .inl ksnapsF))] sz) (va_Qi (fun (r : Int32) (u : Nat × (Nat → Int32) × (Nat → Int32) × (Nat → Int32)) => match u with | (ksnapManyG, knowG, kpouredG, ksnapsG) => (ksnapManyG ≤ 8) ∧ (NB knowG) ∧ (SB knowG) ∧ (AP36 kpouredG) ∧ (AB512 ksnapsG) ∧ (HE kn0 knowG)) (BU dC dI ky (fun (u : Nat × (Nat → Int32) × (Nat → Int32) × (Nat → Int32)) => match u with | (ksnapManyG, knowG, kpouredG, ksnapsG) => [(o, .inr (12, [.int kthrown, .ref ktape, .int (nI ktaped), .int (nI ksize), .int (nI klimit), .int (nI kto), .int (nI kfrom), .int kkind, .int knumber, .int ksign, .int kfault, .int kplace, .long kword, .int ktold, .ref know, .ref kread, .ref kkept, .ref ksnaps, .ref kaside, .ref kname, .ref kreadName, .ref kkeptName, .ref kisKept, .ref konces, .int (nI ksnapManyG), .int khasCells, .ref kpoured, .ref kfar, .ref ksides, .int (nI ksideMany), .int kwayDays, .int khasWay, .ref klines, .ref kmet, .int (nI kmetMany), .ref ksunk, .ref ktrying, .int (nI ksunkMany), .int ksending, .int kfleets, .ref ktext, .int (nI ktexts), .int kseed, .ref kline, .ref kwritten, .int (nI klineMany), .int khasWritten, .ref knode, .int (nI knodes), .int (nI konesMany), .int (nI kwithin), .int (nI ktop)])), (know, .inl (ky 0, 373, .inl knowG)), (kpoured, .inl (ky 0, 36, .inl kpouredG)), (ksnaps, .inl (ky 0, 512, .inl ksnapsG))]) (va_A [(o, .inr (12, [.int kthrown, .ref ktape, .int (nI ktaped), .int (nI ksize), .int (nI klimit), .int (nI kto), .int (nI kfrom), .int kkind, .int knumber, .int ksign, .int kfault, .int kplace, .long kword, .int ktold, .ref know, .ref kread, .ref kkept, .ref ksnaps, .ref kaside, .ref kname, .ref kreadName, .ref kkeptName, .ref kisKept, .ref konces, .int (nI ksnapMany), .int khasCells, .ref kpoured, .ref kfar, .ref ksides, .int (nI ksideMany), .int kwayDays, .int khasWay, .ref klines, .ref kmet, .int (nI kmetMany), .ref ksunk, .ref ktrying, .int (nI ksunkMany), .int ksending, .int kfleets, .ref ktext, .int (nI ktexts), .int kseed, .ref kline, .ref kwritten, .int (nI klineMany), .int khasWritten, .ref knode, .int (nI knodes), .int (nI konesMany), .int (nI kwithin), .int (nI ktop)])), (know, .inl (ky 0, 373, .inl knowF)), (kpoured, .inl (ky 0, 36, .inl kpouredF)), (ksnaps, .inl (ky 0, 512, .inl ksnapsF))] sz)) (va_A [(o, .inr (12, [.int kthrown, .ref ktape, .int (nI ktaped), .int (nI ksize), .int (nI klimit), .int (nI kto), .int (nI kfrom), .int kkind, .int knumber, .int ksign, .int kfault, .int kplace, .long kword, .int ktold, .ref know, .ref kread, .ref kkept, .ref ksnaps, .ref kaside, .ref kname, .ref kreadName, .ref kkeptName, .ref kisKept, .ref konces, .int (nI ksnapMany), .int khasCells, .ref kpoured, .ref kfar, .ref ksides, .int (nI ksideMany), .int kwayDays, .int khasWay, .ref klines, .ref kmet, .int (nI kmetMany), .ref ksunk, .ref ktrying, .int (nI ksunkMany), .int ksending, .int kfleets, .ref ktext, .int (nI ktexts), .int kseed, .ref kline, .ref kwritten, .int (nI klineMany), .int khasWritten, .ref knode, .int (nI knodes), .int (nI konesMany), .int (nI kwithin), .int (nI ktop)])), (know, .inl (ky 0, 373, .inl knowF)), (kpoured, .inl (ky 0, 36, .inl kpouredF)), (ksnaps, .inl (ky 0, 512, .inl ksnapsF))] sz)) 0 0 (va_A [(o, .inr (12, [.int kthrown, .ref ktape, .int (nI ktaped), .int (nI ksize), .int (nI klimit), .int (nI kto), .int (nI kfrom), .int kkind, .int knumber, .int ksign, .int kfault, .int kplace, .long kword, .int ktold, .ref know, .ref kread, .ref kkept, .ref ksnaps, .ref kaside, .ref kname, .ref kreadName, .ref kkeptName, .ref kisKept, .ref konces, .int (nI ksnapMany), .int khasCells, .ref kpoured, .ref kfar, .ref ksides, .int (nI ksideMany), .int kwayDays, .int khasWay, .ref klines, .ref kmet, .int (nI kmetMany), .ref ksunk, .ref ktrying, .int (nI ksunkMany), .int ksending, .int kfleets, .ref ktext, .int (nI ktexts), .int kseed, .ref kline, .ref kwritten, .int (nI klineMany), .int khasWritten, .ref knode, .int (nI knodes), .int (nI konesMany), .int (nI kwithin), .int (nI ktop)])), (know, .inl (ky 0, 373, .inl knowF)), (kpoured, .inl (ky 0, 36, .inl kpouredF)), (ksnaps, .inl (ky 0, 512, .inl ksnapsF))] sz) := by
  refine Met.ofW (cc := cX12_act) (maxL := 6) (ret := (some .int)) (by decide) rfl ?_
  intro p e s m args below meth c s₁ B hml hv
  obtain ⟨rfl, hsz, hP, hK, hD0⟩ := hv
  have hx := B.exec
  have hb := B.bytes
  have hr := B.returns
  have hts := atoms_spec (ws := wsX12_act) B.pre
  have hown : s.vm.findClass RX12 = some m.cls := findClass_of_methodNamed B.named
  have hlocks := B.notSynchronized
  subst hsz
  have hD := hD0.self (sz := s.heap.size)
  generalize hAe : va_A [(o, .inr (12, [.int kthrown, .ref ktape, .int (nI ktaped), .int (nI ksize), .int (nI klimit), .int (nI kto), .int (nI kfrom), .int kkind, .int knumber, .int ksign, .int kfault, .int kplace, .long kword, .int ktold, .ref know, .ref kread, .ref kkept, .ref ksnaps, .ref kaside, .ref kname, .ref kreadName, .ref kkeptName, .ref kisKept, .ref konces, .int (nI ksnapMany), .int khasCells, .ref kpoured, .ref kfar, .ref ksides, .int (nI ksideMany), .int kwayDays, .int khasWay, .ref klines, .ref kmet, .int (nI kmetMany), .ref ksunk, .ref ktrying, .int (nI ksunkMany), .int ksending, .int kfleets, .ref ktext, .int (nI ktexts), .int kseed, .ref kline, .ref kwritten, .int (nI klineMany), .int khasWritten, .ref knode, .int (nI knodes), .int (nI konesMany), .int (nI kwithin), .int (nI ktop)])), (know, .inl (ky 0, 373, .inl knowF)), (kpoured, .inl (ky 0, 36, .inl kpouredF)), (ksnaps, .inl (ky 0, 512, .inl ksnapsF))] s.heap.size = A at hD ⊢
  have hA : ∀ q : Nat, s.heap.size ≤ q → A q := fun q h => by rw [← hAe]; exact Or.inr h
  have hS : va_S A s.heap s.heap [] := va_S.rf
  have hl := lv_entry ([.ref o, .int (nI 0), .int x, .int y, .int (nI 1)]) (n := 6) (Nat.le_of_ble_eq_true rfl)
  rw [lg_entry_eq]
  generalize (lg_sl ([.ref o, .int (nI 0), .int x, .int y, .int (nI 1)]) ++ List.replicate (6 - (lg_sl ([.ref o, .int (nI 0), .int x, .int y, .int (nI 1)])).length) Slot.unset).toArray = ls at hl ⊢
  have hl : lv_has ls 6 [(0, .ref o), (1, .int (nI 0)), (2, .int x), (3, .int y), (4, .int (nI 1))] := hl
  refine q_name (fun Q hQ => ?_)
  generalize ([.ref o, .int (nI 0), .int x, .int y, .int (nI 1)] : List Value).toArray = args at hts hQ ⊢
  refine lv_iload hx hb dX12_act_0 (lv_at hl 4 rfl) ?_
  refine lv_if_ne (tgt := 7) hx hb dX12_act_2 (by decide) (fun c1 => ?_) (fun c1 => absurd c1 (by decide))
  refine lv_aload_n hx hb dX12_act_7 rfl (lv_at hl 0 rfl) ?_
  refine lv_iload_n hx hb dX12_act_8 rfl (lv_at hl 1 rfl) ?_
  refine lv_iload_n hx hb dX12_act_9 rfl (lv_at hl 2 rfl) ?_
  refine lv_iload_n hx hb dX12_act_10 rfl (lv_at hl 3 rfl) ?_
  refine vp_callSi (W.runV (As := [.int (nI 0), .int x, .int y]) (rest := []) ⟨hx, hb, hml, hown, hts⟩ (c_x_why0 l dC dI ky o kthrown ktape ktaped ksize klimit kto kfrom kkind knumber ksign kfault kplace kword ktold know kread kkept ksnaps kaside kname kreadName kkeptName kisKept konces ksnapMany khasCells kpoured kfar ksides ksideMany kwayDays khasWay klines kmet kmetMany ksunk ktrying ksunkMany ksending kfleets ktext ktexts kseed kline kwritten klineMany khasWritten knode knodes konesMany kwithin ktop knowF x y iv_ko_0 iv_ko_1 iv_ko_2 iv_ko_3 iv_ko_4 iv_ko_5 iv_ko_6 iv_ko_7 iv_ko_8 iv_ko_9 iv_ko_10 iv_ko_11 iv_ko_12 iv_ko_13 iv_ko_14 ab_now) (cwV 3 hts gX12_act_X12_why rfl rfl rfl (by decide +kernel) ⟨(Nat.le_of_ble_eq_true rfl), (Nat.le_of_ble_eq_true rfl)⟩) (pre_PV hK hP [0, 1] rfl (ci := 12) (q0 := 0) rfl rfl) rfl rfl hl.1 rfl (lv_room (Nat.le_of_ble_eq_true rfl)) dX12_act_11 ⟨(Nat.le_of_ble_eq_true rfl), (Nat.le_of_ble_eq_true rfl)⟩) (fun r2 p3 => ?_)
  refine lv_istore (lv' := [(5, .int r2), (0, .ref o), (1, .int (nI 0)), (2, .int x), (3, .int y), (4, .int (nI 1))]) hx hb dX12_act_14 hl (by decide) rfl (fun ls hl => ?_)
  refine lv_iload hx hb dX12_act_16 (lv_at hl 0 rfl) ?_
  refine lv_if_eq (tgt := 24) hx hb dX12_act_18 (by decide) (fun c4 => ?_) (fun c4 => ?_)
  · refine lv_aload_n hx hb dX12_act_24 rfl (lv_at hl 1 rfl) ?_
    refine r_call_v (wr := [(kpoured, .inl (ky 0, 36, .inl kpouredF))]) (va_runV (As := []) (rest := []) ⟨hx, hb, hml, hown, hts⟩ (c_x_snap l dC dI ky s.heap.size o kthrown ktape ktaped ksize klimit kto kfrom kkind knumber ksign kfault kplace kword ktold know kread kkept ksnaps kaside kname kreadName kkeptName kisKept konces ksnapMany khasCells kpoured kfar ksides ksideMany kwayDays khasWay klines kmet kmetMany ksunk ktrying ksunkMany ksending kfleets ktext ktexts kseed kline kwritten klineMany khasWritten knode knodes konesMany kwithin ktop knowF ksnapsF iv_ko_0 iv_ko_1 iv_ko_2 iv_ko_3 iv_ko_4 iv_ko_5 iv_ko_6 iv_ko_7 iv_ko_8 iv_ko_9 iv_ko_10 iv_ko_11 iv_ko_12 iv_ko_13 iv_ko_14 ab_now ab_snaps) (cwV 0 hts gX12_act_X12_snap rfl rfl rfl (by decide +kernel) ⟨(Nat.le_of_ble_eq_true rfl), (Nat.le_of_ble_eq_true rfl)⟩) (pre_UV hK hP hD [0, 1, 3] (by decide) rfl (ci := 12) (q0 := 0) rfl rfl) rfl rfl hl.1 rfl (lv_room (Nat.le_of_ble_eq_true rfl)) dX12_act_25 ⟨(Nat.le_of_ble_eq_true rfl), (Nat.le_of_ble_eq_true rfl)⟩) hP hD hS hA [0, 1, 3] [2] rfl rfl (by decide) (by decide) (fun  u5 H locs p6 hP hD hS => ?_)
    obtain ⟨ksnapManyG_7, ksnapsG_8⟩ := u5
    try dsimp only at p6
    obtain ⟨p9, p10⟩ := p6
    refine W.widen (k := 0) (n := 0) (Nat.le_of_ble_eq_true rfl) (Nat.le_of_ble_eq_true rfl) ?_
    have hP : va_P (dC, dI) vwCl [(kpoured, .inl (ky 0, 36, .inl kpouredF)), (o, .inr (12, [.int kthrown, .ref ktape, .int (nI ktaped), .int (nI ksize), .int (nI klimit), .int (nI kto), .int (nI kfrom), .int kkind, .int knumber, .int ksign, .int kfault, .int kplace, .long kword, .int ktold, .ref know, .ref kread, .ref kkept, .ref ksnaps, .ref kaside, .ref kname, .ref kreadName, .ref kkeptName, .ref kisKept, .ref konces, .int (nI ksnapManyG_7), .int khasCells, .ref kpoured, .ref kfar, .ref ksides, .int (nI ksideMany), .int kwayDays, .int khasWay, .ref klines, .ref kmet, .int (nI kmetMany), .ref ksunk, .ref ktrying, .int (nI ksunkMany), .int ksending, .int kfleets, .ref ktext, .int (nI ktexts), .int kseed, .ref kline, .ref kwritten, .int (nI klineMany), .int khasWritten, .ref knode, .int (nI knodes), .int (nI konesMany), .int (nI kwithin), .int (nI ktop)])), (know, .inl (ky 0, 373, .inl knowF)), (ksnaps, .inl (ky 0, 512, .inl ksnapsG_8))] H := hP
    have hD : va_D A [(kpoured, .inl (ky 0, 36, .inl kpouredF)), (o, .inr (12, [.int kthrown, .ref ktape, .int (nI ktaped), .int (nI ksize), .int (nI klimit), .int (nI kto), .int (nI kfrom), .int kkind, .int knumber, .int ksign, .int kfault, .int kplace, .long kword, .int ktold, .ref know, .ref kread, .ref kkept, .ref ksnaps, .ref kaside, .ref kname, .ref kreadName, .ref kkeptName, .ref kisKept, .ref konces, .int (nI ksnapManyG_7), .int khasCells, .ref kpoured, .ref kfar, .ref ksides, .int (nI ksideMany), .int kwayDays, .int khasWay, .ref klines, .ref kmet, .int (nI kmetMany), .ref ksunk, .ref ktrying, .int (nI ksunkMany), .int ksending, .int kfleets, .ref ktext, .int (nI ktexts), .int kseed, .ref kline, .ref kwritten, .int (nI klineMany), .int khasWritten, .ref knode, .int (nI knodes), .int (nI konesMany), .int (nI kwithin), .int (nI ktop)])), (know, .inl (ky 0, 373, .inl knowF)), (ksnaps, .inl (ky 0, 512, .inl ksnapsG_8))] := hD
    refine lv_aload_n hx hb dX12_act_28 rfl (lv_at hl 1 rfl) ?_
    refine lv_iload_n hx hb dX12_act_29 rfl (lv_at hl 2 rfl) ?_
    refine lv_iload_n hx hb dX12_act_30 rfl (lv_at hl 3 rfl) ?_
    refine lv_iload_n hx hb dX12_act_31 rfl (lv_at hl 4 rfl) ?_
    refine r_call_v (wr := [(ksnaps, .inl (ky 0, 512, .inl ksnapsG_8))]) (va_runV (As := [.int (nI 0), .int x, .int y]) (rest := []) ⟨hx, hb, hml, hown, hts⟩ (c_e_live0 l dC dI ky H.size o kthrown ktape ktaped ksize klimit kto kfrom kkind knumber ksign kfault kplace kword ktold know kread kkept ksnaps kaside kname kreadName kkeptName kisKept konces ksnapManyG_7 khasCells kpoured kfar ksides ksideMany kwayDays khasWay klines kmet kmetMany ksunk ktrying ksunkMany ksending kfleets ktext ktexts kseed kline kwritten klineMany khasWritten knode knodes konesMany kwithin ktop knowF kpouredF kn0 x y iv_ko_0 iv_ko_1 iv_ko_2 iv_ko_3 iv_ko_4 p9 iv_ko_6 iv_ko_7 iv_ko_8 iv_ko_9 iv_ko_10 iv_ko_11 iv_ko_12 iv_ko_13 iv_ko_14 ab_now ab_poured sb_now hl_x he0) (cwV 3 hts gX12_act_X12_live rfl rfl rfl (by decide +kernel) ⟨(Nat.le_of_ble_eq_true rfl), (Nat.le_of_ble_eq_true rfl)⟩) (pre_UV hK hP hD [1, 2, 0] (by decide) rfl (ci := 12) (q0 := 1) rfl rfl) rfl rfl hl.1 rfl (lv_room (Nat.le_of_ble_eq_true rfl)) dX12_act_32 ⟨(Nat.le_of_ble_eq_true rfl), (Nat.le_of_ble_eq_true rfl)⟩) hP hD hS hA [1, 2, 0] [3] rfl rfl (by decide) (by decide) (fun  u11 H locs p12 hP hD hS => ?_)
    obtain ⟨knowG_13, kpouredG_14⟩ := u11
    try dsimp only at p12
    obtain ⟨p15, p16, p17, p18⟩ := p12
    refine W.widen (k := 0) (n := 0) (Nat.le_of_ble_eq_true rfl) (Nat.le_of_ble_eq_true rfl) ?_
    have hP : va_P (dC, dI) vwCl [(ksnaps, .inl (ky 0, 512, .inl ksnapsG_8)), (o, .inr (12, [.int kthrown, .ref ktape, .int (nI ktaped), .int (nI ksize), .int (nI klimit), .int (nI kto), .int (nI kfrom), .int kkind, .int knumber, .int ksign, .int kfault, .int kplace, .long kword, .int ktold, .ref know, .ref kread, .ref kkept, .ref ksnaps, .ref kaside, .ref kname, .ref kreadName, .ref kkeptName, .ref kisKept, .ref konces, .int (nI ksnapManyG_7), .int khasCells, .ref kpoured, .ref kfar, .ref ksides, .int (nI ksideMany), .int kwayDays, .int khasWay, .ref klines, .ref kmet, .int (nI kmetMany), .ref ksunk, .ref ktrying, .int (nI ksunkMany), .int ksending, .int kfleets, .ref ktext, .int (nI ktexts), .int kseed, .ref kline, .ref kwritten, .int (nI klineMany), .int khasWritten, .ref knode, .int (nI knodes), .int (nI konesMany), .int (nI kwithin), .int (nI ktop)])), (know, .inl (ky 0, 373, .inl knowG_13)), (kpoured, .inl (ky 0, 36, .inl kpouredG_14))] H := hP
    have hD : va_D A [(ksnaps, .inl (ky 0, 512, .inl ksnapsG_8)), (o, .inr (12, [.int kthrown, .ref ktape, .int (nI ktaped), .int (nI ksize), .int (nI klimit), .int (nI kto), .int (nI kfrom), .int kkind, .int knumber, .int ksign, .int kfault, .int kplace, .long kword, .int ktold, .ref know, .ref kread, .ref kkept, .ref ksnaps, .ref kaside, .ref kname, .ref kreadName, .ref kkeptName, .ref kisKept, .ref konces, .int (nI ksnapManyG_7), .int khasCells, .ref kpoured, .ref kfar, .ref ksides, .int (nI ksideMany), .int kwayDays, .int khasWay, .ref klines, .ref kmet, .int (nI kmetMany), .ref ksunk, .ref ktrying, .int (nI ksunkMany), .int ksending, .int kfleets, .ref ktext, .int (nI ktexts), .int kseed, .ref kline, .ref kwritten, .int (nI klineMany), .int khasWritten, .ref knode, .int (nI knodes), .int (nI konesMany), .int (nI kwithin), .int (nI ktop)])), (know, .inl (ky 0, 373, .inl knowG_13)), (kpoured, .inl (ky 0, 36, .inl kpouredG_14))] := hD
    refine lv_iconst (v := nI 0) hx hb dX12_act_35 (by decide) ?_
    rw [hQ]
    have hP9 := hP.sub (ws' := [(o, .inr (12, [.int kthrown, .ref ktape, .int (nI ktaped), .int (nI ksize), .int (nI klimit), .int (nI kto), .int (nI kfrom), .int kkind, .int knumber, .int ksign, .int kfault, .int kplace, .long kword, .int ktold, .ref know, .ref kread, .ref kkept, .ref ksnaps, .ref kaside, .ref kname, .ref kreadName, .ref kkeptName, .ref kisKept, .ref konces, .int (nI ksnapManyG_7), .int khasCells, .ref kpoured, .ref kfar, .ref ksides, .int (nI ksideMany), .int kwayDays, .int khasWay, .ref klines, .ref kmet, .int (nI kmetMany), .ref ksunk, .ref ktrying, .int (nI ksunkMany), .int ksending, .int kfleets, .ref ktext, .int (nI ktexts), .int kseed, .ref kline, .ref kwritten, .int (nI klineMany), .int khasWritten, .ref knode, .int (nI knodes), .int (nI konesMany), .int (nI kwithin), .int (nI ktop)])), (know, .inl (ky 0, 373, .inl knowG_13)), (kpoured, .inl (ky 0, 36, .inl kpouredG_14)), (ksnaps, .inl (ky 0, 512, .inl ksnapsG_8))]) [1, 2, 3, 0] rfl
    have hD9 := hD.sub (ws' := [(o, .inr (12, [.int kthrown, .ref ktape, .int (nI ktaped), .int (nI ksize), .int (nI klimit), .int (nI kto), .int (nI kfrom), .int kkind, .int knumber, .int ksign, .int kfault, .int kplace, .long kword, .int ktold, .ref know, .ref kread, .ref kkept, .ref ksnaps, .ref kaside, .ref kname, .ref kreadName, .ref kkeptName, .ref kisKept, .ref konces, .int (nI ksnapManyG_7), .int khasCells, .ref kpoured, .ref kfar, .ref ksides, .int (nI ksideMany), .int kwayDays, .int khasWay, .ref klines, .ref kmet, .int (nI kmetMany), .ref ksunk, .ref ktrying, .int (nI ksunkMany), .int ksending, .int kfleets, .ref ktext, .int (nI ktexts), .int kseed, .ref kline, .ref kwritten, .int (nI klineMany), .int khasWritten, .ref knode, .int (nI knodes), .int (nI konesMany), .int (nI kwithin), .int (nI ktop)])), (know, .inl (ky 0, 373, .inl knowG_13)), (kpoured, .inl (ky 0, 36, .inl kpouredG_14)), (ksnaps, .inl (ky 0, 512, .inl ksnapsG_8))]) [1, 2, 3, 0] (by decide) rfl
    exact W.iret (v := nI 0) hx hb hr (fun t9 ht9 hW9 => ⟨⟨nI 0, (ksnapManyG_7, knowG_13, kpouredG_14, ksnapsG_8), rfl, ⟨p9, p15, p16, p17, p10, p18⟩, by rw [ht9]; exact hP9, va_K.moved hW9.alike hK, hD9⟩, hS.F ht9⟩) hS.2.2 dX12_act_36
  · refine lv_iload hx hb dX12_act_21 (lv_at hl 0 rfl) ?_
    rw [hQ]
    exact W.iret (v := r2) hx hb hr (fun t9 ht9 hW9 => ⟨⟨r2, (ksnapMany, knowF, kpouredF, ksnapsF), rfl, ⟨iv_ko_5, ab_now, sb_now, ab_poured, ab_snaps, he0⟩, by rw [ht9]; exact hP, va_K.moved hW9.alike hK, hD⟩, hS.F ht9⟩) hS.2.2 dX12_act_23
set_option maxRecDepth 20000 in
theorem lf_e_act1_1 (knowF : Nat → Int32) (kn0 : Nat → Int32) (bq : Nat) (y : Int32) (r2 : Int32) (ab_now : NB knowF) (sb_now : SB knowF) (hb6 : bq < 6) (hsd : 0 ≤ y.toInt ∧ y.toInt ≤ 3) (he0 : HE kn0 knowF) (p3 : ¬ r2 = nI 0 ∨ BSok (knowF (113 + bq)).toInt y.toInt (knowF 0).toInt (knowF 1).toInt) (c4 : r2 = 0) : BSok (knowF (113 + bq)).toInt y.toInt (knowF 0).toInt (knowF 1).toInt := by
  rcases p3 with h9 | h9
  · exfalso
    apply h9
    have b_y := ia_b y
    have b_r2 := ia_b r2
    try have k_0 := ia_n 0 (by first | decide | omega)
    try simp only [ia_lt, ia_le, ia_eq, ia_m1, ia_0, ia_1, ne_eq, true_and, and_true, false_and, and_false, or_false, false_or, or_true, true_or, not_true_eq_false, not_false_eq_true] at *
    all_goals omega
  · exact h9
set_option maxHeartbeats 4000000 in
set_option maxRecDepth 100000 in
theorem c_e_act1 (l : Launch) (dC : Nat → ClassId) (dI : Nat → Nat → Nat) (ky : Nat → ClassId) (sz : Nat) (o : Nat) (kthrown : Int32) (ktape : Nat) (ktaped : Nat) (ksize : Nat) (klimit : Nat) (kto : Nat) (kfrom : Nat) (kkind : Int32) (knumber : Int32) (ksign : Int32) (kfault : Int32) (kplace : Int32) (kword : Int64) (ktold : Int32) (know : Nat) (kread : Nat) (kkept : Nat) (ksnaps : Nat) (kaside : Nat) (kname : Nat) (kreadName : Nat) (kkeptName : Nat) (kisKept : Nat) (konces : Nat) (ksnapMany : Nat) (khasCells : Int32) (kpoured : Nat) (kfar : Nat) (ksides : Nat) (ksideMany : Nat) (kwayDays : Int32) (khasWay : Int32) (klines : Nat) (kmet : Nat) (kmetMany : Nat) (ksunk : Nat) (ktrying : Nat) (ksunkMany : Nat) (ksending : Int32) (kfleets : Int32) (ktext : Nat) (ktexts : Nat) (kseed : Int32) (kline : Nat) (kwritten : Nat) (klineMany : Nat) (khasWritten : Int32) (knode : Nat) (knodes : Nat) (konesMany : Nat) (kwithin : Nat) (ktop : Nat) (knowF : Nat → Int32) (ksnapsF : Nat → Int32) (kn0 : Nat → Int32) (bq : Nat) (y : Int32) (iv_ko_0 : ktaped ≤ 940) (iv_ko_1 : ksize ≤ 940) (iv_ko_2 : klimit ≤ 900) (iv_ko_3 : kto ≤ ksize) (iv_ko_4 : kfrom ≤ 940) (iv_ko_5 : ksnapMany ≤ 8) (iv_ko_6 : ksideMany ≤ 36) (iv_ko_7 : kmetMany ≤ 3) (iv_ko_8 : ksunkMany ≤ 36) (iv_ko_9 : ktexts ≤ 64) (iv_ko_10 : klineMany ≤ 40) (iv_ko_11 : knodes ≤ 60) (iv_ko_12 : konesMany ≤ 20) (iv_ko_13 : kwithin ≤ 8) (iv_ko_14 : ktop ≤ 59) (ab_now : NB knowF) (ab_snaps : AB512 ksnapsF) (sb_now : SB knowF) (hb6 : bq < 6) (hsd : 0 ≤ y.toInt ∧ y.toInt ≤ 3) (he0 : HE kn0 knowF) : Met l yX12_act wsX12_act ({ frames := 4, cells := 0, slots := 0, locals := 91 }) (PcU dC dI ky [.ref o, .int (nI 1), .int (nI bq), .int y, .int (nI 1)] [(o, .inr (12, [.int kthrown, .ref ktape, .int (nI ktaped), .int (nI ksize), .int (nI klimit), .int (nI kto), .int (nI kfrom), .int kkind, .int knumber, .int ksign, .int kfault, .int kplace, .long kword, .int ktold, .ref know, .ref kread, .ref kkept, .ref ksnaps, .ref kaside, .ref kname, .ref kreadName, .ref kkeptName, .ref kisKept, .ref konces, .int (nI ksnapMany), .int khasCells, .ref kpoured, .ref kfar, .ref ksides, .int (nI ksideMany), .int kwayDays, .int khasWay, .ref klines, .ref kmet, .int (nI kmetMany), .ref ksunk, .ref ktrying, .int (nI ksunkMany), .int ksending, .int kfleets, .ref ktext, .int (nI ktexts), .int kseed, .ref kline, .ref kwritten, .int (nI klineMany), .int khasWritten, .ref knode, .int (nI knodes), .int (nI konesMany), .int (nI kwithin), .int (nI ktop)])), (know, .inl (ky 0, 373, .inl knowF)), (ksnaps, .inl (ky 0, 512, .inl ksnapsF))] sz) (va_Qi (fun (r : Int32) (u : Nat × (Nat → Int32) × (Nat → Int32)) => match u with | (ksnapManyG, knowG, ksnapsG) => (ksnapManyG ≤ 8) ∧ (NB knowG) ∧ (SB knowG) ∧ (AB512 ksnapsG) ∧ (HE kn0 knowG)) (BU dC dI ky (fun (u : Nat × (Nat → Int32) × (Nat → Int32)) => match u with | (ksnapManyG, knowG, ksnapsG) => [(o, .inr (12, [.int kthrown, .ref ktape, .int (nI ktaped), .int (nI ksize), .int (nI klimit), .int (nI kto), .int (nI kfrom), .int kkind, .int knumber, .int ksign, .int kfault, .int kplace, .long kword, .int ktold, .ref know, .ref kread, .ref kkept, .ref ksnaps, .ref kaside, .ref kname, .ref kreadName, .ref kkeptName, .ref kisKept, .ref konces, .int (nI ksnapManyG), .int khasCells, .ref kpoured, .ref kfar, .ref ksides, .int (nI ksideMany), .int kwayDays, .int khasWay, .ref klines, .ref kmet, .int (nI kmetMany), .ref ksunk, .ref ktrying, .int (nI ksunkMany), .int ksending, .int kfleets, .ref ktext, .int (nI ktexts), .int kseed, .ref kline, .ref kwritten, .int (nI klineMany), .int khasWritten, .ref knode, .int (nI knodes), .int (nI konesMany), .int (nI kwithin), .int (nI ktop)])), (know, .inl (ky 0, 373, .inl knowG)), (ksnaps, .inl (ky 0, 512, .inl ksnapsG))]) (va_A [(o, .inr (12, [.int kthrown, .ref ktape, .int (nI ktaped), .int (nI ksize), .int (nI klimit), .int (nI kto), .int (nI kfrom), .int kkind, .int knumber, .int ksign, .int kfault, .int kplace, .long kword, .int ktold, .ref know, .ref kread, .ref kkept, .ref ksnaps, .ref kaside, .ref kname, .ref kreadName, .ref kkeptName, .ref kisKept, .ref konces, .int (nI ksnapMany), .int khasCells, .ref kpoured, .ref kfar, .ref ksides, .int (nI ksideMany), .int kwayDays, .int khasWay, .ref klines, .ref kmet, .int (nI kmetMany), .ref ksunk, .ref ktrying, .int (nI ksunkMany), .int ksending, .int kfleets, .ref ktext, .int (nI ktexts), .int kseed, .ref kline, .ref kwritten, .int (nI klineMany), .int khasWritten, .ref knode, .int (nI knodes), .int (nI konesMany), .int (nI kwithin), .int (nI ktop)])), (know, .inl (ky 0, 373, .inl knowF)), (ksnaps, .inl (ky 0, 512, .inl ksnapsF))] sz)) (va_A [(o, .inr (12, [.int kthrown, .ref ktape, .int (nI ktaped), .int (nI ksize), .int (nI klimit), .int (nI kto), .int (nI kfrom), .int kkind, .int knumber, .int ksign, .int kfault, .int kplace, .long kword, .int ktold, .ref know, .ref kread, .ref kkept, .ref ksnaps, .ref kaside, .ref kname, .ref kreadName, .ref kkeptName, .ref kisKept, .ref konces, .int (nI ksnapMany), .int khasCells, .ref kpoured, .ref kfar, .ref ksides, .int (nI ksideMany), .int kwayDays, .int khasWay, .ref klines, .ref kmet, .int (nI kmetMany), .ref ksunk, .ref ktrying, .int (nI ksunkMany), .int ksending, .int kfleets, .ref ktext, .int (nI ktexts), .int kseed, .ref kline, .ref kwritten, .int (nI klineMany), .int khasWritten, .ref knode, .int (nI knodes), .int (nI konesMany), .int (nI kwithin), .int (nI ktop)])), (know, .inl (ky 0, 373, .inl knowF)), (ksnaps, .inl (ky 0, 512, .inl ksnapsF))] sz)) 0 0 (va_A [(o, .inr (12, [.int kthrown, .ref ktape, .int (nI ktaped), .int (nI ksize), .int (nI klimit), .int (nI kto), .int (nI kfrom), .int kkind, .int knumber, .int ksign, .int kfault, .int kplace, .long kword, .int ktold, .ref know, .ref kread, .ref kkept, .ref ksnaps, .ref kaside, .ref kname, .ref kreadName, .ref kkeptName, .ref kisKept, .ref konces, .int (nI ksnapMany), .int khasCells, .ref kpoured, .ref kfar, .ref ksides, .int (nI ksideMany), .int kwayDays, .int khasWay, .ref klines, .ref kmet, .int (nI kmetMany), .ref ksunk, .ref ktrying, .int (nI ksunkMany), .int ksending, .int kfleets, .ref ktext, .int (nI ktexts), .int kseed, .ref kline, .ref kwritten, .int (nI klineMany), .int khasWritten, .ref knode, .int (nI knodes), .int (nI konesMany), .int (nI kwithin), .int (nI ktop)])), (know, .inl (ky 0, 373, .inl knowF)), (ksnaps, .inl (ky 0, 512, .inl ksnapsF))] sz) := by
  refine Met.ofW (cc := cX12_act) (maxL := 6) (ret := (some .int)) (by decide) rfl ?_
  intro p e s m args below meth c s₁ B hml hv
  obtain ⟨rfl, hsz, hP, hK, hD0⟩ := hv
  have hx := B.exec
  have hb := B.bytes
  have hr := B.returns
  have hts := atoms_spec (ws := wsX12_act) B.pre
  have hown : s.vm.findClass RX12 = some m.cls := findClass_of_methodNamed B.named
  have hlocks := B.notSynchronized
  subst hsz
  have hD := hD0.self (sz := s.heap.size)
  generalize hAe : va_A [(o, .inr (12, [.int kthrown, .ref ktape, .int (nI ktaped), .int (nI ksize), .int (nI klimit), .int (nI kto), .int (nI kfrom), .int kkind, .int knumber, .int ksign, .int kfault, .int kplace, .long kword, .int ktold, .ref know, .ref kread, .ref kkept, .ref ksnaps, .ref kaside, .ref kname, .ref kreadName, .ref kkeptName, .ref kisKept, .ref konces, .int (nI ksnapMany), .int khasCells, .ref kpoured, .ref kfar, .ref ksides, .int (nI ksideMany), .int kwayDays, .int khasWay, .ref klines, .ref kmet, .int (nI kmetMany), .ref ksunk, .ref ktrying, .int (nI ksunkMany), .int ksending, .int kfleets, .ref ktext, .int (nI ktexts), .int kseed, .ref kline, .ref kwritten, .int (nI klineMany), .int khasWritten, .ref knode, .int (nI knodes), .int (nI konesMany), .int (nI kwithin), .int (nI ktop)])), (know, .inl (ky 0, 373, .inl knowF)), (ksnaps, .inl (ky 0, 512, .inl ksnapsF))] s.heap.size = A at hD ⊢
  have hA : ∀ q : Nat, s.heap.size ≤ q → A q := fun q h => by rw [← hAe]; exact Or.inr h
  have hS : va_S A s.heap s.heap [] := va_S.rf
  have hl := lv_entry ([.ref o, .int (nI 1), .int (nI bq), .int y, .int (nI 1)]) (n := 6) (Nat.le_of_ble_eq_true rfl)
  rw [lg_entry_eq]
  generalize (lg_sl ([.ref o, .int (nI 1), .int (nI bq), .int y, .int (nI 1)]) ++ List.replicate (6 - (lg_sl ([.ref o, .int (nI 1), .int (nI bq), .int y, .int (nI 1)])).length) Slot.unset).toArray = ls at hl ⊢
  have hl : lv_has ls 6 [(0, .ref o), (1, .int (nI 1)), (2, .int (nI bq)), (3, .int y), (4, .int (nI 1))] := hl
  refine q_name (fun Q hQ => ?_)
  generalize ([.ref o, .int (nI 1), .int (nI bq), .int y, .int (nI 1)] : List Value).toArray = args at hts hQ ⊢
  refine lv_iload hx hb dX12_act_0 (lv_at hl 4 rfl) ?_
  refine lv_if_ne (tgt := 7) hx hb dX12_act_2 (by decide) (fun c1 => ?_) (fun c1 => absurd c1 (by decide))
  refine lv_aload_n hx hb dX12_act_7 rfl (lv_at hl 0 rfl) ?_
  refine lv_iload_n hx hb dX12_act_8 rfl (lv_at hl 1 rfl) ?_
  refine lv_iload_n hx hb dX12_act_9 rfl (lv_at hl 2 rfl) ?_
  refine lv_iload_n hx hb dX12_act_10 rfl (lv_at hl 3 rfl) ?_
  refine vp_callSi (W.runV (As := [.int (nI 1), .int (nI bq), .int y]) (rest := []) ⟨hx, hb, hml, hown, hts⟩ (c_x_why1 l dC dI ky o kthrown ktape ktaped ksize klimit kto kfrom kkind knumber ksign kfault kplace kword ktold know kread kkept ksnaps kaside kname kreadName kkeptName kisKept konces ksnapMany khasCells kpoured kfar ksides ksideMany kwayDays khasWay klines kmet kmetMany ksunk ktrying ksunkMany ksending kfleets ktext ktexts kseed kline kwritten klineMany khasWritten knode knodes konesMany kwithin ktop knowF bq y iv_ko_0 iv_ko_1 iv_ko_2 iv_ko_3 iv_ko_4 iv_ko_5 iv_ko_6 iv_ko_7 iv_ko_8 iv_ko_9 iv_ko_10 iv_ko_11 iv_ko_12 iv_ko_13 iv_ko_14 ab_now hb6 hsd) (cwV 3 hts gX12_act_X12_why rfl rfl rfl (by decide +kernel) ⟨(Nat.le_of_ble_eq_true rfl), (Nat.le_of_ble_eq_true rfl)⟩) (pre_PV hK hP [0, 1] rfl (ci := 12) (q0 := 0) rfl rfl) rfl rfl hl.1 rfl (lv_room (Nat.le_of_ble_eq_true rfl)) dX12_act_11 ⟨(Nat.le_of_ble_eq_true rfl), (Nat.le_of_ble_eq_true rfl)⟩) (fun r2 p3 => ?_)
  refine lv_istore (lv' := [(5, .int r2), (0, .ref o), (1, .int (nI 1)), (2, .int (nI bq)), (3, .int y), (4, .int (nI 1))]) hx hb dX12_act_14 hl (by decide) rfl (fun ls hl => ?_)
  refine lv_iload hx hb dX12_act_16 (lv_at hl 0 rfl) ?_
  refine lv_if_eq (tgt := 24) hx hb dX12_act_18 (by decide) (fun c4 => ?_) (fun c4 => ?_)
  · refine lv_aload_n hx hb dX12_act_24 rfl (lv_at hl 1 rfl) ?_
    refine r_call_v (wr := []) (va_runV (As := []) (rest := []) ⟨hx, hb, hml, hown, hts⟩ (c_x_snap l dC dI ky s.heap.size o kthrown ktape ktaped ksize klimit kto kfrom kkind knumber ksign kfault kplace kword ktold know kread kkept ksnaps kaside kname kreadName kkeptName kisKept konces ksnapMany khasCells kpoured kfar ksides ksideMany kwayDays khasWay klines kmet kmetMany ksunk ktrying ksunkMany ksending kfleets ktext ktexts kseed kline kwritten klineMany khasWritten knode knodes konesMany kwithin ktop knowF ksnapsF iv_ko_0 iv_ko_1 iv_ko_2 iv_ko_3 iv_ko_4 iv_ko_5 iv_ko_6 iv_ko_7 iv_ko_8 iv_ko_9 iv_ko_10 iv_ko_11 iv_ko_12 iv_ko_13 iv_ko_14 ab_now ab_snaps) (cwV 0 hts gX12_act_X12_snap rfl rfl rfl (by decide +kernel) ⟨(Nat.le_of_ble_eq_true rfl), (Nat.le_of_ble_eq_true rfl)⟩) (pre_UV hK hP hD [0, 1, 2] (by decide) rfl (ci := 12) (q0 := 0) rfl rfl) rfl rfl hl.1 rfl (lv_room (Nat.le_of_ble_eq_true rfl)) dX12_act_25 ⟨(Nat.le_of_ble_eq_true rfl), (Nat.le_of_ble_eq_true rfl)⟩) hP hD hS hA [0, 1, 2] [] rfl rfl (by decide) (by decide) (fun  u5 H locs p6 hP hD hS => ?_)
    obtain ⟨ksnapManyG_7, ksnapsG_8⟩ := u5
    try dsimp only at p6
    obtain ⟨p9, p10⟩ := p6
    refine W.widen (k := 0) (n := 0) (Nat.le_of_ble_eq_true rfl) (Nat.le_of_ble_eq_true rfl) ?_
    have hP : va_P (dC, dI) vwCl [(o, .inr (12, [.int kthrown, .ref ktape, .int (nI ktaped), .int (nI ksize), .int (nI klimit), .int (nI kto), .int (nI kfrom), .int kkind, .int knumber, .int ksign, .int kfault, .int kplace, .long kword, .int ktold, .ref know, .ref kread, .ref kkept, .ref ksnaps, .ref kaside, .ref kname, .ref kreadName, .ref kkeptName, .ref kisKept, .ref konces, .int (nI ksnapManyG_7), .int khasCells, .ref kpoured, .ref kfar, .ref ksides, .int (nI ksideMany), .int kwayDays, .int khasWay, .ref klines, .ref kmet, .int (nI kmetMany), .ref ksunk, .ref ktrying, .int (nI ksunkMany), .int ksending, .int kfleets, .ref ktext, .int (nI ktexts), .int kseed, .ref kline, .ref kwritten, .int (nI klineMany), .int khasWritten, .ref knode, .int (nI knodes), .int (nI konesMany), .int (nI kwithin), .int (nI ktop)])), (know, .inl (ky 0, 373, .inl knowF)), (ksnaps, .inl (ky 0, 512, .inl ksnapsG_8))] H := hP
    have hD : va_D A [(o, .inr (12, [.int kthrown, .ref ktape, .int (nI ktaped), .int (nI ksize), .int (nI klimit), .int (nI kto), .int (nI kfrom), .int kkind, .int knumber, .int ksign, .int kfault, .int kplace, .long kword, .int ktold, .ref know, .ref kread, .ref kkept, .ref ksnaps, .ref kaside, .ref kname, .ref kreadName, .ref kkeptName, .ref kisKept, .ref konces, .int (nI ksnapManyG_7), .int khasCells, .ref kpoured, .ref kfar, .ref ksides, .int (nI ksideMany), .int kwayDays, .int khasWay, .ref klines, .ref kmet, .int (nI kmetMany), .ref ksunk, .ref ktrying, .int (nI ksunkMany), .int ksending, .int kfleets, .ref ktext, .int (nI ktexts), .int kseed, .ref kline, .ref kwritten, .int (nI klineMany), .int khasWritten, .ref knode, .int (nI knodes), .int (nI konesMany), .int (nI kwithin), .int (nI ktop)])), (know, .inl (ky 0, 373, .inl knowF)), (ksnaps, .inl (ky 0, 512, .inl ksnapsG_8))] := hD
    refine lv_aload_n hx hb dX12_act_28 rfl (lv_at hl 1 rfl) ?_
    refine lv_iload_n hx hb dX12_act_29 rfl (lv_at hl 2 rfl) ?_
    refine lv_iload_n hx hb dX12_act_30 rfl (lv_at hl 3 rfl) ?_
    refine lv_iload_n hx hb dX12_act_31 rfl (lv_at hl 4 rfl) ?_
    refine r_call_v (wr := [(ksnaps, .inl (ky 0, 512, .inl ksnapsG_8))]) (va_runV (As := [.int (nI 1), .int (nI bq), .int y]) (rest := []) ⟨hx, hb, hml, hown, hts⟩ (c_e_live1 l dC dI ky H.size o kthrown ktape ktaped ksize klimit kto kfrom kkind knumber ksign kfault kplace kword ktold know kread kkept ksnaps kaside kname kreadName kkeptName kisKept konces ksnapManyG_7 khasCells kpoured kfar ksides ksideMany kwayDays khasWay klines kmet kmetMany ksunk ktrying ksunkMany ksending kfleets ktext ktexts kseed kline kwritten klineMany khasWritten knode knodes konesMany kwithin ktop knowF kn0 bq y iv_ko_0 iv_ko_1 iv_ko_2 iv_ko_3 iv_ko_4 p9 iv_ko_6 iv_ko_7 iv_ko_8 iv_ko_9 iv_ko_10 iv_ko_11 iv_ko_12 iv_ko_13 iv_ko_14 ab_now sb_now hb6 hsd (lf_e_act1_1 knowF kn0 bq y r2 ab_now sb_now hb6 hsd he0 p3 c4) he0) (cwV 3 hts gX12_act_X12_live rfl rfl rfl (by decide +kernel) ⟨(Nat.le_of_ble_eq_true rfl), (Nat.le_of_ble_eq_true rfl)⟩) (pre_UV hK hP hD [0, 1] (by decide) rfl (ci := 12) (q0 := 0) rfl rfl) rfl rfl hl.1 rfl (lv_room (Nat.le_of_ble_eq_true rfl)) dX12_act_32 ⟨(Nat.le_of_ble_eq_true rfl), (Nat.le_of_ble_eq_true rfl)⟩) hP hD hS hA [0, 1] [2] rfl rfl (by decide) (by decide) (fun  u11 H locs p12 hP hD hS => ?_)
    obtain ⟨knowG_13, rfl⟩ : ∃ z, z = u11 := ⟨_, rfl⟩
    try dsimp only at p12
    obtain ⟨p14, p15, p16⟩ := p12
    refine W.widen (k := 0) (n := 0) (Nat.le_of_ble_eq_true rfl) (Nat.le_of_ble_eq_true rfl) ?_
    have hP : va_P (dC, dI) vwCl [(ksnaps, .inl (ky 0, 512, .inl ksnapsG_8)), (o, .inr (12, [.int kthrown, .ref ktape, .int (nI ktaped), .int (nI ksize), .int (nI klimit), .int (nI kto), .int (nI kfrom), .int kkind, .int knumber, .int ksign, .int kfault, .int kplace, .long kword, .int ktold, .ref know, .ref kread, .ref kkept, .ref ksnaps, .ref kaside, .ref kname, .ref kreadName, .ref kkeptName, .ref kisKept, .ref konces, .int (nI ksnapManyG_7), .int khasCells, .ref kpoured, .ref kfar, .ref ksides, .int (nI ksideMany), .int kwayDays, .int khasWay, .ref klines, .ref kmet, .int (nI kmetMany), .ref ksunk, .ref ktrying, .int (nI ksunkMany), .int ksending, .int kfleets, .ref ktext, .int (nI ktexts), .int kseed, .ref kline, .ref kwritten, .int (nI klineMany), .int khasWritten, .ref knode, .int (nI knodes), .int (nI konesMany), .int (nI kwithin), .int (nI ktop)])), (know, .inl (ky 0, 373, .inl knowG_13))] H := hP
    have hD : va_D A [(ksnaps, .inl (ky 0, 512, .inl ksnapsG_8)), (o, .inr (12, [.int kthrown, .ref ktape, .int (nI ktaped), .int (nI ksize), .int (nI klimit), .int (nI kto), .int (nI kfrom), .int kkind, .int knumber, .int ksign, .int kfault, .int kplace, .long kword, .int ktold, .ref know, .ref kread, .ref kkept, .ref ksnaps, .ref kaside, .ref kname, .ref kreadName, .ref kkeptName, .ref kisKept, .ref konces, .int (nI ksnapManyG_7), .int khasCells, .ref kpoured, .ref kfar, .ref ksides, .int (nI ksideMany), .int kwayDays, .int khasWay, .ref klines, .ref kmet, .int (nI kmetMany), .ref ksunk, .ref ktrying, .int (nI ksunkMany), .int ksending, .int kfleets, .ref ktext, .int (nI ktexts), .int kseed, .ref kline, .ref kwritten, .int (nI klineMany), .int khasWritten, .ref knode, .int (nI knodes), .int (nI konesMany), .int (nI kwithin), .int (nI ktop)])), (know, .inl (ky 0, 373, .inl knowG_13))] := hD
    refine lv_iconst (v := nI 0) hx hb dX12_act_35 (by decide) ?_
    rw [hQ]
    have hP9 := hP.sub (ws' := [(o, .inr (12, [.int kthrown, .ref ktape, .int (nI ktaped), .int (nI ksize), .int (nI klimit), .int (nI kto), .int (nI kfrom), .int kkind, .int knumber, .int ksign, .int kfault, .int kplace, .long kword, .int ktold, .ref know, .ref kread, .ref kkept, .ref ksnaps, .ref kaside, .ref kname, .ref kreadName, .ref kkeptName, .ref kisKept, .ref konces, .int (nI ksnapManyG_7), .int khasCells, .ref kpoured, .ref kfar, .ref ksides, .int (nI ksideMany), .int kwayDays, .int khasWay, .ref klines, .ref kmet, .int (nI kmetMany), .ref ksunk, .ref ktrying, .int (nI ksunkMany), .int ksending, .int kfleets, .ref ktext, .int (nI ktexts), .int kseed, .ref kline, .ref kwritten, .int (nI klineMany), .int khasWritten, .ref knode, .int (nI knodes), .int (nI konesMany), .int (nI kwithin), .int (nI ktop)])), (know, .inl (ky 0, 373, .inl knowG_13)), (ksnaps, .inl (ky 0, 512, .inl ksnapsG_8))]) [1, 2, 0] rfl
    have hD9 := hD.sub (ws' := [(o, .inr (12, [.int kthrown, .ref ktape, .int (nI ktaped), .int (nI ksize), .int (nI klimit), .int (nI kto), .int (nI kfrom), .int kkind, .int knumber, .int ksign, .int kfault, .int kplace, .long kword, .int ktold, .ref know, .ref kread, .ref kkept, .ref ksnaps, .ref kaside, .ref kname, .ref kreadName, .ref kkeptName, .ref kisKept, .ref konces, .int (nI ksnapManyG_7), .int khasCells, .ref kpoured, .ref kfar, .ref ksides, .int (nI ksideMany), .int kwayDays, .int khasWay, .ref klines, .ref kmet, .int (nI kmetMany), .ref ksunk, .ref ktrying, .int (nI ksunkMany), .int ksending, .int kfleets, .ref ktext, .int (nI ktexts), .int kseed, .ref kline, .ref kwritten, .int (nI klineMany), .int khasWritten, .ref knode, .int (nI knodes), .int (nI konesMany), .int (nI kwithin), .int (nI ktop)])), (know, .inl (ky 0, 373, .inl knowG_13)), (ksnaps, .inl (ky 0, 512, .inl ksnapsG_8))]) [1, 2, 0] (by decide) rfl
    exact W.iret (v := nI 0) hx hb hr (fun t9 ht9 hW9 => ⟨⟨nI 0, (ksnapManyG_7, knowG_13, ksnapsG_8), rfl, ⟨p9, p14, p15, p10, p16⟩, by rw [ht9]; exact hP9, va_K.moved hW9.alike hK, hD9⟩, hS.F ht9⟩) hS.2.2 dX12_act_36
  · refine lv_iload hx hb dX12_act_21 (lv_at hl 0 rfl) ?_
    rw [hQ]
    exact W.iret (v := r2) hx hb hr (fun t9 ht9 hW9 => ⟨⟨r2, (ksnapMany, knowF, ksnapsF), rfl, ⟨iv_ko_5, ab_now, sb_now, ab_snaps, he0⟩, by rw [ht9]; exact hP, va_K.moved hW9.alike hK, hD⟩, hS.F ht9⟩) hS.2.2 dX12_act_23
set_option maxHeartbeats 4000000 in
set_option maxRecDepth 100000 in
theorem c_e_act2 (l : Launch) (dC : Nat → ClassId) (dI : Nat → Nat → Nat) (ky : Nat → ClassId) (sz : Nat) (o : Nat) (kthrown : Int32) (ktape : Nat) (ktaped : Nat) (ksize : Nat) (klimit : Nat) (kto : Nat) (kfrom : Nat) (kkind : Int32) (knumber : Int32) (ksign : Int32) (kfault : Int32) (kplace : Int32) (kword : Int64) (ktold : Int32) (know : Nat) (kread : Nat) (kkept : Nat) (ksnaps : Nat) (kaside : Nat) (kname : Nat) (kreadName : Nat) (kkeptName : Nat) (kisKept : Nat) (konces : Nat) (ksnapMany : Nat) (khasCells : Int32) (kpoured : Nat) (kfar : Nat) (ksides : Nat) (ksideMany : Nat) (kwayDays : Int32) (khasWay : Int32) (klines : Nat) (kmet : Nat) (kmetMany : Nat) (ksunk : Nat) (ktrying : Nat) (ksunkMany : Nat) (ksending : Int32) (kfleets : Int32) (ktext : Nat) (ktexts : Nat) (kseed : Int32) (kline : Nat) (kwritten : Nat) (klineMany : Nat) (khasWritten : Int32) (knode : Nat) (knodes : Nat) (konesMany : Nat) (kwithin : Nat) (ktop : Nat) (knowF : Nat → Int32) (ksnapsF : Nat → Int32) (kn0 : Nat → Int32) (x : Int32) (y : Int32) (iv_ko_0 : ktaped ≤ 940) (iv_ko_1 : ksize ≤ 940) (iv_ko_2 : klimit ≤ 900) (iv_ko_3 : kto ≤ ksize) (iv_ko_4 : kfrom ≤ 940) (iv_ko_5 : ksnapMany ≤ 8) (iv_ko_6 : ksideMany ≤ 36) (iv_ko_7 : kmetMany ≤ 3) (iv_ko_8 : ksunkMany ≤ 36) (iv_ko_9 : ktexts ≤ 64) (iv_ko_10 : klineMany ≤ 40) (iv_ko_11 : knodes ≤ 60) (iv_ko_12 : konesMany ≤ 20) (iv_ko_13 : kwithin ≤ 8) (iv_ko_14 : ktop ≤ 59) (ab_now : NB knowF) (ab_snaps : AB512 ksnapsF) (sb_now : SB knowF) (hc_x : 0 ≤ x.toInt ∧ x.toInt ≤ 35) (hy9 : 1 ≤ y.toInt ∧ y.toInt ≤ 9) (he0 : HE kn0 knowF) : Met l yX12_act wsX12_act ({ frames := 2, cells := 0, slots := 0, locals := 44 }) (PcU dC dI ky [.ref o, .int (nI 2), .int x, .int y, .int (nI 1)] [(o, .inr (12, [.int kthrown, .ref ktape, .int (nI ktaped), .int (nI ksize), .int (nI klimit), .int (nI kto), .int (nI kfrom), .int kkind, .int knumber, .int ksign, .int kfault, .int kplace, .long kword, .int ktold, .ref know, .ref kread, .ref kkept, .ref ksnaps, .ref kaside, .ref kname, .ref kreadName, .ref kkeptName, .ref kisKept, .ref konces, .int (nI ksnapMany), .int khasCells, .ref kpoured, .ref kfar, .ref ksides, .int (nI ksideMany), .int kwayDays, .int khasWay, .ref klines, .ref kmet, .int (nI kmetMany), .ref ksunk, .ref ktrying, .int (nI ksunkMany), .int ksending, .int kfleets, .ref ktext, .int (nI ktexts), .int kseed, .ref kline, .ref kwritten, .int (nI klineMany), .int khasWritten, .ref knode, .int (nI knodes), .int (nI konesMany), .int (nI kwithin), .int (nI ktop)])), (know, .inl (ky 0, 373, .inl knowF)), (ksnaps, .inl (ky 0, 512, .inl ksnapsF))] sz) (va_Qi (fun (r : Int32) (u : Nat × (Nat → Int32) × (Nat → Int32)) => match u with | (ksnapManyG, knowG, ksnapsG) => (ksnapManyG ≤ 8) ∧ (NB knowG) ∧ (SB knowG) ∧ (AB512 ksnapsG) ∧ (HE kn0 knowG)) (BU dC dI ky (fun (u : Nat × (Nat → Int32) × (Nat → Int32)) => match u with | (ksnapManyG, knowG, ksnapsG) => [(o, .inr (12, [.int kthrown, .ref ktape, .int (nI ktaped), .int (nI ksize), .int (nI klimit), .int (nI kto), .int (nI kfrom), .int kkind, .int knumber, .int ksign, .int kfault, .int kplace, .long kword, .int ktold, .ref know, .ref kread, .ref kkept, .ref ksnaps, .ref kaside, .ref kname, .ref kreadName, .ref kkeptName, .ref kisKept, .ref konces, .int (nI ksnapManyG), .int khasCells, .ref kpoured, .ref kfar, .ref ksides, .int (nI ksideMany), .int kwayDays, .int khasWay, .ref klines, .ref kmet, .int (nI kmetMany), .ref ksunk, .ref ktrying, .int (nI ksunkMany), .int ksending, .int kfleets, .ref ktext, .int (nI ktexts), .int kseed, .ref kline, .ref kwritten, .int (nI klineMany), .int khasWritten, .ref knode, .int (nI knodes), .int (nI konesMany), .int (nI kwithin), .int (nI ktop)])), (know, .inl (ky 0, 373, .inl knowG)), (ksnaps, .inl (ky 0, 512, .inl ksnapsG))]) (va_A [(o, .inr (12, [.int kthrown, .ref ktape, .int (nI ktaped), .int (nI ksize), .int (nI klimit), .int (nI kto), .int (nI kfrom), .int kkind, .int knumber, .int ksign, .int kfault, .int kplace, .long kword, .int ktold, .ref know, .ref kread, .ref kkept, .ref ksnaps, .ref kaside, .ref kname, .ref kreadName, .ref kkeptName, .ref kisKept, .ref konces, .int (nI ksnapMany), .int khasCells, .ref kpoured, .ref kfar, .ref ksides, .int (nI ksideMany), .int kwayDays, .int khasWay, .ref klines, .ref kmet, .int (nI kmetMany), .ref ksunk, .ref ktrying, .int (nI ksunkMany), .int ksending, .int kfleets, .ref ktext, .int (nI ktexts), .int kseed, .ref kline, .ref kwritten, .int (nI klineMany), .int khasWritten, .ref knode, .int (nI knodes), .int (nI konesMany), .int (nI kwithin), .int (nI ktop)])), (know, .inl (ky 0, 373, .inl knowF)), (ksnaps, .inl (ky 0, 512, .inl ksnapsF))] sz)) (va_A [(o, .inr (12, [.int kthrown, .ref ktape, .int (nI ktaped), .int (nI ksize), .int (nI klimit), .int (nI kto), .int (nI kfrom), .int kkind, .int knumber, .int ksign, .int kfault, .int kplace, .long kword, .int ktold, .ref know, .ref kread, .ref kkept, .ref ksnaps, .ref kaside, .ref kname, .ref kreadName, .ref kkeptName, .ref kisKept, .ref konces, .int (nI ksnapMany), .int khasCells, .ref kpoured, .ref kfar, .ref ksides, .int (nI ksideMany), .int kwayDays, .int khasWay, .ref klines, .ref kmet, .int (nI kmetMany), .ref ksunk, .ref ktrying, .int (nI ksunkMany), .int ksending, .int kfleets, .ref ktext, .int (nI ktexts), .int kseed, .ref kline, .ref kwritten, .int (nI klineMany), .int khasWritten, .ref knode, .int (nI knodes), .int (nI konesMany), .int (nI kwithin), .int (nI ktop)])), (know, .inl (ky 0, 373, .inl knowF)), (ksnaps, .inl (ky 0, 512, .inl ksnapsF))] sz)) 0 0 (va_A [(o, .inr (12, [.int kthrown, .ref ktape, .int (nI ktaped), .int (nI ksize), .int (nI klimit), .int (nI kto), .int (nI kfrom), .int kkind, .int knumber, .int ksign, .int kfault, .int kplace, .long kword, .int ktold, .ref know, .ref kread, .ref kkept, .ref ksnaps, .ref kaside, .ref kname, .ref kreadName, .ref kkeptName, .ref kisKept, .ref konces, .int (nI ksnapMany), .int khasCells, .ref kpoured, .ref kfar, .ref ksides, .int (nI ksideMany), .int kwayDays, .int khasWay, .ref klines, .ref kmet, .int (nI kmetMany), .ref ksunk, .ref ktrying, .int (nI ksunkMany), .int ksending, .int kfleets, .ref ktext, .int (nI ktexts), .int kseed, .ref kline, .ref kwritten, .int (nI klineMany), .int khasWritten, .ref knode, .int (nI knodes), .int (nI konesMany), .int (nI kwithin), .int (nI ktop)])), (know, .inl (ky 0, 373, .inl knowF)), (ksnaps, .inl (ky 0, 512, .inl ksnapsF))] sz) := by
  refine Met.ofW (cc := cX12_act) (maxL := 6) (ret := (some .int)) (by decide) rfl ?_
  intro p e s m args below meth c s₁ B hml hv
  obtain ⟨rfl, hsz, hP, hK, hD0⟩ := hv
  have hx := B.exec
  have hb := B.bytes
  have hr := B.returns
  have hts := atoms_spec (ws := wsX12_act) B.pre
  have hown : s.vm.findClass RX12 = some m.cls := findClass_of_methodNamed B.named
  have hlocks := B.notSynchronized
  subst hsz
  have hD := hD0.self (sz := s.heap.size)
  generalize hAe : va_A [(o, .inr (12, [.int kthrown, .ref ktape, .int (nI ktaped), .int (nI ksize), .int (nI klimit), .int (nI kto), .int (nI kfrom), .int kkind, .int knumber, .int ksign, .int kfault, .int kplace, .long kword, .int ktold, .ref know, .ref kread, .ref kkept, .ref ksnaps, .ref kaside, .ref kname, .ref kreadName, .ref kkeptName, .ref kisKept, .ref konces, .int (nI ksnapMany), .int khasCells, .ref kpoured, .ref kfar, .ref ksides, .int (nI ksideMany), .int kwayDays, .int khasWay, .ref klines, .ref kmet, .int (nI kmetMany), .ref ksunk, .ref ktrying, .int (nI ksunkMany), .int ksending, .int kfleets, .ref ktext, .int (nI ktexts), .int kseed, .ref kline, .ref kwritten, .int (nI klineMany), .int khasWritten, .ref knode, .int (nI knodes), .int (nI konesMany), .int (nI kwithin), .int (nI ktop)])), (know, .inl (ky 0, 373, .inl knowF)), (ksnaps, .inl (ky 0, 512, .inl ksnapsF))] s.heap.size = A at hD ⊢
  have hA : ∀ q : Nat, s.heap.size ≤ q → A q := fun q h => by rw [← hAe]; exact Or.inr h
  have hS : va_S A s.heap s.heap [] := va_S.rf
  have hl := lv_entry ([.ref o, .int (nI 2), .int x, .int y, .int (nI 1)]) (n := 6) (Nat.le_of_ble_eq_true rfl)
  rw [lg_entry_eq]
  generalize (lg_sl ([.ref o, .int (nI 2), .int x, .int y, .int (nI 1)]) ++ List.replicate (6 - (lg_sl ([.ref o, .int (nI 2), .int x, .int y, .int (nI 1)])).length) Slot.unset).toArray = ls at hl ⊢
  have hl : lv_has ls 6 [(0, .ref o), (1, .int (nI 2)), (2, .int x), (3, .int y), (4, .int (nI 1))] := hl
  refine q_name (fun Q hQ => ?_)
  generalize ([.ref o, .int (nI 2), .int x, .int y, .int (nI 1)] : List Value).toArray = args at hts hQ ⊢
  refine lv_iload hx hb dX12_act_0 (lv_at hl 4 rfl) ?_
  refine lv_if_ne (tgt := 7) hx hb dX12_act_2 (by decide) (fun c1 => ?_) (fun c1 => absurd c1 (by decide))
  refine lv_aload_n hx hb dX12_act_7 rfl (lv_at hl 0 rfl) ?_
  refine lv_iload_n hx hb dX12_act_8 rfl (lv_at hl 1 rfl) ?_
  refine lv_iload_n hx hb dX12_act_9 rfl (lv_at hl 2 rfl) ?_
  refine lv_iload_n hx hb dX12_act_10 rfl (lv_at hl 3 rfl) ?_
  refine vp_callSi (W.runV (As := [.int (nI 2), .int x, .int y]) (rest := []) ⟨hx, hb, hml, hown, hts⟩ (c_x_why2 l dC dI ky o kthrown ktape ktaped ksize klimit kto kfrom kkind knumber ksign kfault kplace kword ktold know kread kkept ksnaps kaside kname kreadName kkeptName kisKept konces ksnapMany khasCells kpoured kfar ksides ksideMany kwayDays khasWay klines kmet kmetMany ksunk ktrying ksunkMany ksending kfleets ktext ktexts kseed kline kwritten klineMany khasWritten knode knodes konesMany kwithin ktop knowF x y iv_ko_0 iv_ko_1 iv_ko_2 iv_ko_3 iv_ko_4 iv_ko_5 iv_ko_6 iv_ko_7 iv_ko_8 iv_ko_9 iv_ko_10 iv_ko_11 iv_ko_12 iv_ko_13 iv_ko_14 ab_now hc_x) (cwV 3 hts gX12_act_X12_why rfl rfl rfl (by decide +kernel) ⟨(Nat.le_of_ble_eq_true rfl), (Nat.le_of_ble_eq_true rfl)⟩) (pre_PV hK hP [0, 1] rfl (ci := 12) (q0 := 0) rfl rfl) rfl rfl hl.1 rfl (lv_room (Nat.le_of_ble_eq_true rfl)) dX12_act_11 ⟨(Nat.le_of_ble_eq_true rfl), (Nat.le_of_ble_eq_true rfl)⟩) (fun r2 p3 => ?_)
  refine lv_istore (lv' := [(5, .int r2), (0, .ref o), (1, .int (nI 2)), (2, .int x), (3, .int y), (4, .int (nI 1))]) hx hb dX12_act_14 hl (by decide) rfl (fun ls hl => ?_)
  refine lv_iload hx hb dX12_act_16 (lv_at hl 0 rfl) ?_
  refine lv_if_eq (tgt := 24) hx hb dX12_act_18 (by decide) (fun c4 => ?_) (fun c4 => ?_)
  · refine lv_aload_n hx hb dX12_act_24 rfl (lv_at hl 1 rfl) ?_
    refine r_call_v (wr := []) (va_runV (As := []) (rest := []) ⟨hx, hb, hml, hown, hts⟩ (c_x_snap l dC dI ky s.heap.size o kthrown ktape ktaped ksize klimit kto kfrom kkind knumber ksign kfault kplace kword ktold know kread kkept ksnaps kaside kname kreadName kkeptName kisKept konces ksnapMany khasCells kpoured kfar ksides ksideMany kwayDays khasWay klines kmet kmetMany ksunk ktrying ksunkMany ksending kfleets ktext ktexts kseed kline kwritten klineMany khasWritten knode knodes konesMany kwithin ktop knowF ksnapsF iv_ko_0 iv_ko_1 iv_ko_2 iv_ko_3 iv_ko_4 iv_ko_5 iv_ko_6 iv_ko_7 iv_ko_8 iv_ko_9 iv_ko_10 iv_ko_11 iv_ko_12 iv_ko_13 iv_ko_14 ab_now ab_snaps) (cwV 0 hts gX12_act_X12_snap rfl rfl rfl (by decide +kernel) ⟨(Nat.le_of_ble_eq_true rfl), (Nat.le_of_ble_eq_true rfl)⟩) (pre_UV hK hP hD [0, 1, 2] (by decide) rfl (ci := 12) (q0 := 0) rfl rfl) rfl rfl hl.1 rfl (lv_room (Nat.le_of_ble_eq_true rfl)) dX12_act_25 ⟨(Nat.le_of_ble_eq_true rfl), (Nat.le_of_ble_eq_true rfl)⟩) hP hD hS hA [0, 1, 2] [] rfl rfl (by decide) (by decide) (fun  u5 H locs p6 hP hD hS => ?_)
    obtain ⟨ksnapManyG_7, ksnapsG_8⟩ := u5
    try dsimp only at p6
    obtain ⟨p9, p10⟩ := p6
    refine W.widen (k := 0) (n := 0) (Nat.le_of_ble_eq_true rfl) (Nat.le_of_ble_eq_true rfl) ?_
    have hP : va_P (dC, dI) vwCl [(o, .inr (12, [.int kthrown, .ref ktape, .int (nI ktaped), .int (nI ksize), .int (nI klimit), .int (nI kto), .int (nI kfrom), .int kkind, .int knumber, .int ksign, .int kfault, .int kplace, .long kword, .int ktold, .ref know, .ref kread, .ref kkept, .ref ksnaps, .ref kaside, .ref kname, .ref kreadName, .ref kkeptName, .ref kisKept, .ref konces, .int (nI ksnapManyG_7), .int khasCells, .ref kpoured, .ref kfar, .ref ksides, .int (nI ksideMany), .int kwayDays, .int khasWay, .ref klines, .ref kmet, .int (nI kmetMany), .ref ksunk, .ref ktrying, .int (nI ksunkMany), .int ksending, .int kfleets, .ref ktext, .int (nI ktexts), .int kseed, .ref kline, .ref kwritten, .int (nI klineMany), .int khasWritten, .ref knode, .int (nI knodes), .int (nI konesMany), .int (nI kwithin), .int (nI ktop)])), (know, .inl (ky 0, 373, .inl knowF)), (ksnaps, .inl (ky 0, 512, .inl ksnapsG_8))] H := hP
    have hD : va_D A [(o, .inr (12, [.int kthrown, .ref ktape, .int (nI ktaped), .int (nI ksize), .int (nI klimit), .int (nI kto), .int (nI kfrom), .int kkind, .int knumber, .int ksign, .int kfault, .int kplace, .long kword, .int ktold, .ref know, .ref kread, .ref kkept, .ref ksnaps, .ref kaside, .ref kname, .ref kreadName, .ref kkeptName, .ref kisKept, .ref konces, .int (nI ksnapManyG_7), .int khasCells, .ref kpoured, .ref kfar, .ref ksides, .int (nI ksideMany), .int kwayDays, .int khasWay, .ref klines, .ref kmet, .int (nI kmetMany), .ref ksunk, .ref ktrying, .int (nI ksunkMany), .int ksending, .int kfleets, .ref ktext, .int (nI ktexts), .int kseed, .ref kline, .ref kwritten, .int (nI klineMany), .int khasWritten, .ref knode, .int (nI knodes), .int (nI konesMany), .int (nI kwithin), .int (nI ktop)])), (know, .inl (ky 0, 373, .inl knowF)), (ksnaps, .inl (ky 0, 512, .inl ksnapsG_8))] := hD
    refine lv_aload_n hx hb dX12_act_28 rfl (lv_at hl 1 rfl) ?_
    refine lv_iload_n hx hb dX12_act_29 rfl (lv_at hl 2 rfl) ?_
    refine lv_iload_n hx hb dX12_act_30 rfl (lv_at hl 3 rfl) ?_
    refine lv_iload_n hx hb dX12_act_31 rfl (lv_at hl 4 rfl) ?_
    refine r_call_v (wr := [(ksnaps, .inl (ky 0, 512, .inl ksnapsG_8))]) (va_runV (As := [.int (nI 2), .int x, .int y]) (rest := []) ⟨hx, hb, hml, hown, hts⟩ (c_e_live2 l dC dI ky H.size o kthrown ktape ktaped ksize klimit kto kfrom kkind knumber ksign kfault kplace kword ktold know kread kkept ksnaps kaside kname kreadName kkeptName kisKept konces ksnapManyG_7 khasCells kpoured kfar ksides ksideMany kwayDays khasWay klines kmet kmetMany ksunk ktrying ksunkMany ksending kfleets ktext ktexts kseed kline kwritten klineMany khasWritten knode knodes konesMany kwithin ktop knowF kn0 x y iv_ko_0 iv_ko_1 iv_ko_2 iv_ko_3 iv_ko_4 p9 iv_ko_6 iv_ko_7 iv_ko_8 iv_ko_9 iv_ko_10 iv_ko_11 iv_ko_12 iv_ko_13 iv_ko_14 ab_now sb_now hc_x hy9 he0) (cwV 3 hts gX12_act_X12_live rfl rfl rfl (by decide +kernel) ⟨(Nat.le_of_ble_eq_true rfl), (Nat.le_of_ble_eq_true rfl)⟩) (pre_UV hK hP hD [0, 1] (by decide) rfl (ci := 12) (q0 := 0) rfl rfl) rfl rfl hl.1 rfl (lv_room (Nat.le_of_ble_eq_true rfl)) dX12_act_32 ⟨(Nat.le_of_ble_eq_true rfl), (Nat.le_of_ble_eq_true rfl)⟩) hP hD hS hA [0, 1] [2] rfl rfl (by decide) (by decide) (fun  u11 H locs p12 hP hD hS => ?_)
    obtain ⟨knowG_13, rfl⟩ : ∃ z, z = u11 := ⟨_, rfl⟩
    try dsimp only at p12
    obtain ⟨p14, p15, p16⟩ := p12
    refine W.widen (k := 0) (n := 0) (Nat.le_of_ble_eq_true rfl) (Nat.le_of_ble_eq_true rfl) ?_
    have hP : va_P (dC, dI) vwCl [(ksnaps, .inl (ky 0, 512, .inl ksnapsG_8)), (o, .inr (12, [.int kthrown, .ref ktape, .int (nI ktaped), .int (nI ksize), .int (nI klimit), .int (nI kto), .int (nI kfrom), .int kkind, .int knumber, .int ksign, .int kfault, .int kplace, .long kword, .int ktold, .ref know, .ref kread, .ref kkept, .ref ksnaps, .ref kaside, .ref kname, .ref kreadName, .ref kkeptName, .ref kisKept, .ref konces, .int (nI ksnapManyG_7), .int khasCells, .ref kpoured, .ref kfar, .ref ksides, .int (nI ksideMany), .int kwayDays, .int khasWay, .ref klines, .ref kmet, .int (nI kmetMany), .ref ksunk, .ref ktrying, .int (nI ksunkMany), .int ksending, .int kfleets, .ref ktext, .int (nI ktexts), .int kseed, .ref kline, .ref kwritten, .int (nI klineMany), .int khasWritten, .ref knode, .int (nI knodes), .int (nI konesMany), .int (nI kwithin), .int (nI ktop)])), (know, .inl (ky 0, 373, .inl knowG_13))] H := hP
    have hD : va_D A [(ksnaps, .inl (ky 0, 512, .inl ksnapsG_8)), (o, .inr (12, [.int kthrown, .ref ktape, .int (nI ktaped), .int (nI ksize), .int (nI klimit), .int (nI kto), .int (nI kfrom), .int kkind, .int knumber, .int ksign, .int kfault, .int kplace, .long kword, .int ktold, .ref know, .ref kread, .ref kkept, .ref ksnaps, .ref kaside, .ref kname, .ref kreadName, .ref kkeptName, .ref kisKept, .ref konces, .int (nI ksnapManyG_7), .int khasCells, .ref kpoured, .ref kfar, .ref ksides, .int (nI ksideMany), .int kwayDays, .int khasWay, .ref klines, .ref kmet, .int (nI kmetMany), .ref ksunk, .ref ktrying, .int (nI ksunkMany), .int ksending, .int kfleets, .ref ktext, .int (nI ktexts), .int kseed, .ref kline, .ref kwritten, .int (nI klineMany), .int khasWritten, .ref knode, .int (nI knodes), .int (nI konesMany), .int (nI kwithin), .int (nI ktop)])), (know, .inl (ky 0, 373, .inl knowG_13))] := hD
    refine lv_iconst (v := nI 0) hx hb dX12_act_35 (by decide) ?_
    rw [hQ]
    have hP9 := hP.sub (ws' := [(o, .inr (12, [.int kthrown, .ref ktape, .int (nI ktaped), .int (nI ksize), .int (nI klimit), .int (nI kto), .int (nI kfrom), .int kkind, .int knumber, .int ksign, .int kfault, .int kplace, .long kword, .int ktold, .ref know, .ref kread, .ref kkept, .ref ksnaps, .ref kaside, .ref kname, .ref kreadName, .ref kkeptName, .ref kisKept, .ref konces, .int (nI ksnapManyG_7), .int khasCells, .ref kpoured, .ref kfar, .ref ksides, .int (nI ksideMany), .int kwayDays, .int khasWay, .ref klines, .ref kmet, .int (nI kmetMany), .ref ksunk, .ref ktrying, .int (nI ksunkMany), .int ksending, .int kfleets, .ref ktext, .int (nI ktexts), .int kseed, .ref kline, .ref kwritten, .int (nI klineMany), .int khasWritten, .ref knode, .int (nI knodes), .int (nI konesMany), .int (nI kwithin), .int (nI ktop)])), (know, .inl (ky 0, 373, .inl knowG_13)), (ksnaps, .inl (ky 0, 512, .inl ksnapsG_8))]) [1, 2, 0] rfl
    have hD9 := hD.sub (ws' := [(o, .inr (12, [.int kthrown, .ref ktape, .int (nI ktaped), .int (nI ksize), .int (nI klimit), .int (nI kto), .int (nI kfrom), .int kkind, .int knumber, .int ksign, .int kfault, .int kplace, .long kword, .int ktold, .ref know, .ref kread, .ref kkept, .ref ksnaps, .ref kaside, .ref kname, .ref kreadName, .ref kkeptName, .ref kisKept, .ref konces, .int (nI ksnapManyG_7), .int khasCells, .ref kpoured, .ref kfar, .ref ksides, .int (nI ksideMany), .int kwayDays, .int khasWay, .ref klines, .ref kmet, .int (nI kmetMany), .ref ksunk, .ref ktrying, .int (nI ksunkMany), .int ksending, .int kfleets, .ref ktext, .int (nI ktexts), .int kseed, .ref kline, .ref kwritten, .int (nI klineMany), .int khasWritten, .ref knode, .int (nI knodes), .int (nI konesMany), .int (nI kwithin), .int (nI ktop)])), (know, .inl (ky 0, 373, .inl knowG_13)), (ksnaps, .inl (ky 0, 512, .inl ksnapsG_8))]) [1, 2, 0] (by decide) rfl
    exact W.iret (v := nI 0) hx hb hr (fun t9 ht9 hW9 => ⟨⟨nI 0, (ksnapManyG_7, knowG_13, ksnapsG_8), rfl, ⟨p9, p14, p15, p10, p16⟩, by rw [ht9]; exact hP9, va_K.moved hW9.alike hK, hD9⟩, hS.F ht9⟩) hS.2.2 dX12_act_36
  · refine lv_iload hx hb dX12_act_21 (lv_at hl 0 rfl) ?_
    rw [hQ]
    exact W.iret (v := r2) hx hb hr (fun t9 ht9 hW9 => ⟨⟨r2, (ksnapMany, knowF, ksnapsF), rfl, ⟨iv_ko_5, ab_now, sb_now, ab_snaps, he0⟩, by rw [ht9]; exact hP, va_K.moved hW9.alike hK, hD⟩, hS.F ht9⟩) hS.2.2 dX12_act_23
set_option maxHeartbeats 4000000 in
set_option maxRecDepth 100000 in
theorem c_e_act3 (l : Launch) (dC : Nat → ClassId) (dI : Nat → Nat → Nat) (ky : Nat → ClassId) (sz : Nat) (o : Nat) (kthrown : Int32) (ktape : Nat) (ktaped : Nat) (ksize : Nat) (klimit : Nat) (kto : Nat) (kfrom : Nat) (kkind : Int32) (knumber : Int32) (ksign : Int32) (kfault : Int32) (kplace : Int32) (kword : Int64) (ktold : Int32) (know : Nat) (kread : Nat) (kkept : Nat) (ksnaps : Nat) (kaside : Nat) (kname : Nat) (kreadName : Nat) (kkeptName : Nat) (kisKept : Nat) (konces : Nat) (ksnapMany : Nat) (khasCells : Int32) (kpoured : Nat) (kfar : Nat) (ksides : Nat) (ksideMany : Nat) (kwayDays : Int32) (khasWay : Int32) (klines : Nat) (kmet : Nat) (kmetMany : Nat) (ksunk : Nat) (ktrying : Nat) (ksunkMany : Nat) (ksending : Int32) (kfleets : Int32) (ktext : Nat) (ktexts : Nat) (kseed : Int32) (kline : Nat) (kwritten : Nat) (klineMany : Nat) (khasWritten : Int32) (knode : Nat) (knodes : Nat) (konesMany : Nat) (kwithin : Nat) (ktop : Nat) (knowF : Nat → Int32) (ksnapsF : Nat → Int32) (kn0 : Nat → Int32) (x : Int32) (y : Int32) (iv_ko_0 : ktaped ≤ 940) (iv_ko_1 : ksize ≤ 940) (iv_ko_2 : klimit ≤ 900) (iv_ko_3 : kto ≤ ksize) (iv_ko_4 : kfrom ≤ 940) (iv_ko_5 : ksnapMany ≤ 8) (iv_ko_6 : ksideMany ≤ 36) (iv_ko_7 : kmetMany ≤ 3) (iv_ko_8 : ksunkMany ≤ 36) (iv_ko_9 : ktexts ≤ 64) (iv_ko_10 : klineMany ≤ 40) (iv_ko_11 : knodes ≤ 60) (iv_ko_12 : konesMany ≤ 20) (iv_ko_13 : kwithin ≤ 8) (iv_ko_14 : ktop ≤ 59) (ab_now : NB knowF) (ab_snaps : AB512 ksnapsF) (sb_now : SB knowF) (hc_x : 0 ≤ x.toInt ∧ x.toInt ≤ 35) (hy9 : 1 ≤ y.toInt ∧ y.toInt ≤ 9) (he0 : HE kn0 knowF) : Met l yX12_act wsX12_act ({ frames := 2, cells := 0, slots := 0, locals := 44 }) (PcU dC dI ky [.ref o, .int (nI 3), .int x, .int y, .int (nI 1)] [(o, .inr (12, [.int kthrown, .ref ktape, .int (nI ktaped), .int (nI ksize), .int (nI klimit), .int (nI kto), .int (nI kfrom), .int kkind, .int knumber, .int ksign, .int kfault, .int kplace, .long kword, .int ktold, .ref know, .ref kread, .ref kkept, .ref ksnaps, .ref kaside, .ref kname, .ref kreadName, .ref kkeptName, .ref kisKept, .ref konces, .int (nI ksnapMany), .int khasCells, .ref kpoured, .ref kfar, .ref ksides, .int (nI ksideMany), .int kwayDays, .int khasWay, .ref klines, .ref kmet, .int (nI kmetMany), .ref ksunk, .ref ktrying, .int (nI ksunkMany), .int ksending, .int kfleets, .ref ktext, .int (nI ktexts), .int kseed, .ref kline, .ref kwritten, .int (nI klineMany), .int khasWritten, .ref knode, .int (nI knodes), .int (nI konesMany), .int (nI kwithin), .int (nI ktop)])), (know, .inl (ky 0, 373, .inl knowF)), (ksnaps, .inl (ky 0, 512, .inl ksnapsF))] sz) (va_Qi (fun (r : Int32) (u : Nat × (Nat → Int32) × (Nat → Int32)) => match u with | (ksnapManyG, knowG, ksnapsG) => (ksnapManyG ≤ 8) ∧ (NB knowG) ∧ (SB knowG) ∧ (AB512 ksnapsG) ∧ (HE kn0 knowG)) (BU dC dI ky (fun (u : Nat × (Nat → Int32) × (Nat → Int32)) => match u with | (ksnapManyG, knowG, ksnapsG) => [(o, .inr (12, [.int kthrown, .ref ktape, .int (nI ktaped), .int (nI ksize), .int (nI klimit), .int (nI kto), .int (nI kfrom), .int kkind, .int knumber, .int ksign, .int kfault, .int kplace, .long kword, .int ktold, .ref know, .ref kread, .ref kkept, .ref ksnaps, .ref kaside, .ref kname, .ref kreadName, .ref kkeptName, .ref kisKept, .ref konces, .int (nI ksnapManyG), .int khasCells, .ref kpoured, .ref kfar, .ref ksides, .int (nI ksideMany), .int kwayDays, .int khasWay, .ref klines, .ref kmet, .int (nI kmetMany), .ref ksunk, .ref ktrying, .int (nI ksunkMany), .int ksending, .int kfleets, .ref ktext, .int (nI ktexts), .int kseed, .ref kline, .ref kwritten, .int (nI klineMany), .int khasWritten, .ref knode, .int (nI knodes), .int (nI konesMany), .int (nI kwithin), .int (nI ktop)])), (know, .inl (ky 0, 373, .inl knowG)), (ksnaps, .inl (ky 0, 512, .inl ksnapsG))]) (va_A [(o, .inr (12, [.int kthrown, .ref ktape, .int (nI ktaped), .int (nI ksize), .int (nI klimit), .int (nI kto), .int (nI kfrom), .int kkind, .int knumber, .int ksign, .int kfault, .int kplace, .long kword, .int ktold, .ref know, .ref kread, .ref kkept, .ref ksnaps, .ref kaside, .ref kname, .ref kreadName, .ref kkeptName, .ref kisKept, .ref konces, .int (nI ksnapMany), .int khasCells, .ref kpoured, .ref kfar, .ref ksides, .int (nI ksideMany), .int kwayDays, .int khasWay, .ref klines, .ref kmet, .int (nI kmetMany), .ref ksunk, .ref ktrying, .int (nI ksunkMany), .int ksending, .int kfleets, .ref ktext, .int (nI ktexts), .int kseed, .ref kline, .ref kwritten, .int (nI klineMany), .int khasWritten, .ref knode, .int (nI knodes), .int (nI konesMany), .int (nI kwithin), .int (nI ktop)])), (know, .inl (ky 0, 373, .inl knowF)), (ksnaps, .inl (ky 0, 512, .inl ksnapsF))] sz)) (va_A [(o, .inr (12, [.int kthrown, .ref ktape, .int (nI ktaped), .int (nI ksize), .int (nI klimit), .int (nI kto), .int (nI kfrom), .int kkind, .int knumber, .int ksign, .int kfault, .int kplace, .long kword, .int ktold, .ref know, .ref kread, .ref kkept, .ref ksnaps, .ref kaside, .ref kname, .ref kreadName, .ref kkeptName, .ref kisKept, .ref konces, .int (nI ksnapMany), .int khasCells, .ref kpoured, .ref kfar, .ref ksides, .int (nI ksideMany), .int kwayDays, .int khasWay, .ref klines, .ref kmet, .int (nI kmetMany), .ref ksunk, .ref ktrying, .int (nI ksunkMany), .int ksending, .int kfleets, .ref ktext, .int (nI ktexts), .int kseed, .ref kline, .ref kwritten, .int (nI klineMany), .int khasWritten, .ref knode, .int (nI knodes), .int (nI konesMany), .int (nI kwithin), .int (nI ktop)])), (know, .inl (ky 0, 373, .inl knowF)), (ksnaps, .inl (ky 0, 512, .inl ksnapsF))] sz)) 0 0 (va_A [(o, .inr (12, [.int kthrown, .ref ktape, .int (nI ktaped), .int (nI ksize), .int (nI klimit), .int (nI kto), .int (nI kfrom), .int kkind, .int knumber, .int ksign, .int kfault, .int kplace, .long kword, .int ktold, .ref know, .ref kread, .ref kkept, .ref ksnaps, .ref kaside, .ref kname, .ref kreadName, .ref kkeptName, .ref kisKept, .ref konces, .int (nI ksnapMany), .int khasCells, .ref kpoured, .ref kfar, .ref ksides, .int (nI ksideMany), .int kwayDays, .int khasWay, .ref klines, .ref kmet, .int (nI kmetMany), .ref ksunk, .ref ktrying, .int (nI ksunkMany), .int ksending, .int kfleets, .ref ktext, .int (nI ktexts), .int kseed, .ref kline, .ref kwritten, .int (nI klineMany), .int khasWritten, .ref knode, .int (nI knodes), .int (nI konesMany), .int (nI kwithin), .int (nI ktop)])), (know, .inl (ky 0, 373, .inl knowF)), (ksnaps, .inl (ky 0, 512, .inl ksnapsF))] sz) := by
  refine Met.ofW (cc := cX12_act) (maxL := 6) (ret := (some .int)) (by decide) rfl ?_
  intro p e s m args below meth c s₁ B hml hv
  obtain ⟨rfl, hsz, hP, hK, hD0⟩ := hv
  have hx := B.exec
  have hb := B.bytes
  have hr := B.returns
  have hts := atoms_spec (ws := wsX12_act) B.pre
  have hown : s.vm.findClass RX12 = some m.cls := findClass_of_methodNamed B.named
  have hlocks := B.notSynchronized
  subst hsz
  have hD := hD0.self (sz := s.heap.size)
  generalize hAe : va_A [(o, .inr (12, [.int kthrown, .ref ktape, .int (nI ktaped), .int (nI ksize), .int (nI klimit), .int (nI kto), .int (nI kfrom), .int kkind, .int knumber, .int ksign, .int kfault, .int kplace, .long kword, .int ktold, .ref know, .ref kread, .ref kkept, .ref ksnaps, .ref kaside, .ref kname, .ref kreadName, .ref kkeptName, .ref kisKept, .ref konces, .int (nI ksnapMany), .int khasCells, .ref kpoured, .ref kfar, .ref ksides, .int (nI ksideMany), .int kwayDays, .int khasWay, .ref klines, .ref kmet, .int (nI kmetMany), .ref ksunk, .ref ktrying, .int (nI ksunkMany), .int ksending, .int kfleets, .ref ktext, .int (nI ktexts), .int kseed, .ref kline, .ref kwritten, .int (nI klineMany), .int khasWritten, .ref knode, .int (nI knodes), .int (nI konesMany), .int (nI kwithin), .int (nI ktop)])), (know, .inl (ky 0, 373, .inl knowF)), (ksnaps, .inl (ky 0, 512, .inl ksnapsF))] s.heap.size = A at hD ⊢
  have hA : ∀ q : Nat, s.heap.size ≤ q → A q := fun q h => by rw [← hAe]; exact Or.inr h
  have hS : va_S A s.heap s.heap [] := va_S.rf
  have hl := lv_entry ([.ref o, .int (nI 3), .int x, .int y, .int (nI 1)]) (n := 6) (Nat.le_of_ble_eq_true rfl)
  rw [lg_entry_eq]
  generalize (lg_sl ([.ref o, .int (nI 3), .int x, .int y, .int (nI 1)]) ++ List.replicate (6 - (lg_sl ([.ref o, .int (nI 3), .int x, .int y, .int (nI 1)])).length) Slot.unset).toArray = ls at hl ⊢
  have hl : lv_has ls 6 [(0, .ref o), (1, .int (nI 3)), (2, .int x), (3, .int y), (4, .int (nI 1))] := hl
  refine q_name (fun Q hQ => ?_)
  generalize ([.ref o, .int (nI 3), .int x, .int y, .int (nI 1)] : List Value).toArray = args at hts hQ ⊢
  refine lv_iload hx hb dX12_act_0 (lv_at hl 4 rfl) ?_
  refine lv_if_ne (tgt := 7) hx hb dX12_act_2 (by decide) (fun c1 => ?_) (fun c1 => absurd c1 (by decide))
  refine lv_aload_n hx hb dX12_act_7 rfl (lv_at hl 0 rfl) ?_
  refine lv_iload_n hx hb dX12_act_8 rfl (lv_at hl 1 rfl) ?_
  refine lv_iload_n hx hb dX12_act_9 rfl (lv_at hl 2 rfl) ?_
  refine lv_iload_n hx hb dX12_act_10 rfl (lv_at hl 3 rfl) ?_
  refine vp_callSi (W.runV (As := [.int (nI 3), .int x, .int y]) (rest := []) ⟨hx, hb, hml, hown, hts⟩ (c_x_why3 l dC dI ky o kthrown ktape ktaped ksize klimit kto kfrom kkind knumber ksign kfault kplace kword ktold know kread kkept ksnaps kaside kname kreadName kkeptName kisKept konces ksnapMany khasCells kpoured kfar ksides ksideMany kwayDays khasWay klines kmet kmetMany ksunk ktrying ksunkMany ksending kfleets ktext ktexts kseed kline kwritten klineMany khasWritten knode knodes konesMany kwithin ktop knowF x y iv_ko_0 iv_ko_1 iv_ko_2 iv_ko_3 iv_ko_4 iv_ko_5 iv_ko_6 iv_ko_7 iv_ko_8 iv_ko_9 iv_ko_10 iv_ko_11 iv_ko_12 iv_ko_13 iv_ko_14 ab_now hc_x) (cwV 3 hts gX12_act_X12_why rfl rfl rfl (by decide +kernel) ⟨(Nat.le_of_ble_eq_true rfl), (Nat.le_of_ble_eq_true rfl)⟩) (pre_PV hK hP [0, 1] rfl (ci := 12) (q0 := 0) rfl rfl) rfl rfl hl.1 rfl (lv_room (Nat.le_of_ble_eq_true rfl)) dX12_act_11 ⟨(Nat.le_of_ble_eq_true rfl), (Nat.le_of_ble_eq_true rfl)⟩) (fun r2 p3 => ?_)
  refine lv_istore (lv' := [(5, .int r2), (0, .ref o), (1, .int (nI 3)), (2, .int x), (3, .int y), (4, .int (nI 1))]) hx hb dX12_act_14 hl (by decide) rfl (fun ls hl => ?_)
  refine lv_iload hx hb dX12_act_16 (lv_at hl 0 rfl) ?_
  refine lv_if_eq (tgt := 24) hx hb dX12_act_18 (by decide) (fun c4 => ?_) (fun c4 => ?_)
  · refine lv_aload_n hx hb dX12_act_24 rfl (lv_at hl 1 rfl) ?_
    refine r_call_v (wr := []) (va_runV (As := []) (rest := []) ⟨hx, hb, hml, hown, hts⟩ (c_x_snap l dC dI ky s.heap.size o kthrown ktape ktaped ksize klimit kto kfrom kkind knumber ksign kfault kplace kword ktold know kread kkept ksnaps kaside kname kreadName kkeptName kisKept konces ksnapMany khasCells kpoured kfar ksides ksideMany kwayDays khasWay klines kmet kmetMany ksunk ktrying ksunkMany ksending kfleets ktext ktexts kseed kline kwritten klineMany khasWritten knode knodes konesMany kwithin ktop knowF ksnapsF iv_ko_0 iv_ko_1 iv_ko_2 iv_ko_3 iv_ko_4 iv_ko_5 iv_ko_6 iv_ko_7 iv_ko_8 iv_ko_9 iv_ko_10 iv_ko_11 iv_ko_12 iv_ko_13 iv_ko_14 ab_now ab_snaps) (cwV 0 hts gX12_act_X12_snap rfl rfl rfl (by decide +kernel) ⟨(Nat.le_of_ble_eq_true rfl), (Nat.le_of_ble_eq_true rfl)⟩) (pre_UV hK hP hD [0, 1, 2] (by decide) rfl (ci := 12) (q0 := 0) rfl rfl) rfl rfl hl.1 rfl (lv_room (Nat.le_of_ble_eq_true rfl)) dX12_act_25 ⟨(Nat.le_of_ble_eq_true rfl), (Nat.le_of_ble_eq_true rfl)⟩) hP hD hS hA [0, 1, 2] [] rfl rfl (by decide) (by decide) (fun  u5 H locs p6 hP hD hS => ?_)
    obtain ⟨ksnapManyG_7, ksnapsG_8⟩ := u5
    try dsimp only at p6
    obtain ⟨p9, p10⟩ := p6
    refine W.widen (k := 0) (n := 0) (Nat.le_of_ble_eq_true rfl) (Nat.le_of_ble_eq_true rfl) ?_
    have hP : va_P (dC, dI) vwCl [(o, .inr (12, [.int kthrown, .ref ktape, .int (nI ktaped), .int (nI ksize), .int (nI klimit), .int (nI kto), .int (nI kfrom), .int kkind, .int knumber, .int ksign, .int kfault, .int kplace, .long kword, .int ktold, .ref know, .ref kread, .ref kkept, .ref ksnaps, .ref kaside, .ref kname, .ref kreadName, .ref kkeptName, .ref kisKept, .ref konces, .int (nI ksnapManyG_7), .int khasCells, .ref kpoured, .ref kfar, .ref ksides, .int (nI ksideMany), .int kwayDays, .int khasWay, .ref klines, .ref kmet, .int (nI kmetMany), .ref ksunk, .ref ktrying, .int (nI ksunkMany), .int ksending, .int kfleets, .ref ktext, .int (nI ktexts), .int kseed, .ref kline, .ref kwritten, .int (nI klineMany), .int khasWritten, .ref knode, .int (nI knodes), .int (nI konesMany), .int (nI kwithin), .int (nI ktop)])), (know, .inl (ky 0, 373, .inl knowF)), (ksnaps, .inl (ky 0, 512, .inl ksnapsG_8))] H := hP
    have hD : va_D A [(o, .inr (12, [.int kthrown, .ref ktape, .int (nI ktaped), .int (nI ksize), .int (nI klimit), .int (nI kto), .int (nI kfrom), .int kkind, .int knumber, .int ksign, .int kfault, .int kplace, .long kword, .int ktold, .ref know, .ref kread, .ref kkept, .ref ksnaps, .ref kaside, .ref kname, .ref kreadName, .ref kkeptName, .ref kisKept, .ref konces, .int (nI ksnapManyG_7), .int khasCells, .ref kpoured, .ref kfar, .ref ksides, .int (nI ksideMany), .int kwayDays, .int khasWay, .ref klines, .ref kmet, .int (nI kmetMany), .ref ksunk, .ref ktrying, .int (nI ksunkMany), .int ksending, .int kfleets, .ref ktext, .int (nI ktexts), .int kseed, .ref kline, .ref kwritten, .int (nI klineMany), .int khasWritten, .ref knode, .int (nI knodes), .int (nI konesMany), .int (nI kwithin), .int (nI ktop)])), (know, .inl (ky 0, 373, .inl knowF)), (ksnaps, .inl (ky 0, 512, .inl ksnapsG_8))] := hD
    refine lv_aload_n hx hb dX12_act_28 rfl (lv_at hl 1 rfl) ?_
    refine lv_iload_n hx hb dX12_act_29 rfl (lv_at hl 2 rfl) ?_
    refine lv_iload_n hx hb dX12_act_30 rfl (lv_at hl 3 rfl) ?_
    refine lv_iload_n hx hb dX12_act_31 rfl (lv_at hl 4 rfl) ?_
    refine r_call_v (wr := [(ksnaps, .inl (ky 0, 512, .inl ksnapsG_8))]) (va_runV (As := [.int (nI 3), .int x, .int y]) (rest := []) ⟨hx, hb, hml, hown, hts⟩ (c_e_live3 l dC dI ky H.size o kthrown ktape ktaped ksize klimit kto kfrom kkind knumber ksign kfault kplace kword ktold know kread kkept ksnaps kaside kname kreadName kkeptName kisKept konces ksnapManyG_7 khasCells kpoured kfar ksides ksideMany kwayDays khasWay klines kmet kmetMany ksunk ktrying ksunkMany ksending kfleets ktext ktexts kseed kline kwritten klineMany khasWritten knode knodes konesMany kwithin ktop knowF kn0 x y iv_ko_0 iv_ko_1 iv_ko_2 iv_ko_3 iv_ko_4 p9 iv_ko_6 iv_ko_7 iv_ko_8 iv_ko_9 iv_ko_10 iv_ko_11 iv_ko_12 iv_ko_13 iv_ko_14 ab_now sb_now hc_x hy9 he0) (cwV 3 hts gX12_act_X12_live rfl rfl rfl (by decide +kernel) ⟨(Nat.le_of_ble_eq_true rfl), (Nat.le_of_ble_eq_true rfl)⟩) (pre_UV hK hP hD [0, 1] (by decide) rfl (ci := 12) (q0 := 0) rfl rfl) rfl rfl hl.1 rfl (lv_room (Nat.le_of_ble_eq_true rfl)) dX12_act_32 ⟨(Nat.le_of_ble_eq_true rfl), (Nat.le_of_ble_eq_true rfl)⟩) hP hD hS hA [0, 1] [2] rfl rfl (by decide) (by decide) (fun  u11 H locs p12 hP hD hS => ?_)
    obtain ⟨knowG_13, rfl⟩ : ∃ z, z = u11 := ⟨_, rfl⟩
    try dsimp only at p12
    obtain ⟨p14, p15, p16⟩ := p12
    refine W.widen (k := 0) (n := 0) (Nat.le_of_ble_eq_true rfl) (Nat.le_of_ble_eq_true rfl) ?_
    have hP : va_P (dC, dI) vwCl [(ksnaps, .inl (ky 0, 512, .inl ksnapsG_8)), (o, .inr (12, [.int kthrown, .ref ktape, .int (nI ktaped), .int (nI ksize), .int (nI klimit), .int (nI kto), .int (nI kfrom), .int kkind, .int knumber, .int ksign, .int kfault, .int kplace, .long kword, .int ktold, .ref know, .ref kread, .ref kkept, .ref ksnaps, .ref kaside, .ref kname, .ref kreadName, .ref kkeptName, .ref kisKept, .ref konces, .int (nI ksnapManyG_7), .int khasCells, .ref kpoured, .ref kfar, .ref ksides, .int (nI ksideMany), .int kwayDays, .int khasWay, .ref klines, .ref kmet, .int (nI kmetMany), .ref ksunk, .ref ktrying, .int (nI ksunkMany), .int ksending, .int kfleets, .ref ktext, .int (nI ktexts), .int kseed, .ref kline, .ref kwritten, .int (nI klineMany), .int khasWritten, .ref knode, .int (nI knodes), .int (nI konesMany), .int (nI kwithin), .int (nI ktop)])), (know, .inl (ky 0, 373, .inl knowG_13))] H := hP
    have hD : va_D A [(ksnaps, .inl (ky 0, 512, .inl ksnapsG_8)), (o, .inr (12, [.int kthrown, .ref ktape, .int (nI ktaped), .int (nI ksize), .int (nI klimit), .int (nI kto), .int (nI kfrom), .int kkind, .int knumber, .int ksign, .int kfault, .int kplace, .long kword, .int ktold, .ref know, .ref kread, .ref kkept, .ref ksnaps, .ref kaside, .ref kname, .ref kreadName, .ref kkeptName, .ref kisKept, .ref konces, .int (nI ksnapManyG_7), .int khasCells, .ref kpoured, .ref kfar, .ref ksides, .int (nI ksideMany), .int kwayDays, .int khasWay, .ref klines, .ref kmet, .int (nI kmetMany), .ref ksunk, .ref ktrying, .int (nI ksunkMany), .int ksending, .int kfleets, .ref ktext, .int (nI ktexts), .int kseed, .ref kline, .ref kwritten, .int (nI klineMany), .int khasWritten, .ref knode, .int (nI knodes), .int (nI konesMany), .int (nI kwithin), .int (nI ktop)])), (know, .inl (ky 0, 373, .inl knowG_13))] := hD
    refine lv_iconst (v := nI 0) hx hb dX12_act_35 (by decide) ?_
    rw [hQ]
    have hP9 := hP.sub (ws' := [(o, .inr (12, [.int kthrown, .ref ktape, .int (nI ktaped), .int (nI ksize), .int (nI klimit), .int (nI kto), .int (nI kfrom), .int kkind, .int knumber, .int ksign, .int kfault, .int kplace, .long kword, .int ktold, .ref know, .ref kread, .ref kkept, .ref ksnaps, .ref kaside, .ref kname, .ref kreadName, .ref kkeptName, .ref kisKept, .ref konces, .int (nI ksnapManyG_7), .int khasCells, .ref kpoured, .ref kfar, .ref ksides, .int (nI ksideMany), .int kwayDays, .int khasWay, .ref klines, .ref kmet, .int (nI kmetMany), .ref ksunk, .ref ktrying, .int (nI ksunkMany), .int ksending, .int kfleets, .ref ktext, .int (nI ktexts), .int kseed, .ref kline, .ref kwritten, .int (nI klineMany), .int khasWritten, .ref knode, .int (nI knodes), .int (nI konesMany), .int (nI kwithin), .int (nI ktop)])), (know, .inl (ky 0, 373, .inl knowG_13)), (ksnaps, .inl (ky 0, 512, .inl ksnapsG_8))]) [1, 2, 0] rfl
    have hD9 := hD.sub (ws' := [(o, .inr (12, [.int kthrown, .ref ktape, .int (nI ktaped), .int (nI ksize), .int (nI klimit), .int (nI kto), .int (nI kfrom), .int kkind, .int knumber, .int ksign, .int kfault, .int kplace, .long kword, .int ktold, .ref know, .ref kread, .ref kkept, .ref ksnaps, .ref kaside, .ref kname, .ref kreadName, .ref kkeptName, .ref kisKept, .ref konces, .int (nI ksnapManyG_7), .int khasCells, .ref kpoured, .ref kfar, .ref ksides, .int (nI ksideMany), .int kwayDays, .int khasWay, .ref klines, .ref kmet, .int (nI kmetMany), .ref ksunk, .ref ktrying, .int (nI ksunkMany), .int ksending, .int kfleets, .ref ktext, .int (nI ktexts), .int kseed, .ref kline, .ref kwritten, .int (nI klineMany), .int khasWritten, .ref knode, .int (nI knodes), .int (nI konesMany), .int (nI kwithin), .int (nI ktop)])), (know, .inl (ky 0, 373, .inl knowG_13)), (ksnaps, .inl (ky 0, 512, .inl ksnapsG_8))]) [1, 2, 0] (by decide) rfl
    exact W.iret (v := nI 0) hx hb hr (fun t9 ht9 hW9 => ⟨⟨nI 0, (ksnapManyG_7, knowG_13, ksnapsG_8), rfl, ⟨p9, p14, p15, p10, p16⟩, by rw [ht9]; exact hP9, va_K.moved hW9.alike hK, hD9⟩, hS.F ht9⟩) hS.2.2 dX12_act_36
  · refine lv_iload hx hb dX12_act_21 (lv_at hl 0 rfl) ?_
    rw [hQ]
    exact W.iret (v := r2) hx hb hr (fun t9 ht9 hW9 => ⟨⟨r2, (ksnapMany, knowF, ksnapsF), rfl, ⟨iv_ko_5, ab_now, sb_now, ab_snaps, he0⟩, by rw [ht9]; exact hP, va_K.moved hW9.alike hK, hD⟩, hS.F ht9⟩) hS.2.2 dX12_act_23
set_option maxHeartbeats 4000000 in
set_option maxRecDepth 100000 in
theorem c_e_act4 (l : Launch) (dC : Nat → ClassId) (dI : Nat → Nat → Nat) (ky : Nat → ClassId) (sz : Nat) (o : Nat) (kthrown : Int32) (ktape : Nat) (ktaped : Nat) (ksize : Nat) (klimit : Nat) (kto : Nat) (kfrom : Nat) (kkind : Int32) (knumber : Int32) (ksign : Int32) (kfault : Int32) (kplace : Int32) (kword : Int64) (ktold : Int32) (know : Nat) (kread : Nat) (kkept : Nat) (ksnaps : Nat) (kaside : Nat) (kname : Nat) (kreadName : Nat) (kkeptName : Nat) (kisKept : Nat) (konces : Nat) (ksnapMany : Nat) (khasCells : Int32) (kpoured : Nat) (kfar : Nat) (ksides : Nat) (ksideMany : Nat) (kwayDays : Int32) (khasWay : Int32) (klines : Nat) (kmet : Nat) (kmetMany : Nat) (ksunk : Nat) (ktrying : Nat) (ksunkMany : Nat) (ksending : Int32) (kfleets : Int32) (ktext : Nat) (ktexts : Nat) (kseed : Int32) (kline : Nat) (kwritten : Nat) (klineMany : Nat) (khasWritten : Int32) (knode : Nat) (knodes : Nat) (konesMany : Nat) (kwithin : Nat) (ktop : Nat) (knowF : Nat → Int32) (ksnapsF : Nat → Int32) (kn0 : Nat → Int32) (x : Int32) (y : Int32) (iv_ko_0 : ktaped ≤ 940) (iv_ko_1 : ksize ≤ 940) (iv_ko_2 : klimit ≤ 900) (iv_ko_3 : kto ≤ ksize) (iv_ko_4 : kfrom ≤ 940) (iv_ko_5 : ksnapMany ≤ 8) (iv_ko_6 : ksideMany ≤ 36) (iv_ko_7 : kmetMany ≤ 3) (iv_ko_8 : ksunkMany ≤ 36) (iv_ko_9 : ktexts ≤ 64) (iv_ko_10 : klineMany ≤ 40) (iv_ko_11 : knodes ≤ 60) (iv_ko_12 : konesMany ≤ 20) (iv_ko_13 : kwithin ≤ 8) (iv_ko_14 : ktop ≤ 59) (ab_now : NB knowF) (ab_snaps : AB512 ksnapsF) (sb_now : SB knowF) (he0 : HE kn0 knowF) : Met l yX12_act wsX12_act ({ frames := 2, cells := 0, slots := 0, locals := 44 }) (PcU dC dI ky [.ref o, .int (nI 4), .int x, .int y, .int (nI 1)] [(o, .inr (12, [.int kthrown, .ref ktape, .int (nI ktaped), .int (nI ksize), .int (nI klimit), .int (nI kto), .int (nI kfrom), .int kkind, .int knumber, .int ksign, .int kfault, .int kplace, .long kword, .int ktold, .ref know, .ref kread, .ref kkept, .ref ksnaps, .ref kaside, .ref kname, .ref kreadName, .ref kkeptName, .ref kisKept, .ref konces, .int (nI ksnapMany), .int khasCells, .ref kpoured, .ref kfar, .ref ksides, .int (nI ksideMany), .int kwayDays, .int khasWay, .ref klines, .ref kmet, .int (nI kmetMany), .ref ksunk, .ref ktrying, .int (nI ksunkMany), .int ksending, .int kfleets, .ref ktext, .int (nI ktexts), .int kseed, .ref kline, .ref kwritten, .int (nI klineMany), .int khasWritten, .ref knode, .int (nI knodes), .int (nI konesMany), .int (nI kwithin), .int (nI ktop)])), (know, .inl (ky 0, 373, .inl knowF)), (ksnaps, .inl (ky 0, 512, .inl ksnapsF))] sz) (va_Qi (fun (r : Int32) (u : Nat × (Nat → Int32) × (Nat → Int32)) => match u with | (ksnapManyG, knowG, ksnapsG) => (ksnapManyG ≤ 8) ∧ (NB knowG) ∧ (SB knowG) ∧ (AB512 ksnapsG) ∧ (HE kn0 knowG)) (BU dC dI ky (fun (u : Nat × (Nat → Int32) × (Nat → Int32)) => match u with | (ksnapManyG, knowG, ksnapsG) => [(o, .inr (12, [.int kthrown, .ref ktape, .int (nI ktaped), .int (nI ksize), .int (nI klimit), .int (nI kto), .int (nI kfrom), .int kkind, .int knumber, .int ksign, .int kfault, .int kplace, .long kword, .int ktold, .ref know, .ref kread, .ref kkept, .ref ksnaps, .ref kaside, .ref kname, .ref kreadName, .ref kkeptName, .ref kisKept, .ref konces, .int (nI ksnapManyG), .int khasCells, .ref kpoured, .ref kfar, .ref ksides, .int (nI ksideMany), .int kwayDays, .int khasWay, .ref klines, .ref kmet, .int (nI kmetMany), .ref ksunk, .ref ktrying, .int (nI ksunkMany), .int ksending, .int kfleets, .ref ktext, .int (nI ktexts), .int kseed, .ref kline, .ref kwritten, .int (nI klineMany), .int khasWritten, .ref knode, .int (nI knodes), .int (nI konesMany), .int (nI kwithin), .int (nI ktop)])), (know, .inl (ky 0, 373, .inl knowG)), (ksnaps, .inl (ky 0, 512, .inl ksnapsG))]) (va_A [(o, .inr (12, [.int kthrown, .ref ktape, .int (nI ktaped), .int (nI ksize), .int (nI klimit), .int (nI kto), .int (nI kfrom), .int kkind, .int knumber, .int ksign, .int kfault, .int kplace, .long kword, .int ktold, .ref know, .ref kread, .ref kkept, .ref ksnaps, .ref kaside, .ref kname, .ref kreadName, .ref kkeptName, .ref kisKept, .ref konces, .int (nI ksnapMany), .int khasCells, .ref kpoured, .ref kfar, .ref ksides, .int (nI ksideMany), .int kwayDays, .int khasWay, .ref klines, .ref kmet, .int (nI kmetMany), .ref ksunk, .ref ktrying, .int (nI ksunkMany), .int ksending, .int kfleets, .ref ktext, .int (nI ktexts), .int kseed, .ref kline, .ref kwritten, .int (nI klineMany), .int khasWritten, .ref knode, .int (nI knodes), .int (nI konesMany), .int (nI kwithin), .int (nI ktop)])), (know, .inl (ky 0, 373, .inl knowF)), (ksnaps, .inl (ky 0, 512, .inl ksnapsF))] sz)) (va_A [(o, .inr (12, [.int kthrown, .ref ktape, .int (nI ktaped), .int (nI ksize), .int (nI klimit), .int (nI kto), .int (nI kfrom), .int kkind, .int knumber, .int ksign, .int kfault, .int kplace, .long kword, .int ktold, .ref know, .ref kread, .ref kkept, .ref ksnaps, .ref kaside, .ref kname, .ref kreadName, .ref kkeptName, .ref kisKept, .ref konces, .int (nI ksnapMany), .int khasCells, .ref kpoured, .ref kfar, .ref ksides, .int (nI ksideMany), .int kwayDays, .int khasWay, .ref klines, .ref kmet, .int (nI kmetMany), .ref ksunk, .ref ktrying, .int (nI ksunkMany), .int ksending, .int kfleets, .ref ktext, .int (nI ktexts), .int kseed, .ref kline, .ref kwritten, .int (nI klineMany), .int khasWritten, .ref knode, .int (nI knodes), .int (nI konesMany), .int (nI kwithin), .int (nI ktop)])), (know, .inl (ky 0, 373, .inl knowF)), (ksnaps, .inl (ky 0, 512, .inl ksnapsF))] sz)) 0 0 (va_A [(o, .inr (12, [.int kthrown, .ref ktape, .int (nI ktaped), .int (nI ksize), .int (nI klimit), .int (nI kto), .int (nI kfrom), .int kkind, .int knumber, .int ksign, .int kfault, .int kplace, .long kword, .int ktold, .ref know, .ref kread, .ref kkept, .ref ksnaps, .ref kaside, .ref kname, .ref kreadName, .ref kkeptName, .ref kisKept, .ref konces, .int (nI ksnapMany), .int khasCells, .ref kpoured, .ref kfar, .ref ksides, .int (nI ksideMany), .int kwayDays, .int khasWay, .ref klines, .ref kmet, .int (nI kmetMany), .ref ksunk, .ref ktrying, .int (nI ksunkMany), .int ksending, .int kfleets, .ref ktext, .int (nI ktexts), .int kseed, .ref kline, .ref kwritten, .int (nI klineMany), .int khasWritten, .ref knode, .int (nI knodes), .int (nI konesMany), .int (nI kwithin), .int (nI ktop)])), (know, .inl (ky 0, 373, .inl knowF)), (ksnaps, .inl (ky 0, 512, .inl ksnapsF))] sz) := by
  refine Met.ofW (cc := cX12_act) (maxL := 6) (ret := (some .int)) (by decide) rfl ?_
  intro p e s m args below meth c s₁ B hml hv
  obtain ⟨rfl, hsz, hP, hK, hD0⟩ := hv
  have hx := B.exec
  have hb := B.bytes
  have hr := B.returns
  have hts := atoms_spec (ws := wsX12_act) B.pre
  have hown : s.vm.findClass RX12 = some m.cls := findClass_of_methodNamed B.named
  have hlocks := B.notSynchronized
  subst hsz
  have hD := hD0.self (sz := s.heap.size)
  generalize hAe : va_A [(o, .inr (12, [.int kthrown, .ref ktape, .int (nI ktaped), .int (nI ksize), .int (nI klimit), .int (nI kto), .int (nI kfrom), .int kkind, .int knumber, .int ksign, .int kfault, .int kplace, .long kword, .int ktold, .ref know, .ref kread, .ref kkept, .ref ksnaps, .ref kaside, .ref kname, .ref kreadName, .ref kkeptName, .ref kisKept, .ref konces, .int (nI ksnapMany), .int khasCells, .ref kpoured, .ref kfar, .ref ksides, .int (nI ksideMany), .int kwayDays, .int khasWay, .ref klines, .ref kmet, .int (nI kmetMany), .ref ksunk, .ref ktrying, .int (nI ksunkMany), .int ksending, .int kfleets, .ref ktext, .int (nI ktexts), .int kseed, .ref kline, .ref kwritten, .int (nI klineMany), .int khasWritten, .ref knode, .int (nI knodes), .int (nI konesMany), .int (nI kwithin), .int (nI ktop)])), (know, .inl (ky 0, 373, .inl knowF)), (ksnaps, .inl (ky 0, 512, .inl ksnapsF))] s.heap.size = A at hD ⊢
  have hA : ∀ q : Nat, s.heap.size ≤ q → A q := fun q h => by rw [← hAe]; exact Or.inr h
  have hS : va_S A s.heap s.heap [] := va_S.rf
  have hl := lv_entry ([.ref o, .int (nI 4), .int x, .int y, .int (nI 1)]) (n := 6) (Nat.le_of_ble_eq_true rfl)
  rw [lg_entry_eq]
  generalize (lg_sl ([.ref o, .int (nI 4), .int x, .int y, .int (nI 1)]) ++ List.replicate (6 - (lg_sl ([.ref o, .int (nI 4), .int x, .int y, .int (nI 1)])).length) Slot.unset).toArray = ls at hl ⊢
  have hl : lv_has ls 6 [(0, .ref o), (1, .int (nI 4)), (2, .int x), (3, .int y), (4, .int (nI 1))] := hl
  refine q_name (fun Q hQ => ?_)
  generalize ([.ref o, .int (nI 4), .int x, .int y, .int (nI 1)] : List Value).toArray = args at hts hQ ⊢
  refine lv_iload hx hb dX12_act_0 (lv_at hl 4 rfl) ?_
  refine lv_if_ne (tgt := 7) hx hb dX12_act_2 (by decide) (fun c1 => ?_) (fun c1 => absurd c1 (by decide))
  refine lv_aload_n hx hb dX12_act_7 rfl (lv_at hl 0 rfl) ?_
  refine lv_iload_n hx hb dX12_act_8 rfl (lv_at hl 1 rfl) ?_
  refine lv_iload_n hx hb dX12_act_9 rfl (lv_at hl 2 rfl) ?_
  refine lv_iload_n hx hb dX12_act_10 rfl (lv_at hl 3 rfl) ?_
  refine vp_callSi (W.runV (As := [.int (nI 4), .int x, .int y]) (rest := []) ⟨hx, hb, hml, hown, hts⟩ (c_x_why4 l dC dI ky o kthrown ktape ktaped ksize klimit kto kfrom kkind knumber ksign kfault kplace kword ktold know kread kkept ksnaps kaside kname kreadName kkeptName kisKept konces ksnapMany khasCells kpoured kfar ksides ksideMany kwayDays khasWay klines kmet kmetMany ksunk ktrying ksunkMany ksending kfleets ktext ktexts kseed kline kwritten klineMany khasWritten knode knodes konesMany kwithin ktop knowF x y iv_ko_0 iv_ko_1 iv_ko_2 iv_ko_3 iv_ko_4 iv_ko_5 iv_ko_6 iv_ko_7 iv_ko_8 iv_ko_9 iv_ko_10 iv_ko_11 iv_ko_12 iv_ko_13 iv_ko_14 ab_now) (cwV 3 hts gX12_act_X12_why rfl rfl rfl (by decide +kernel) ⟨(Nat.le_of_ble_eq_true rfl), (Nat.le_of_ble_eq_true rfl)⟩) (pre_PV hK hP [0, 1] rfl (ci := 12) (q0 := 0) rfl rfl) rfl rfl hl.1 rfl (lv_room (Nat.le_of_ble_eq_true rfl)) dX12_act_11 ⟨(Nat.le_of_ble_eq_true rfl), (Nat.le_of_ble_eq_true rfl)⟩) (fun r2 p3 => ?_)
  refine lv_istore (lv' := [(5, .int r2), (0, .ref o), (1, .int (nI 4)), (2, .int x), (3, .int y), (4, .int (nI 1))]) hx hb dX12_act_14 hl (by decide) rfl (fun ls hl => ?_)
  refine lv_iload hx hb dX12_act_16 (lv_at hl 0 rfl) ?_
  refine lv_if_eq (tgt := 24) hx hb dX12_act_18 (by decide) (fun c4 => ?_) (fun c4 => ?_)
  · refine lv_aload_n hx hb dX12_act_24 rfl (lv_at hl 1 rfl) ?_
    refine r_call_v (wr := []) (va_runV (As := []) (rest := []) ⟨hx, hb, hml, hown, hts⟩ (c_x_snap l dC dI ky s.heap.size o kthrown ktape ktaped ksize klimit kto kfrom kkind knumber ksign kfault kplace kword ktold know kread kkept ksnaps kaside kname kreadName kkeptName kisKept konces ksnapMany khasCells kpoured kfar ksides ksideMany kwayDays khasWay klines kmet kmetMany ksunk ktrying ksunkMany ksending kfleets ktext ktexts kseed kline kwritten klineMany khasWritten knode knodes konesMany kwithin ktop knowF ksnapsF iv_ko_0 iv_ko_1 iv_ko_2 iv_ko_3 iv_ko_4 iv_ko_5 iv_ko_6 iv_ko_7 iv_ko_8 iv_ko_9 iv_ko_10 iv_ko_11 iv_ko_12 iv_ko_13 iv_ko_14 ab_now ab_snaps) (cwV 0 hts gX12_act_X12_snap rfl rfl rfl (by decide +kernel) ⟨(Nat.le_of_ble_eq_true rfl), (Nat.le_of_ble_eq_true rfl)⟩) (pre_UV hK hP hD [0, 1, 2] (by decide) rfl (ci := 12) (q0 := 0) rfl rfl) rfl rfl hl.1 rfl (lv_room (Nat.le_of_ble_eq_true rfl)) dX12_act_25 ⟨(Nat.le_of_ble_eq_true rfl), (Nat.le_of_ble_eq_true rfl)⟩) hP hD hS hA [0, 1, 2] [] rfl rfl (by decide) (by decide) (fun  u5 H locs p6 hP hD hS => ?_)
    obtain ⟨ksnapManyG_7, ksnapsG_8⟩ := u5
    try dsimp only at p6
    obtain ⟨p9, p10⟩ := p6
    refine W.widen (k := 0) (n := 0) (Nat.le_of_ble_eq_true rfl) (Nat.le_of_ble_eq_true rfl) ?_
    have hP : va_P (dC, dI) vwCl [(o, .inr (12, [.int kthrown, .ref ktape, .int (nI ktaped), .int (nI ksize), .int (nI klimit), .int (nI kto), .int (nI kfrom), .int kkind, .int knumber, .int ksign, .int kfault, .int kplace, .long kword, .int ktold, .ref know, .ref kread, .ref kkept, .ref ksnaps, .ref kaside, .ref kname, .ref kreadName, .ref kkeptName, .ref kisKept, .ref konces, .int (nI ksnapManyG_7), .int khasCells, .ref kpoured, .ref kfar, .ref ksides, .int (nI ksideMany), .int kwayDays, .int khasWay, .ref klines, .ref kmet, .int (nI kmetMany), .ref ksunk, .ref ktrying, .int (nI ksunkMany), .int ksending, .int kfleets, .ref ktext, .int (nI ktexts), .int kseed, .ref kline, .ref kwritten, .int (nI klineMany), .int khasWritten, .ref knode, .int (nI knodes), .int (nI konesMany), .int (nI kwithin), .int (nI ktop)])), (know, .inl (ky 0, 373, .inl knowF)), (ksnaps, .inl (ky 0, 512, .inl ksnapsG_8))] H := hP
    have hD : va_D A [(o, .inr (12, [.int kthrown, .ref ktape, .int (nI ktaped), .int (nI ksize), .int (nI klimit), .int (nI kto), .int (nI kfrom), .int kkind, .int knumber, .int ksign, .int kfault, .int kplace, .long kword, .int ktold, .ref know, .ref kread, .ref kkept, .ref ksnaps, .ref kaside, .ref kname, .ref kreadName, .ref kkeptName, .ref kisKept, .ref konces, .int (nI ksnapManyG_7), .int khasCells, .ref kpoured, .ref kfar, .ref ksides, .int (nI ksideMany), .int kwayDays, .int khasWay, .ref klines, .ref kmet, .int (nI kmetMany), .ref ksunk, .ref ktrying, .int (nI ksunkMany), .int ksending, .int kfleets, .ref ktext, .int (nI ktexts), .int kseed, .ref kline, .ref kwritten, .int (nI klineMany), .int khasWritten, .ref knode, .int (nI knodes), .int (nI konesMany), .int (nI kwithin), .int (nI ktop)])), (know, .inl (ky 0, 373, .inl knowF)), (ksnaps, .inl (ky 0, 512, .inl ksnapsG_8))] := hD
    refine lv_aload_n hx hb dX12_act_28 rfl (lv_at hl 1 rfl) ?_
    refine lv_iload_n hx hb dX12_act_29 rfl (lv_at hl 2 rfl) ?_
    refine lv_iload_n hx hb dX12_act_30 rfl (lv_at hl 3 rfl) ?_
    refine lv_iload_n hx hb dX12_act_31 rfl (lv_at hl 4 rfl) ?_
    refine r_call_v (wr := [(ksnaps, .inl (ky 0, 512, .inl ksnapsG_8))]) (va_runV (As := [.int (nI 4), .int x, .int y]) (rest := []) ⟨hx, hb, hml, hown, hts⟩ (c_e_live4 l dC dI ky H.size o kthrown ktape ktaped ksize klimit kto kfrom kkind knumber ksign kfault kplace kword ktold know kread kkept ksnaps kaside kname kreadName kkeptName kisKept konces ksnapManyG_7 khasCells kpoured kfar ksides ksideMany kwayDays khasWay klines kmet kmetMany ksunk ktrying ksunkMany ksending kfleets ktext ktexts kseed kline kwritten klineMany khasWritten knode knodes konesMany kwithin ktop knowF kn0 x y iv_ko_0 iv_ko_1 iv_ko_2 iv_ko_3 iv_ko_4 p9 iv_ko_6 iv_ko_7 iv_ko_8 iv_ko_9 iv_ko_10 iv_ko_11 iv_ko_12 iv_ko_13 iv_ko_14 ab_now sb_now he0) (cwV 3 hts gX12_act_X12_live rfl rfl rfl (by decide +kernel) ⟨(Nat.le_of_ble_eq_true rfl), (Nat.le_of_ble_eq_true rfl)⟩) (pre_UV hK hP hD [0, 1] (by decide) rfl (ci := 12) (q0 := 0) rfl rfl) rfl rfl hl.1 rfl (lv_room (Nat.le_of_ble_eq_true rfl)) dX12_act_32 ⟨(Nat.le_of_ble_eq_true rfl), (Nat.le_of_ble_eq_true rfl)⟩) hP hD hS hA [0, 1] [2] rfl rfl (by decide) (by decide) (fun  u11 H locs p12 hP hD hS => ?_)
    obtain ⟨knowG_13, rfl⟩ : ∃ z, z = u11 := ⟨_, rfl⟩
    try dsimp only at p12
    obtain ⟨p14, p15, p16⟩ := p12
    refine W.widen (k := 0) (n := 0) (Nat.le_of_ble_eq_true rfl) (Nat.le_of_ble_eq_true rfl) ?_
    have hP : va_P (dC, dI) vwCl [(ksnaps, .inl (ky 0, 512, .inl ksnapsG_8)), (o, .inr (12, [.int kthrown, .ref ktape, .int (nI ktaped), .int (nI ksize), .int (nI klimit), .int (nI kto), .int (nI kfrom), .int kkind, .int knumber, .int ksign, .int kfault, .int kplace, .long kword, .int ktold, .ref know, .ref kread, .ref kkept, .ref ksnaps, .ref kaside, .ref kname, .ref kreadName, .ref kkeptName, .ref kisKept, .ref konces, .int (nI ksnapManyG_7), .int khasCells, .ref kpoured, .ref kfar, .ref ksides, .int (nI ksideMany), .int kwayDays, .int khasWay, .ref klines, .ref kmet, .int (nI kmetMany), .ref ksunk, .ref ktrying, .int (nI ksunkMany), .int ksending, .int kfleets, .ref ktext, .int (nI ktexts), .int kseed, .ref kline, .ref kwritten, .int (nI klineMany), .int khasWritten, .ref knode, .int (nI knodes), .int (nI konesMany), .int (nI kwithin), .int (nI ktop)])), (know, .inl (ky 0, 373, .inl knowG_13))] H := hP
    have hD : va_D A [(ksnaps, .inl (ky 0, 512, .inl ksnapsG_8)), (o, .inr (12, [.int kthrown, .ref ktape, .int (nI ktaped), .int (nI ksize), .int (nI klimit), .int (nI kto), .int (nI kfrom), .int kkind, .int knumber, .int ksign, .int kfault, .int kplace, .long kword, .int ktold, .ref know, .ref kread, .ref kkept, .ref ksnaps, .ref kaside, .ref kname, .ref kreadName, .ref kkeptName, .ref kisKept, .ref konces, .int (nI ksnapManyG_7), .int khasCells, .ref kpoured, .ref kfar, .ref ksides, .int (nI ksideMany), .int kwayDays, .int khasWay, .ref klines, .ref kmet, .int (nI kmetMany), .ref ksunk, .ref ktrying, .int (nI ksunkMany), .int ksending, .int kfleets, .ref ktext, .int (nI ktexts), .int kseed, .ref kline, .ref kwritten, .int (nI klineMany), .int khasWritten, .ref knode, .int (nI knodes), .int (nI konesMany), .int (nI kwithin), .int (nI ktop)])), (know, .inl (ky 0, 373, .inl knowG_13))] := hD
    refine lv_iconst (v := nI 0) hx hb dX12_act_35 (by decide) ?_
    rw [hQ]
    have hP9 := hP.sub (ws' := [(o, .inr (12, [.int kthrown, .ref ktape, .int (nI ktaped), .int (nI ksize), .int (nI klimit), .int (nI kto), .int (nI kfrom), .int kkind, .int knumber, .int ksign, .int kfault, .int kplace, .long kword, .int ktold, .ref know, .ref kread, .ref kkept, .ref ksnaps, .ref kaside, .ref kname, .ref kreadName, .ref kkeptName, .ref kisKept, .ref konces, .int (nI ksnapManyG_7), .int khasCells, .ref kpoured, .ref kfar, .ref ksides, .int (nI ksideMany), .int kwayDays, .int khasWay, .ref klines, .ref kmet, .int (nI kmetMany), .ref ksunk, .ref ktrying, .int (nI ksunkMany), .int ksending, .int kfleets, .ref ktext, .int (nI ktexts), .int kseed, .ref kline, .ref kwritten, .int (nI klineMany), .int khasWritten, .ref knode, .int (nI knodes), .int (nI konesMany), .int (nI kwithin), .int (nI ktop)])), (know, .inl (ky 0, 373, .inl knowG_13)), (ksnaps, .inl (ky 0, 512, .inl ksnapsG_8))]) [1, 2, 0] rfl
    have hD9 := hD.sub (ws' := [(o, .inr (12, [.int kthrown, .ref ktape, .int (nI ktaped), .int (nI ksize), .int (nI klimit), .int (nI kto), .int (nI kfrom), .int kkind, .int knumber, .int ksign, .int kfault, .int kplace, .long kword, .int ktold, .ref know, .ref kread, .ref kkept, .ref ksnaps, .ref kaside, .ref kname, .ref kreadName, .ref kkeptName, .ref kisKept, .ref konces, .int (nI ksnapManyG_7), .int khasCells, .ref kpoured, .ref kfar, .ref ksides, .int (nI ksideMany), .int kwayDays, .int khasWay, .ref klines, .ref kmet, .int (nI kmetMany), .ref ksunk, .ref ktrying, .int (nI ksunkMany), .int ksending, .int kfleets, .ref ktext, .int (nI ktexts), .int kseed, .ref kline, .ref kwritten, .int (nI klineMany), .int khasWritten, .ref knode, .int (nI knodes), .int (nI konesMany), .int (nI kwithin), .int (nI ktop)])), (know, .inl (ky 0, 373, .inl knowG_13)), (ksnaps, .inl (ky 0, 512, .inl ksnapsG_8))]) [1, 2, 0] (by decide) rfl
    exact W.iret (v := nI 0) hx hb hr (fun t9 ht9 hW9 => ⟨⟨nI 0, (ksnapManyG_7, knowG_13, ksnapsG_8), rfl, ⟨p9, p14, p15, p10, p16⟩, by rw [ht9]; exact hP9, va_K.moved hW9.alike hK, hD9⟩, hS.F ht9⟩) hS.2.2 dX12_act_36
  · refine lv_iload hx hb dX12_act_21 (lv_at hl 0 rfl) ?_
    rw [hQ]
    exact W.iret (v := r2) hx hb hr (fun t9 ht9 hW9 => ⟨⟨r2, (ksnapMany, knowF, ksnapsF), rfl, ⟨iv_ko_5, ab_now, sb_now, ab_snaps, he0⟩, by rw [ht9]; exact hP, va_K.moved hW9.alike hK, hD⟩, hS.F ht9⟩) hS.2.2 dX12_act_23
