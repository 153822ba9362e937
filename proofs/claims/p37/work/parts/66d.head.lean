set_option maxRecDepth 20000 in
theorem lf_e_startSo_1 (knowF : Nat → Int32) (kn0 : Nat → Int32) (f16 : Nat → Int32) (y27 : Int32) (ab_now : NB knowF) (sb_now : SB knowF) (he0 : HE kn0 knowF) (j18 : NB f16) (j19 : SB f16) (j20 : HE kn0 f16) (e28 : y27 = f16 4) : -2147483648 ≤ (y27).toInt := by
  have b_y27 := ia_b y27
  try simp only [ia_lt, ia_le, ia_eq, ia_m1, ia_0, ia_1, ne_eq, true_and, and_true, false_and, and_false, or_false, false_or, or_true, true_or, not_true_eq_false, not_false_eq_true] at *
  all_goals omega
set_option maxRecDepth 20000 in
theorem lf_e_startSo_2 (knowF : Nat → Int32) (kn0 : Nat → Int32) (f16 : Nat → Int32) (y27 : Int32) (ab_now : NB knowF) (sb_now : SB knowF) (he0 : HE kn0 knowF) (j18 : NB f16) (j19 : SB f16) (j20 : HE kn0 f16) (e28 : y27 = f16 4) : (y27).toInt ≤ 2147483647 := by
  have b_y27 := ia_b y27
  try simp only [ia_lt, ia_le, ia_eq, ia_m1, ia_0, ia_1, ne_eq, true_and, and_true, false_and, and_false, or_false, false_or, or_true, true_or, not_true_eq_false, not_false_eq_true] at *
  all_goals omega
set_option maxRecDepth 20000 in
theorem lf_e_startSo_3 (knowF : Nat → Int32) (kn0 : Nat → Int32) (f16 : Nat → Int32) (y27 : Int32) (g29 : Nat → Int32) (f47 : Nat → Int32) (k69 : Nat) (f70 : Nat → Int32) (n76 : Nat) (y80 : Int32) (ab_now : NB knowF) (sb_now : SB knowF) (he0 : HE kn0 knowF) (j18 : NB f16) (j19 : SB f16) (j20 : HE kn0 f16) (e28 : y27 = f16 4) (nb31 : NB g29) (sb32 : SB g29) (he33 : HE kn0 g29) (j49 : NB f47) (j50 : SB f47) (j51 : HE kn0 f47) (j71 : k69 ≤ 6) (j72 : NB f70) (j73 : SB f70) (j74 : HE kn0 f70) (hm78 : 6 - k69 < n76 + 1) (c79 : k69 < 6) (e81 : y80 = f70 (43 + k69)) : (43 + k69) < 373 := by
  have b_y27 := ia_b y27
  have b_y80 := ia_b y80
  try simp only [ia_lt, ia_le, ia_eq, ia_m1, ia_0, ia_1, ne_eq, true_and, and_true, false_and, and_false, or_false, false_or, or_true, true_or, not_true_eq_false, not_false_eq_true] at *
  all_goals omega
set_option maxRecDepth 20000 in
theorem lf_e_startSo_4 (knowF : Nat → Int32) (kn0 : Nat → Int32) (f16 : Nat → Int32) (y27 : Int32) (g29 : Nat → Int32) (f47 : Nat → Int32) (k69 : Nat) (f70 : Nat → Int32) (n76 : Nat) (y80 : Int32) (ab_now : NB knowF) (sb_now : SB knowF) (he0 : HE kn0 knowF) (j18 : NB f16) (j19 : SB f16) (j20 : HE kn0 f16) (e28 : y27 = f16 4) (nb31 : NB g29) (sb32 : SB g29) (he33 : HE kn0 g29) (j49 : NB f47) (j50 : SB f47) (j51 : HE kn0 f47) (j71 : k69 ≤ 6) (j72 : NB f70) (j73 : SB f70) (j74 : HE kn0 f70) (hm78 : 6 - k69 < n76 + 1) (c79 : k69 < 6) (e81 : y80 = f70 (43 + k69)) : 43 ≤ (43 + k69) := by
  have b_y27 := ia_b y27
  have b_y80 := ia_b y80
  try simp only [ia_lt, ia_le, ia_eq, ia_m1, ia_0, ia_1, ne_eq, true_and, and_true, false_and, and_false, or_false, false_or, or_true, true_or, not_true_eq_false, not_false_eq_true] at *
  all_goals omega
set_option maxRecDepth 20000 in
theorem lf_e_startSo_5 (knowF : Nat → Int32) (kn0 : Nat → Int32) (f16 : Nat → Int32) (y27 : Int32) (g29 : Nat → Int32) (f47 : Nat → Int32) (k69 : Nat) (f70 : Nat → Int32) (n76 : Nat) (y80 : Int32) (ab_now : NB knowF) (sb_now : SB knowF) (he0 : HE kn0 knowF) (j18 : NB f16) (j19 : SB f16) (j20 : HE kn0 f16) (e28 : y27 = f16 4) (nb31 : NB g29) (sb32 : SB g29) (he33 : HE kn0 g29) (j49 : NB f47) (j50 : SB f47) (j51 : HE kn0 f47) (j71 : k69 ≤ 6) (j72 : NB f70) (j73 : SB f70) (j74 : HE kn0 f70) (hm78 : 6 - k69 < n76 + 1) (c79 : k69 < 6) (e81 : y80 = f70 (43 + k69)) : (43 + k69) < 55 := by
  have b_y27 := ia_b y27
  have b_y80 := ia_b y80
  try simp only [ia_lt, ia_le, ia_eq, ia_m1, ia_0, ia_1, ne_eq, true_and, and_true, false_and, and_false, or_false, false_or, or_true, true_or, not_true_eq_false, not_false_eq_true] at *
  all_goals omega
set_option maxRecDepth 20000 in
theorem lf_e_startSo_6 (knowF : Nat → Int32) (kn0 : Nat → Int32) (f16 : Nat → Int32) (y27 : Int32) (g29 : Nat → Int32) (f47 : Nat → Int32) (k69 : Nat) (f70 : Nat → Int32) (n76 : Nat) (y80 : Int32) (ab_now : NB knowF) (sb_now : SB knowF) (he0 : HE kn0 knowF) (j18 : NB f16) (j19 : SB f16) (j20 : HE kn0 f16) (e28 : y27 = f16 4) (nb31 : NB g29) (sb32 : SB g29) (he33 : HE kn0 g29) (j49 : NB f47) (j50 : SB f47) (j51 : HE kn0 f47) (j71 : k69 ≤ 6) (j72 : NB f70) (j73 : SB f70) (j74 : HE kn0 f70) (hm78 : 6 - k69 < n76 + 1) (c79 : k69 < 6) (e81 : y80 = f70 (43 + k69)) (b82 : 0 ≤ y80.toInt) (b83 : y80.toInt ≤ 35) : 0 ≤ (y80).toInt := by
  have b_y27 := ia_b y27
  have b_y80 := ia_b y80
  try simp only [ia_lt, ia_le, ia_eq, ia_m1, ia_0, ia_1, ne_eq, true_and, and_true, false_and, and_false, or_false, false_or, or_true, true_or, not_true_eq_false, not_false_eq_true] at *
  all_goals omega
set_option maxRecDepth 20000 in
theorem lf_e_startSo_7 (knowF : Nat → Int32) (kn0 : Nat → Int32) (f16 : Nat → Int32) (y27 : Int32) (g29 : Nat → Int32) (f47 : Nat → Int32) (k69 : Nat) (f70 : Nat → Int32) (n76 : Nat) (y80 : Int32) (ab_now : NB knowF) (sb_now : SB knowF) (he0 : HE kn0 knowF) (j18 : NB f16) (j19 : SB f16) (j20 : HE kn0 f16) (e28 : y27 = f16 4) (nb31 : NB g29) (sb32 : SB g29) (he33 : HE kn0 g29) (j49 : NB f47) (j50 : SB f47) (j51 : HE kn0 f47) (j71 : k69 ≤ 6) (j72 : NB f70) (j73 : SB f70) (j74 : HE kn0 f70) (hm78 : 6 - k69 < n76 + 1) (c79 : k69 < 6) (e81 : y80 = f70 (43 + k69)) (b82 : 0 ≤ y80.toInt) (b83 : y80.toInt ≤ 35) : (y80).toInt ≤ 35 := by
  have b_y27 := ia_b y27
  have b_y80 := ia_b y80
  try simp only [ia_lt, ia_le, ia_eq, ia_m1, ia_0, ia_1, ne_eq, true_and, and_true, false_and, and_false, or_false, false_or, or_true, true_or, not_true_eq_false, not_false_eq_true] at *
  all_goals omega
set_option maxRecDepth 20000 in
theorem lf_e_startSo_8 (knowF : Nat → Int32) (kn0 : Nat → Int32) (f16 : Nat → Int32) (y27 : Int32) (g29 : Nat → Int32) (f47 : Nat → Int32) (k69 : Nat) (f70 : Nat → Int32) (n76 : Nat) (y80 : Int32) (ab_now : NB knowF) (sb_now : SB knowF) (he0 : HE kn0 knowF) (j18 : NB f16) (j19 : SB f16) (j20 : HE kn0 f16) (e28 : y27 = f16 4) (nb31 : NB g29) (sb32 : SB g29) (he33 : HE kn0 g29) (j49 : NB f47) (j50 : SB f47) (j51 : HE kn0 f47) (j71 : k69 ≤ 6) (j72 : NB f70) (j73 : SB f70) (j74 : HE kn0 f70) (hm78 : 6 - k69 < n76 + 1) (c79 : k69 < 6) (e81 : y80 = f70 (43 + k69)) (b82 : 0 ≤ y80.toInt) (b83 : y80.toInt ≤ 35) : (107 + k69) < 373 := by
  have b_y27 := ia_b y27
  have b_y80 := ia_b y80
  try simp only [ia_lt, ia_le, ia_eq, ia_m1, ia_0, ia_1, ne_eq, true_and, and_true, false_and, and_false, or_false, false_or, or_true, true_or, not_true_eq_false, not_false_eq_true] at *
  all_goals omega
set_option maxRecDepth 20000 in
theorem lf_e_startSo_9 (knowF : Nat → Int32) (kn0 : Nat → Int32) (f16 : Nat → Int32) (y27 : Int32) (g29 : Nat → Int32) (f47 : Nat → Int32) (k69 : Nat) (f70 : Nat → Int32) (n76 : Nat) (y80 : Int32) (ab_now : NB knowF) (sb_now : SB knowF) (he0 : HE kn0 knowF) (j18 : NB f16) (j19 : SB f16) (j20 : HE kn0 f16) (e28 : y27 = f16 4) (nb31 : NB g29) (sb32 : SB g29) (he33 : HE kn0 g29) (j49 : NB f47) (j50 : SB f47) (j51 : HE kn0 f47) (j71 : k69 ≤ 6) (j72 : NB f70) (j73 : SB f70) (j74 : HE kn0 f70) (hm78 : 6 - k69 < n76 + 1) (c79 : k69 < 6) (e81 : y80 = f70 (43 + k69)) (b82 : 0 ≤ y80.toInt) (b83 : y80.toInt ≤ 35) : 107 ≤ (107 + k69) := by
  have b_y27 := ia_b y27
  have b_y80 := ia_b y80
  try simp only [ia_lt, ia_le, ia_eq, ia_m1, ia_0, ia_1, ne_eq, true_and, and_true, false_and, and_false, or_false, false_or, or_true, true_or, not_true_eq_false, not_false_eq_true] at *
  all_goals omega
set_option maxRecDepth 20000 in
theorem lf_e_startSo_10 (knowF : Nat → Int32) (kn0 : Nat → Int32) (f16 : Nat → Int32) (y27 : Int32) (g29 : Nat → Int32) (f47 : Nat → Int32) (k69 : Nat) (f70 : Nat → Int32) (n76 : Nat) (y80 : Int32) (ab_now : NB knowF) (sb_now : SB knowF) (he0 : HE kn0 knowF) (j18 : NB f16) (j19 : SB f16) (j20 : HE kn0 f16) (e28 : y27 = f16 4) (nb31 : NB g29) (sb32 : SB g29) (he33 : HE kn0 g29) (j49 : NB f47) (j50 : SB f47) (j51 : HE kn0 f47) (j71 : k69 ≤ 6) (j72 : NB f70) (j73 : SB f70) (j74 : HE kn0 f70) (hm78 : 6 - k69 < n76 + 1) (c79 : k69 < 6) (e81 : y80 = f70 (43 + k69)) (b82 : 0 ≤ y80.toInt) (b83 : y80.toInt ≤ 35) : (107 + k69) < 119 := by
  have b_y27 := ia_b y27
  have b_y80 := ia_b y80
  try simp only [ia_lt, ia_le, ia_eq, ia_m1, ia_0, ia_1, ne_eq, true_and, and_true, false_and, and_false, or_false, false_or, or_true, true_or, not_true_eq_false, not_false_eq_true] at *
  all_goals omega
set_option maxRecDepth 20000 in
theorem lf_e_startSo_11 (knowF : Nat → Int32) (kn0 : Nat → Int32) (f16 : Nat → Int32) (y27 : Int32) (g29 : Nat → Int32) (f47 : Nat → Int32) (k69 : Nat) (f70 : Nat → Int32) (n76 : Nat) (y80 : Int32) (ab_now : NB knowF) (sb_now : SB knowF) (he0 : HE kn0 knowF) (j18 : NB f16) (j19 : SB f16) (j20 : HE kn0 f16) (e28 : y27 = f16 4) (nb31 : NB g29) (sb32 : SB g29) (he33 : HE kn0 g29) (j49 : NB f47) (j50 : SB f47) (j51 : HE kn0 f47) (j71 : k69 ≤ 6) (j72 : NB f70) (j73 : SB f70) (j74 : HE kn0 f70) (hm78 : 6 - k69 < n76 + 1) (c79 : k69 < 6) (e81 : y80 = f70 (43 + k69)) (b82 : 0 ≤ y80.toInt) (b83 : y80.toInt ≤ 35) : 67 ≤ (107 + k69) := by
  have b_y27 := ia_b y27
  have b_y80 := ia_b y80
  try simp only [ia_lt, ia_le, ia_eq, ia_m1, ia_0, ia_1, ne_eq, true_and, and_true, false_and, and_false, or_false, false_or, or_true, true_or, not_true_eq_false, not_false_eq_true] at *
  all_goals omega
set_option maxRecDepth 20000 in
theorem lf_e_startSo_12 (knowF : Nat → Int32) (kn0 : Nat → Int32) (f16 : Nat → Int32) (y27 : Int32) (g29 : Nat → Int32) (f47 : Nat → Int32) (k69 : Nat) (f70 : Nat → Int32) (n76 : Nat) (y80 : Int32) (g84 : Nat → Int32) (y89 : Int32) (ab_now : NB knowF) (sb_now : SB knowF) (he0 : HE kn0 knowF) (j18 : NB f16) (j19 : SB f16) (j20 : HE kn0 f16) (e28 : y27 = f16 4) (nb31 : NB g29) (sb32 : SB g29) (he33 : HE kn0 g29) (j49 : NB f47) (j50 : SB f47) (j51 : HE kn0 f47) (j71 : k69 ≤ 6) (j72 : NB f70) (j73 : SB f70) (j74 : HE kn0 f70) (hm78 : 6 - k69 < n76 + 1) (c79 : k69 < 6) (e81 : y80 = f70 (43 + k69)) (b82 : 0 ≤ y80.toInt) (b83 : y80.toInt ≤ 35) (nb86 : NB g84) (sb87 : SB g84) (he88 : HE kn0 g84) (e90 : y89 = g84 (49 + k69)) : (49 + k69) < 373 := by
  have b_y27 := ia_b y27
  have b_y80 := ia_b y80
  have b_y89 := ia_b y89
  try simp only [ia_lt, ia_le, ia_eq, ia_m1, ia_0, ia_1, ne_eq, true_and, and_true, false_and, and_false, or_false, false_or, or_true, true_or, not_true_eq_false, not_false_eq_true] at *
  all_goals omega
set_option maxRecDepth 20000 in
theorem lf_e_startSo_13 (knowF : Nat → Int32) (kn0 : Nat → Int32) (f16 : Nat → Int32) (y27 : Int32) (g29 : Nat → Int32) (f47 : Nat → Int32) (k69 : Nat) (f70 : Nat → Int32) (n76 : Nat) (y80 : Int32) (g84 : Nat → Int32) (y89 : Int32) (ab_now : NB knowF) (sb_now : SB knowF) (he0 : HE kn0 knowF) (j18 : NB f16) (j19 : SB f16) (j20 : HE kn0 f16) (e28 : y27 = f16 4) (nb31 : NB g29) (sb32 : SB g29) (he33 : HE kn0 g29) (j49 : NB f47) (j50 : SB f47) (j51 : HE kn0 f47) (j71 : k69 ≤ 6) (j72 : NB f70) (j73 : SB f70) (j74 : HE kn0 f70) (hm78 : 6 - k69 < n76 + 1) (c79 : k69 < 6) (e81 : y80 = f70 (43 + k69)) (b82 : 0 ≤ y80.toInt) (b83 : y80.toInt ≤ 35) (nb86 : NB g84) (sb87 : SB g84) (he88 : HE kn0 g84) (e90 : y89 = g84 (49 + k69)) : 43 ≤ (49 + k69) := by
  have b_y27 := ia_b y27
  have b_y80 := ia_b y80
  have b_y89 := ia_b y89
  try simp only [ia_lt, ia_le, ia_eq, ia_m1, ia_0, ia_1, ne_eq, true_and, and_true, false_and, and_false, or_false, false_or, or_true, true_or, not_true_eq_false, not_false_eq_true] at *
  all_goals omega
set_option maxRecDepth 20000 in
theorem lf_e_startSo_14 (knowF : Nat → Int32) (kn0 : Nat → Int32) (f16 : Nat → Int32) (y27 : Int32) (g29 : Nat → Int32) (f47 : Nat → Int32) (k69 : Nat) (f70 : Nat → Int32) (n76 : Nat) (y80 : Int32) (g84 : Nat → Int32) (y89 : Int32) (ab_now : NB knowF) (sb_now : SB knowF) (he0 : HE kn0 knowF) (j18 : NB f16) (j19 : SB f16) (j20 : HE kn0 f16) (e28 : y27 = f16 4) (nb31 : NB g29) (sb32 : SB g29) (he33 : HE kn0 g29) (j49 : NB f47) (j50 : SB f47) (j51 : HE kn0 f47) (j71 : k69 ≤ 6) (j72 : NB f70) (j73 : SB f70) (j74 : HE kn0 f70) (hm78 : 6 - k69 < n76 + 1) (c79 : k69 < 6) (e81 : y80 = f70 (43 + k69)) (b82 : 0 ≤ y80.toInt) (b83 : y80.toInt ≤ 35) (nb86 : NB g84) (sb87 : SB g84) (he88 : HE kn0 g84) (e90 : y89 = g84 (49 + k69)) : (49 + k69) < 55 := by
  have b_y27 := ia_b y27
  have b_y80 := ia_b y80
  have b_y89 := ia_b y89
  try simp only [ia_lt, ia_le, ia_eq, ia_m1, ia_0, ia_1, ne_eq, true_and, and_true, false_and, and_false, or_false, false_or, or_true, true_or, not_true_eq_false, not_false_eq_true] at *
  all_goals omega
set_option maxRecDepth 20000 in
theorem lf_e_startSo_15 (knowF : Nat → Int32) (kn0 : Nat → Int32) (f16 : Nat → Int32) (y27 : Int32) (g29 : Nat → Int32) (f47 : Nat → Int32) (k69 : Nat) (f70 : Nat → Int32) (n76 : Nat) (y80 : Int32) (g84 : Nat → Int32) (y89 : Int32) (ab_now : NB knowF) (sb_now : SB knowF) (he0 : HE kn0 knowF) (j18 : NB f16) (j19 : SB f16) (j20 : HE kn0 f16) (e28 : y27 = f16 4) (nb31 : NB g29) (sb32 : SB g29) (he33 : HE kn0 g29) (j49 : NB f47) (j50 : SB f47) (j51 : HE kn0 f47) (j71 : k69 ≤ 6) (j72 : NB f70) (j73 : SB f70) (j74 : HE kn0 f70) (hm78 : 6 - k69 < n76 + 1) (c79 : k69 < 6) (e81 : y80 = f70 (43 + k69)) (b82 : 0 ≤ y80.toInt) (b83 : y80.toInt ≤ 35) (nb86 : NB g84) (sb87 : SB g84) (he88 : HE kn0 g84) (e90 : y89 = g84 (49 + k69)) (b91 : 0 ≤ y89.toInt) (b92 : y89.toInt ≤ 35) : 0 ≤ (y89).toInt := by
  have b_y27 := ia_b y27
  have b_y80 := ia_b y80
  have b_y89 := ia_b y89
  try simp only [ia_lt, ia_le, ia_eq, ia_m1, ia_0, ia_1, ne_eq, true_and, and_true, false_and, and_false, or_false, false_or, or_true, true_or, not_true_eq_false, not_false_eq_true] at *
  all_goals omega
set_option maxRecDepth 20000 in
theorem lf_e_startSo_16 (knowF : Nat → Int32) (kn0 : Nat → Int32) (f16 : Nat → Int32) (y27 : Int32) (g29 : Nat → Int32) (f47 : Nat → Int32) (k69 : Nat) (f70 : Nat → Int32) (n76 : Nat) (y80 : Int32) (g84 : Nat → Int32) (y89 : Int32) (ab_now : NB knowF) (sb_now : SB knowF) (he0 : HE kn0 knowF) (j18 : NB f16) (j19 : SB f16) (j20 : HE kn0 f16) (e28 : y27 = f16 4) (nb31 : NB g29) (sb32 : SB g29) (he33 : HE kn0 g29) (j49 : NB f47) (j50 : SB f47) (j51 : HE kn0 f47) (j71 : k69 ≤ 6) (j72 : NB f70) (j73 : SB f70) (j74 : HE kn0 f70) (hm78 : 6 - k69 < n76 + 1) (c79 : k69 < 6) (e81 : y80 = f70 (43 + k69)) (b82 : 0 ≤ y80.toInt) (b83 : y80.toInt ≤ 35) (nb86 : NB g84) (sb87 : SB g84) (he88 : HE kn0 g84) (e90 : y89 = g84 (49 + k69)) (b91 : 0 ≤ y89.toInt) (b92 : y89.toInt ≤ 35) : (y89).toInt ≤ 35 := by
  have b_y27 := ia_b y27
  have b_y80 := ia_b y80
  have b_y89 := ia_b y89
  try simp only [ia_lt, ia_le, ia_eq, ia_m1, ia_0, ia_1, ne_eq, true_and, and_true, false_and, and_false, or_false, false_or, or_true, true_or, not_true_eq_false, not_false_eq_true] at *
  all_goals omega
set_option maxRecDepth 20000 in
theorem lf_e_startSo_17 (knowF : Nat → Int32) (kn0 : Nat → Int32) (f16 : Nat → Int32) (y27 : Int32) (g29 : Nat → Int32) (f47 : Nat → Int32) (k69 : Nat) (f70 : Nat → Int32) (n76 : Nat) (y80 : Int32) (g84 : Nat → Int32) (y89 : Int32) (ab_now : NB knowF) (sb_now : SB knowF) (he0 : HE kn0 knowF) (j18 : NB f16) (j19 : SB f16) (j20 : HE kn0 f16) (e28 : y27 = f16 4) (nb31 : NB g29) (sb32 : SB g29) (he33 : HE kn0 g29) (j49 : NB f47) (j50 : SB f47) (j51 : HE kn0 f47) (j71 : k69 ≤ 6) (j72 : NB f70) (j73 : SB f70) (j74 : HE kn0 f70) (hm78 : 6 - k69 < n76 + 1) (c79 : k69 < 6) (e81 : y80 = f70 (43 + k69)) (b82 : 0 ≤ y80.toInt) (b83 : y80.toInt ≤ 35) (nb86 : NB g84) (sb87 : SB g84) (he88 : HE kn0 g84) (e90 : y89 = g84 (49 + k69)) (b91 : 0 ≤ y89.toInt) (b92 : y89.toInt ≤ 35) : (113 + k69) < 373 := by
  have b_y27 := ia_b y27
  have b_y80 := ia_b y80
  have b_y89 := ia_b y89
  try simp only [ia_lt, ia_le, ia_eq, ia_m1, ia_0, ia_1, ne_eq, true_and, and_true, false_and, and_false, or_false, false_or, or_true, true_or, not_true_eq_false, not_false_eq_true] at *
  all_goals omega
set_option maxRecDepth 20000 in
theorem lf_e_startSo_18 (knowF : Nat → Int32) (kn0 : Nat → Int32) (f16 : Nat → Int32) (y27 : Int32) (g29 : Nat → Int32) (f47 : Nat → Int32) (k69 : Nat) (f70 : Nat → Int32) (n76 : Nat) (y80 : Int32) (g84 : Nat → Int32) (y89 : Int32) (ab_now : NB knowF) (sb_now : SB knowF) (he0 : HE kn0 knowF) (j18 : NB f16) (j19 : SB f16) (j20 : HE kn0 f16) (e28 : y27 = f16 4) (nb31 : NB g29) (sb32 : SB g29) (he33 : HE kn0 g29) (j49 : NB f47) (j50 : SB f47) (j51 : HE kn0 f47) (j71 : k69 ≤ 6) (j72 : NB f70) (j73 : SB f70) (j74 : HE kn0 f70) (hm78 : 6 - k69 < n76 + 1) (c79 : k69 < 6) (e81 : y80 = f70 (43 + k69)) (b82 : 0 ≤ y80.toInt) (b83 : y80.toInt ≤ 35) (nb86 : NB g84) (sb87 : SB g84) (he88 : HE kn0 g84) (e90 : y89 = g84 (49 + k69)) (b91 : 0 ≤ y89.toInt) (b92 : y89.toInt ≤ 35) : 107 ≤ (113 + k69) := by
  have b_y27 := ia_b y27
  have b_y80 := ia_b y80
  have b_y89 := ia_b y89
  try simp only [ia_lt, ia_le, ia_eq, ia_m1, ia_0, ia_1, ne_eq, true_and, and_true, false_and, and_false, or_false, false_or, or_true, true_or, not_true_eq_false, not_false_eq_true] at *
  all_goals omega
set_option maxRecDepth 20000 in
theorem lf_e_startSo_19 (knowF : Nat → Int32) (kn0 : Nat → Int32) (f16 : Nat → Int32) (y27 : Int32) (g29 : Nat → Int32) (f47 : Nat → Int32) (k69 : Nat) (f70 : Nat → Int32) (n76 : Nat) (y80 : Int32) (g84 : Nat → Int32) (y89 : Int32) (ab_now : NB knowF) (sb_now : SB knowF) (he0 : HE kn0 knowF) (j18 : NB f16) (j19 : SB f16) (j20 : HE kn0 f16) (e28 : y27 = f16 4) (nb31 : NB g29) (sb32 : SB g29) (he33 : HE kn0 g29) (j49 : NB f47) (j50 : SB f47) (j51 : HE kn0 f47) (j71 : k69 ≤ 6) (j72 : NB f70) (j73 : SB f70) (j74 : HE kn0 f70) (hm78 : 6 - k69 < n76 + 1) (c79 : k69 < 6) (e81 : y80 = f70 (43 + k69)) (b82 : 0 ≤ y80.toInt) (b83 : y80.toInt ≤ 35) (nb86 : NB g84) (sb87 : SB g84) (he88 : HE kn0 g84) (e90 : y89 = g84 (49 + k69)) (b91 : 0 ≤ y89.toInt) (b92 : y89.toInt ≤ 35) : (113 + k69) < 119 := by
  have b_y27 := ia_b y27
  have b_y80 := ia_b y80
  have b_y89 := ia_b y89
  try simp only [ia_lt, ia_le, ia_eq, ia_m1, ia_0, ia_1, ne_eq, true_and, and_true, false_and, and_false, or_false, false_or, or_true, true_or, not_true_eq_false, not_false_eq_true] at *
  all_goals omega
set_option maxRecDepth 20000 in
theorem lf_e_startSo_20 (knowF : Nat → Int32) (kn0 : Nat → Int32) (f16 : Nat → Int32) (y27 : Int32) (g29 : Nat → Int32) (f47 : Nat → Int32) (k69 : Nat) (f70 : Nat → Int32) (n76 : Nat) (y80 : Int32) (g84 : Nat → Int32) (y89 : Int32) (ab_now : NB knowF) (sb_now : SB knowF) (he0 : HE kn0 knowF) (j18 : NB f16) (j19 : SB f16) (j20 : HE kn0 f16) (e28 : y27 = f16 4) (nb31 : NB g29) (sb32 : SB g29) (he33 : HE kn0 g29) (j49 : NB f47) (j50 : SB f47) (j51 : HE kn0 f47) (j71 : k69 ≤ 6) (j72 : NB f70) (j73 : SB f70) (j74 : HE kn0 f70) (hm78 : 6 - k69 < n76 + 1) (c79 : k69 < 6) (e81 : y80 = f70 (43 + k69)) (b82 : 0 ≤ y80.toInt) (b83 : y80.toInt ≤ 35) (nb86 : NB g84) (sb87 : SB g84) (he88 : HE kn0 g84) (e90 : y89 = g84 (49 + k69)) (b91 : 0 ≤ y89.toInt) (b92 : y89.toInt ≤ 35) : 67 ≤ (113 + k69) := by
  have b_y27 := ia_b y27
  have b_y80 := ia_b y80
  have b_y89 := ia_b y89
  try simp only [ia_lt, ia_le, ia_eq, ia_m1, ia_0, ia_1, ne_eq, true_and, and_true, false_and, and_false, or_false, false_or, or_true, true_or, not_true_eq_false, not_false_eq_true] at *
  all_goals omega
set_option maxRecDepth 20000 in
theorem lf_e_startSo_21 (knowF : Nat → Int32) (kn0 : Nat → Int32) (f16 : Nat → Int32) (y27 : Int32) (g29 : Nat → Int32) (f47 : Nat → Int32) (k69 : Nat) (f70 : Nat → Int32) (n76 : Nat) (y80 : Int32) (g84 : Nat → Int32) (y89 : Int32) (g93 : Nat → Int32) (y98 : Int32) (ab_now : NB knowF) (sb_now : SB knowF) (he0 : HE kn0 knowF) (j18 : NB f16) (j19 : SB f16) (j20 : HE kn0 f16) (e28 : y27 = f16 4) (nb31 : NB g29) (sb32 : SB g29) (he33 : HE kn0 g29) (j49 : NB f47) (j50 : SB f47) (j51 : HE kn0 f47) (j71 : k69 ≤ 6) (j72 : NB f70) (j73 : SB f70) (j74 : HE kn0 f70) (hm78 : 6 - k69 < n76 + 1) (c79 : k69 < 6) (e81 : y80 = f70 (43 + k69)) (b82 : 0 ≤ y80.toInt) (b83 : y80.toInt ≤ 35) (nb86 : NB g84) (sb87 : SB g84) (he88 : HE kn0 g84) (e90 : y89 = g84 (49 + k69)) (b91 : 0 ≤ y89.toInt) (b92 : y89.toInt ≤ 35) (nb95 : NB g93) (sb96 : SB g93) (he97 : HE kn0 g93) (e99 : y98 = g93 (61 + k69)) : (61 + k69) < 373 := by
  have b_y27 := ia_b y27
  have b_y80 := ia_b y80
  have b_y89 := ia_b y89
  have b_y98 := ia_b y98
  try simp only [ia_lt, ia_le, ia_eq, ia_m1, ia_0, ia_1, ne_eq, true_and, and_true, false_and, and_false, or_false, false_or, or_true, true_or, not_true_eq_false, not_false_eq_true] at *
  all_goals omega
set_option maxRecDepth 20000 in
theorem lf_e_startSo_22 (knowF : Nat → Int32) (kn0 : Nat → Int32) (f16 : Nat → Int32) (y27 : Int32) (g29 : Nat → Int32) (f47 : Nat → Int32) (k69 : Nat) (f70 : Nat → Int32) (n76 : Nat) (y80 : Int32) (g84 : Nat → Int32) (y89 : Int32) (g93 : Nat → Int32) (y98 : Int32) (ab_now : NB knowF) (sb_now : SB knowF) (he0 : HE kn0 knowF) (j18 : NB f16) (j19 : SB f16) (j20 : HE kn0 f16) (e28 : y27 = f16 4) (nb31 : NB g29) (sb32 : SB g29) (he33 : HE kn0 g29) (j49 : NB f47) (j50 : SB f47) (j51 : HE kn0 f47) (j71 : k69 ≤ 6) (j72 : NB f70) (j73 : SB f70) (j74 : HE kn0 f70) (hm78 : 6 - k69 < n76 + 1) (c79 : k69 < 6) (e81 : y80 = f70 (43 + k69)) (b82 : 0 ≤ y80.toInt) (b83 : y80.toInt ≤ 35) (nb86 : NB g84) (sb87 : SB g84) (he88 : HE kn0 g84) (e90 : y89 = g84 (49 + k69)) (b91 : 0 ≤ y89.toInt) (b92 : y89.toInt ≤ 35) (nb95 : NB g93) (sb96 : SB g93) (he97 : HE kn0 g93) (e99 : y98 = g93 (61 + k69)) : -2147483648 ≤ (y98).toInt := by
  have b_y27 := ia_b y27
  have b_y80 := ia_b y80
  have b_y89 := ia_b y89
  have b_y98 := ia_b y98
  try simp only [ia_lt, ia_le, ia_eq, ia_m1, ia_0, ia_1, ne_eq, true_and, and_true, false_and, and_false, or_false, false_or, or_true, true_or, not_true_eq_false, not_false_eq_true] at *
  all_goals omega
set_option maxRecDepth 20000 in
theorem lf_e_startSo_23 (knowF : Nat → Int32) (kn0 : Nat → Int32) (f16 : Nat → Int32) (y27 : Int32) (g29 : Nat → Int32) (f47 : Nat → Int32) (k69 : Nat) (f70 : Nat → Int32) (n76 : Nat) (y80 : Int32) (g84 : Nat → Int32) (y89 : Int32) (g93 : Nat → Int32) (y98 : Int32) (ab_now : NB knowF) (sb_now : SB knowF) (he0 : HE kn0 knowF) (j18 : NB f16) (j19 : SB f16) (j20 : HE kn0 f16) (e28 : y27 = f16 4) (nb31 : NB g29) (sb32 : SB g29) (he33 : HE kn0 g29) (j49 : NB f47) (j50 : SB f47) (j51 : HE kn0 f47) (j71 : k69 ≤ 6) (j72 : NB f70) (j73 : SB f70) (j74 : HE kn0 f70) (hm78 : 6 - k69 < n76 + 1) (c79 : k69 < 6) (e81 : y80 = f70 (43 + k69)) (b82 : 0 ≤ y80.toInt) (b83 : y80.toInt ≤ 35) (nb86 : NB g84) (sb87 : SB g84) (he88 : HE kn0 g84) (e90 : y89 = g84 (49 + k69)) (b91 : 0 ≤ y89.toInt) (b92 : y89.toInt ≤ 35) (nb95 : NB g93) (sb96 : SB g93) (he97 : HE kn0 g93) (e99 : y98 = g93 (61 + k69)) : (y98).toInt ≤ 2147483647 := by
  have b_y27 := ia_b y27
  have b_y80 := ia_b y80
  have b_y89 := ia_b y89
  have b_y98 := ia_b y98
  try simp only [ia_lt, ia_le, ia_eq, ia_m1, ia_0, ia_1, ne_eq, true_and, and_true, false_and, and_false, or_false, false_or, or_true, true_or, not_true_eq_false, not_false_eq_true] at *
  all_goals omega
set_option maxRecDepth 20000 in
theorem lf_e_startSo_24 (knowF : Nat → Int32) (kn0 : Nat → Int32) (f16 : Nat → Int32) (y27 : Int32) (g29 : Nat → Int32) (f47 : Nat → Int32) (k69 : Nat) (f70 : Nat → Int32) (n76 : Nat) (y80 : Int32) (g84 : Nat → Int32) (y89 : Int32) (g93 : Nat → Int32) (y98 : Int32) (ab_now : NB knowF) (sb_now : SB knowF) (he0 : HE kn0 knowF) (j18 : NB f16) (j19 : SB f16) (j20 : HE kn0 f16) (e28 : y27 = f16 4) (nb31 : NB g29) (sb32 : SB g29) (he33 : HE kn0 g29) (j49 : NB f47) (j50 : SB f47) (j51 : HE kn0 f47) (j71 : k69 ≤ 6) (j72 : NB f70) (j73 : SB f70) (j74 : HE kn0 f70) (hm78 : 6 - k69 < n76 + 1) (c79 : k69 < 6) (e81 : y80 = f70 (43 + k69)) (b82 : 0 ≤ y80.toInt) (b83 : y80.toInt ≤ 35) (nb86 : NB g84) (sb87 : SB g84) (he88 : HE kn0 g84) (e90 : y89 = g84 (49 + k69)) (b91 : 0 ≤ y89.toInt) (b92 : y89.toInt ≤ 35) (nb95 : NB g93) (sb96 : SB g93) (he97 : HE kn0 g93) (e99 : y98 = g93 (61 + k69)) : (119 + k69) < 373 := by
  have b_y27 := ia_b y27
  have b_y80 := ia_b y80
  have b_y89 := ia_b y89
  have b_y98 := ia_b y98
  try simp only [ia_lt, ia_le, ia_eq, ia_m1, ia_0, ia_1, ne_eq, true_and, and_true, false_and, and_false, or_false, false_or, or_true, true_or, not_true_eq_false, not_false_eq_true] at *
  all_goals omega
set_option maxRecDepth 20000 in
theorem lf_e_startSo_25 (knowF : Nat → Int32) (kn0 : Nat → Int32) (f16 : Nat → Int32) (y27 : Int32) (g29 : Nat → Int32) (f47 : Nat → Int32) (k69 : Nat) (f70 : Nat → Int32) (n76 : Nat) (y80 : Int32) (g84 : Nat → Int32) (y89 : Int32) (g93 : Nat → Int32) (y98 : Int32) (ab_now : NB knowF) (sb_now : SB knowF) (he0 : HE kn0 knowF) (j18 : NB f16) (j19 : SB f16) (j20 : HE kn0 f16) (e28 : y27 = f16 4) (nb31 : NB g29) (sb32 : SB g29) (he33 : HE kn0 g29) (j49 : NB f47) (j50 : SB f47) (j51 : HE kn0 f47) (j71 : k69 ≤ 6) (j72 : NB f70) (j73 : SB f70) (j74 : HE kn0 f70) (hm78 : 6 - k69 < n76 + 1) (c79 : k69 < 6) (e81 : y80 = f70 (43 + k69)) (b82 : 0 ≤ y80.toInt) (b83 : y80.toInt ≤ 35) (nb86 : NB g84) (sb87 : SB g84) (he88 : HE kn0 g84) (e90 : y89 = g84 (49 + k69)) (b91 : 0 ≤ y89.toInt) (b92 : y89.toInt ≤ 35) (nb95 : NB g93) (sb96 : SB g93) (he97 : HE kn0 g93) (e99 : y98 = g93 (61 + k69)) : 119 ≤ (119 + k69) := by
  have b_y27 := ia_b y27
  have b_y80 := ia_b y80
  have b_y89 := ia_b y89
  have b_y98 := ia_b y98
  try simp only [ia_lt, ia_le, ia_eq, ia_m1, ia_0, ia_1, ne_eq, true_and, and_true, false_and, and_false, or_false, false_or, or_true, true_or, not_true_eq_false, not_false_eq_true] at *
  all_goals omega
set_option maxRecDepth 20000 in
theorem lf_e_startSo_26 (knowF : Nat → Int32) (kn0 : Nat → Int32) (f16 : Nat → Int32) (y27 : Int32) (g29 : Nat → Int32) (f47 : Nat → Int32) (k69 : Nat) (f70 : Nat → Int32) (n76 : Nat) (y80 : Int32) (g84 : Nat → Int32) (y89 : Int32) (g93 : Nat → Int32) (y98 : Int32) (ab_now : NB knowF) (sb_now : SB knowF) (he0 : HE kn0 knowF) (j18 : NB f16) (j19 : SB f16) (j20 : HE kn0 f16) (e28 : y27 = f16 4) (nb31 : NB g29) (sb32 : SB g29) (he33 : HE kn0 g29) (j49 : NB f47) (j50 : SB f47) (j51 : HE kn0 f47) (j71 : k69 ≤ 6) (j72 : NB f70) (j73 : SB f70) (j74 : HE kn0 f70) (hm78 : 6 - k69 < n76 + 1) (c79 : k69 < 6) (e81 : y80 = f70 (43 + k69)) (b82 : 0 ≤ y80.toInt) (b83 : y80.toInt ≤ 35) (nb86 : NB g84) (sb87 : SB g84) (he88 : HE kn0 g84) (e90 : y89 = g84 (49 + k69)) (b91 : 0 ≤ y89.toInt) (b92 : y89.toInt ≤ 35) (nb95 : NB g93) (sb96 : SB g93) (he97 : HE kn0 g93) (e99 : y98 = g93 (61 + k69)) : (119 + k69) < 132 := by
  have b_y27 := ia_b y27
  have b_y80 := ia_b y80
  have b_y89 := ia_b y89
  have b_y98 := ia_b y98
  try simp only [ia_lt, ia_le, ia_eq, ia_m1, ia_0, ia_1, ne_eq, true_and, and_true, false_and, and_false, or_false, false_or, or_true, true_or, not_true_eq_false, not_false_eq_true] at *
  all_goals omega
set_option maxRecDepth 20000 in
theorem lf_e_startSo_27 (knowF : Nat → Int32) (kn0 : Nat → Int32) (f16 : Nat → Int32) (y27 : Int32) (g29 : Nat → Int32) (f47 : Nat → Int32) (k69 : Nat) (f70 : Nat → Int32) (n76 : Nat) (y80 : Int32) (g84 : Nat → Int32) (y89 : Int32) (g93 : Nat → Int32) (y98 : Int32) (ab_now : NB knowF) (sb_now : SB knowF) (he0 : HE kn0 knowF) (j18 : NB f16) (j19 : SB f16) (j20 : HE kn0 f16) (e28 : y27 = f16 4) (nb31 : NB g29) (sb32 : SB g29) (he33 : HE kn0 g29) (j49 : NB f47) (j50 : SB f47) (j51 : HE kn0 f47) (j71 : k69 ≤ 6) (j72 : NB f70) (j73 : SB f70) (j74 : HE kn0 f70) (hm78 : 6 - k69 < n76 + 1) (c79 : k69 < 6) (e81 : y80 = f70 (43 + k69)) (b82 : 0 ≤ y80.toInt) (b83 : y80.toInt ≤ 35) (nb86 : NB g84) (sb87 : SB g84) (he88 : HE kn0 g84) (e90 : y89 = g84 (49 + k69)) (b91 : 0 ≤ y89.toInt) (b92 : y89.toInt ≤ 35) (nb95 : NB g93) (sb96 : SB g93) (he97 : HE kn0 g93) (e99 : y98 = g93 (61 + k69)) : 67 ≤ (119 + k69) := by
  have b_y27 := ia_b y27
  have b_y80 := ia_b y80
  have b_y89 := ia_b y89
  have b_y98 := ia_b y98
  try simp only [ia_lt, ia_le, ia_eq, ia_m1, ia_0, ia_1, ne_eq, true_and, and_true, false_and, and_false, or_false, false_or, or_true, true_or, not_true_eq_false, not_false_eq_true] at *
  all_goals omega
set_option maxRecDepth 20000 in
theorem lf_e_startSo_28 (knowF : Nat → Int32) (kn0 : Nat → Int32) (f16 : Nat → Int32) (y27 : Int32) (g29 : Nat → Int32) (f47 : Nat → Int32) (k69 : Nat) (f70 : Nat → Int32) (n76 : Nat) (y80 : Int32) (g84 : Nat → Int32) (y89 : Int32) (g93 : Nat → Int32) (y98 : Int32) (g100 : Nat → Int32) (ab_now : NB knowF) (sb_now : SB knowF) (he0 : HE kn0 knowF) (j18 : NB f16) (j19 : SB f16) (j20 : HE kn0 f16) (e28 : y27 = f16 4) (nb31 : NB g29) (sb32 : SB g29) (he33 : HE kn0 g29) (j49 : NB f47) (j50 : SB f47) (j51 : HE kn0 f47) (j71 : k69 ≤ 6) (j72 : NB f70) (j73 : SB f70) (j74 : HE kn0 f70) (hm78 : 6 - k69 < n76 + 1) (c79 : k69 < 6) (e81 : y80 = f70 (43 + k69)) (b82 : 0 ≤ y80.toInt) (b83 : y80.toInt ≤ 35) (nb86 : NB g84) (sb87 : SB g84) (he88 : HE kn0 g84) (e90 : y89 = g84 (49 + k69)) (b91 : 0 ≤ y89.toInt) (b92 : y89.toInt ≤ 35) (nb95 : NB g93) (sb96 : SB g93) (he97 : HE kn0 g93) (e99 : y98 = g93 (61 + k69)) (nb102 : NB g100) (sb103 : SB g100) (he104 : HE kn0 g100) : (k69 + 1) ≤ 6 := by
  have b_y27 := ia_b y27
  have b_y80 := ia_b y80
  have b_y89 := ia_b y89
  have b_y98 := ia_b y98
  try simp only [ia_lt, ia_le, ia_eq, ia_m1, ia_0, ia_1, ne_eq, true_and, and_true, false_and, and_false, or_false, false_or, or_true, true_or, not_true_eq_false, not_false_eq_true] at *
  all_goals omega
set_option maxRecDepth 20000 in
theorem lf_e_startSo_29 (knowF : Nat → Int32) (kn0 : Nat → Int32) (f16 : Nat → Int32) (y27 : Int32) (g29 : Nat → Int32) (f47 : Nat → Int32) (k69 : Nat) (f70 : Nat → Int32) (n76 : Nat) (y80 : Int32) (g84 : Nat → Int32) (y89 : Int32) (g93 : Nat → Int32) (y98 : Int32) (g100 : Nat → Int32) (ab_now : NB knowF) (sb_now : SB knowF) (he0 : HE kn0 knowF) (j18 : NB f16) (j19 : SB f16) (j20 : HE kn0 f16) (e28 : y27 = f16 4) (nb31 : NB g29) (sb32 : SB g29) (he33 : HE kn0 g29) (j49 : NB f47) (j50 : SB f47) (j51 : HE kn0 f47) (j71 : k69 ≤ 6) (j72 : NB f70) (j73 : SB f70) (j74 : HE kn0 f70) (hm78 : 6 - k69 < n76 + 1) (c79 : k69 < 6) (e81 : y80 = f70 (43 + k69)) (b82 : 0 ≤ y80.toInt) (b83 : y80.toInt ≤ 35) (nb86 : NB g84) (sb87 : SB g84) (he88 : HE kn0 g84) (e90 : y89 = g84 (49 + k69)) (b91 : 0 ≤ y89.toInt) (b92 : y89.toInt ≤ 35) (nb95 : NB g93) (sb96 : SB g93) (he97 : HE kn0 g93) (e99 : y98 = g93 (61 + k69)) (nb102 : NB g100) (sb103 : SB g100) (he104 : HE kn0 g100) : 6 - (k69 + 1) < n76 := by
  have b_y27 := ia_b y27
  have b_y80 := ia_b y80
  have b_y89 := ia_b y89
  have b_y98 := ia_b y98
  try simp only [ia_lt, ia_le, ia_eq, ia_m1, ia_0, ia_1, ne_eq, true_and, and_true, false_and, and_false, or_false, false_or, or_true, true_or, not_true_eq_false, not_false_eq_true] at *
  all_goals omega
set_option maxRecDepth 20000 in
theorem lf_e_startSo_30   : 0 ≤ 6 := by
  try simp only [ia_lt, ia_le, ia_eq, ia_m1, ia_0, ia_1, ne_eq, true_and, and_true, false_and, and_false, or_false, false_or, or_true, true_or, not_true_eq_false, not_false_eq_true] at *
  all_goals omega
set_option maxRecDepth 20000 in
theorem lf_e_startSo_31 (knowF : Nat → Int32) (kn0 : Nat → Int32) (f16 : Nat → Int32) (y27 : Int32) (g29 : Nat → Int32) (k46 : Nat) (f47 : Nat → Int32) (n53 : Nat) (y105 : Int32) (ab_now : NB knowF) (sb_now : SB knowF) (he0 : HE kn0 knowF) (j18 : NB f16) (j19 : SB f16) (j20 : HE kn0 f16) (e28 : y27 = f16 4) (nb31 : NB g29) (sb32 : SB g29) (he33 : HE kn0 g29) (j48 : k46 ≤ 36) (j49 : NB f47) (j50 : SB f47) (j51 : HE kn0 f47) (hm55 : 36 - k46 < n53 + 1) (c56 : k46 < 36) (e106 : y105 = f47 (7 + k46)) : (7 + k46) < 373 := by
  have b_y27 := ia_b y27
  have b_y105 := ia_b y105
  try simp only [ia_lt, ia_le, ia_eq, ia_m1, ia_0, ia_1, ne_eq, true_and, and_true, false_and, and_false, or_false, false_or, or_true, true_or, not_true_eq_false, not_false_eq_true] at *
  all_goals omega
set_option maxRecDepth 20000 in
theorem lf_e_startSo_32 (knowF : Nat → Int32) (kn0 : Nat → Int32) (f16 : Nat → Int32) (y27 : Int32) (g29 : Nat → Int32) (k46 : Nat) (f47 : Nat → Int32) (n53 : Nat) (y105 : Int32) (ab_now : NB knowF) (sb_now : SB knowF) (he0 : HE kn0 knowF) (j18 : NB f16) (j19 : SB f16) (j20 : HE kn0 f16) (e28 : y27 = f16 4) (nb31 : NB g29) (sb32 : SB g29) (he33 : HE kn0 g29) (j48 : k46 ≤ 36) (j49 : NB f47) (j50 : SB f47) (j51 : HE kn0 f47) (hm55 : 36 - k46 < n53 + 1) (c56 : k46 < 36) (e106 : y105 = f47 (7 + k46)) : 7 ≤ (7 + k46) := by
  have b_y27 := ia_b y27
  have b_y105 := ia_b y105
  try simp only [ia_lt, ia_le, ia_eq, ia_m1, ia_0, ia_1, ne_eq, true_and, and_true, false_and, and_false, or_false, false_or, or_true, true_or, not_true_eq_false, not_false_eq_true] at *
  all_goals omega
set_option maxRecDepth 20000 in
theorem lf_e_startSo_33 (knowF : Nat → Int32) (kn0 : Nat → Int32) (f16 : Nat → Int32) (y27 : Int32) (g29 : Nat → Int32) (k46 : Nat) (f47 : Nat → Int32) (n53 : Nat) (y105 : Int32) (ab_now : NB knowF) (sb_now : SB knowF) (he0 : HE kn0 knowF) (j18 : NB f16) (j19 : SB f16) (j20 : HE kn0 f16) (e28 : y27 = f16 4) (nb31 : NB g29) (sb32 : SB g29) (he33 : HE kn0 g29) (j48 : k46 ≤ 36) (j49 : NB f47) (j50 : SB f47) (j51 : HE kn0 f47) (hm55 : 36 - k46 < n53 + 1) (c56 : k46 < 36) (e106 : y105 = f47 (7 + k46)) : (7 + k46) < 43 := by
  have b_y27 := ia_b y27
  have b_y105 := ia_b y105
  try simp only [ia_lt, ia_le, ia_eq, ia_m1, ia_0, ia_1, ne_eq, true_and, and_true, false_and, and_false, or_false, false_or, or_true, true_or, not_true_eq_false, not_false_eq_true] at *
  all_goals omega
set_option maxRecDepth 20000 in
theorem lf_e_startSo_34 (knowF : Nat → Int32) (kn0 : Nat → Int32) (f16 : Nat → Int32) (y27 : Int32) (g29 : Nat → Int32) (k46 : Nat) (f47 : Nat → Int32) (n53 : Nat) (y105 : Int32) (ab_now : NB knowF) (sb_now : SB knowF) (he0 : HE kn0 knowF) (j18 : NB f16) (j19 : SB f16) (j20 : HE kn0 f16) (e28 : y27 = f16 4) (nb31 : NB g29) (sb32 : SB g29) (he33 : HE kn0 g29) (j48 : k46 ≤ 36) (j49 : NB f47) (j50 : SB f47) (j51 : HE kn0 f47) (hm55 : 36 - k46 < n53 + 1) (c56 : k46 < 36) (e106 : y105 = f47 (7 + k46)) (b107 : 0 ≤ y105.toInt) (b108 : y105.toInt ≤ 9) : 0 ≤ (y105).toInt := by
  have b_y27 := ia_b y27
  have b_y105 := ia_b y105
  try simp only [ia_lt, ia_le, ia_eq, ia_m1, ia_0, ia_1, ne_eq, true_and, and_true, false_and, and_false, or_false, false_or, or_true, true_or, not_true_eq_false, not_false_eq_true] at *
  all_goals omega
set_option maxRecDepth 20000 in
theorem lf_e_startSo_35 (knowF : Nat → Int32) (kn0 : Nat → Int32) (f16 : Nat → Int32) (y27 : Int32) (g29 : Nat → Int32) (k46 : Nat) (f47 : Nat → Int32) (n53 : Nat) (y105 : Int32) (ab_now : NB knowF) (sb_now : SB knowF) (he0 : HE kn0 knowF) (j18 : NB f16) (j19 : SB f16) (j20 : HE kn0 f16) (e28 : y27 = f16 4) (nb31 : NB g29) (sb32 : SB g29) (he33 : HE kn0 g29) (j48 : k46 ≤ 36) (j49 : NB f47) (j50 : SB f47) (j51 : HE kn0 f47) (hm55 : 36 - k46 < n53 + 1) (c56 : k46 < 36) (e106 : y105 = f47 (7 + k46)) (b107 : 0 ≤ y105.toInt) (b108 : y105.toInt ≤ 9) : (y105).toInt ≤ 9 := by
  have b_y27 := ia_b y27
  have b_y105 := ia_b y105
  try simp only [ia_lt, ia_le, ia_eq, ia_m1, ia_0, ia_1, ne_eq, true_and, and_true, false_and, and_false, or_false, false_or, or_true, true_or, not_true_eq_false, not_false_eq_true] at *
  all_goals omega
set_option maxRecDepth 20000 in
theorem lf_e_startSo_36 (knowF : Nat → Int32) (kn0 : Nat → Int32) (f16 : Nat → Int32) (y27 : Int32) (g29 : Nat → Int32) (k46 : Nat) (f47 : Nat → Int32) (n53 : Nat) (y105 : Int32) (ab_now : NB knowF) (sb_now : SB knowF) (he0 : HE kn0 knowF) (j18 : NB f16) (j19 : SB f16) (j20 : HE kn0 f16) (e28 : y27 = f16 4) (nb31 : NB g29) (sb32 : SB g29) (he33 : HE kn0 g29) (j48 : k46 ≤ 36) (j49 : NB f47) (j50 : SB f47) (j51 : HE kn0 f47) (hm55 : 36 - k46 < n53 + 1) (c56 : k46 < 36) (e106 : y105 = f47 (7 + k46)) (b107 : 0 ≤ y105.toInt) (b108 : y105.toInt ≤ 9) : (71 + k46) < 373 := by
  have b_y27 := ia_b y27
  have b_y105 := ia_b y105
  try simp only [ia_lt, ia_le, ia_eq, ia_m1, ia_0, ia_1, ne_eq, true_and, and_true, false_and, and_false, or_false, false_or, or_true, true_or, not_true_eq_false, not_false_eq_true] at *
  all_goals omega
set_option maxRecDepth 20000 in
theorem lf_e_startSo_37 (knowF : Nat → Int32) (kn0 : Nat → Int32) (f16 : Nat → Int32) (y27 : Int32) (g29 : Nat → Int32) (k46 : Nat) (f47 : Nat → Int32) (n53 : Nat) (y105 : Int32) (ab_now : NB knowF) (sb_now : SB knowF) (he0 : HE kn0 knowF) (j18 : NB f16) (j19 : SB f16) (j20 : HE kn0 f16) (e28 : y27 = f16 4) (nb31 : NB g29) (sb32 : SB g29) (he33 : HE kn0 g29) (j48 : k46 ≤ 36) (j49 : NB f47) (j50 : SB f47) (j51 : HE kn0 f47) (hm55 : 36 - k46 < n53 + 1) (c56 : k46 < 36) (e106 : y105 = f47 (7 + k46)) (b107 : 0 ≤ y105.toInt) (b108 : y105.toInt ≤ 9) : 71 ≤ (71 + k46) := by
  have b_y27 := ia_b y27
  have b_y105 := ia_b y105
  try simp only [ia_lt, ia_le, ia_eq, ia_m1, ia_0, ia_1, ne_eq, true_and, and_true, false_and, and_false, or_false, false_or, or_true, true_or, not_true_eq_false, not_false_eq_true] at *
  all_goals omega
set_option maxRecDepth 20000 in
theorem lf_e_startSo_38 (knowF : Nat → Int32) (kn0 : Nat → Int32) (f16 : Nat → Int32) (y27 : Int32) (g29 : Nat → Int32) (k46 : Nat) (f47 : Nat → Int32) (n53 : Nat) (y105 : Int32) (ab_now : NB knowF) (sb_now : SB knowF) (he0 : HE kn0 knowF) (j18 : NB f16) (j19 : SB f16) (j20 : HE kn0 f16) (e28 : y27 = f16 4) (nb31 : NB g29) (sb32 : SB g29) (he33 : HE kn0 g29) (j48 : k46 ≤ 36) (j49 : NB f47) (j50 : SB f47) (j51 : HE kn0 f47) (hm55 : 36 - k46 < n53 + 1) (c56 : k46 < 36) (e106 : y105 = f47 (7 + k46)) (b107 : 0 ≤ y105.toInt) (b108 : y105.toInt ≤ 9) : (71 + k46) < 107 := by
  have b_y27 := ia_b y27
  have b_y105 := ia_b y105
  try simp only [ia_lt, ia_le, ia_eq, ia_m1, ia_0, ia_1, ne_eq, true_and, and_true, false_and, and_false, or_false, false_or, or_true, true_or, not_true_eq_false, not_false_eq_true] at *
  all_goals omega
set_option maxRecDepth 20000 in
theorem lf_e_startSo_39 (knowF : Nat → Int32) (kn0 : Nat → Int32) (f16 : Nat → Int32) (y27 : Int32) (g29 : Nat → Int32) (k46 : Nat) (f47 : Nat → Int32) (n53 : Nat) (y105 : Int32) (ab_now : NB knowF) (sb_now : SB knowF) (he0 : HE kn0 knowF) (j18 : NB f16) (j19 : SB f16) (j20 : HE kn0 f16) (e28 : y27 = f16 4) (nb31 : NB g29) (sb32 : SB g29) (he33 : HE kn0 g29) (j48 : k46 ≤ 36) (j49 : NB f47) (j50 : SB f47) (j51 : HE kn0 f47) (hm55 : 36 - k46 < n53 + 1) (c56 : k46 < 36) (e106 : y105 = f47 (7 + k46)) (b107 : 0 ≤ y105.toInt) (b108 : y105.toInt ≤ 9) : 67 ≤ (71 + k46) := by
  have b_y27 := ia_b y27
  have b_y105 := ia_b y105
  try simp only [ia_lt, ia_le, ia_eq, ia_m1, ia_0, ia_1, ne_eq, true_and, and_true, false_and, and_false, or_false, false_or, or_true, true_or, not_true_eq_false, not_false_eq_true] at *
  all_goals omega
set_option maxRecDepth 20000 in
theorem lf_e_startSo_40 (knowF : Nat → Int32) (kn0 : Nat → Int32) (f16 : Nat → Int32) (y27 : Int32) (g29 : Nat → Int32) (k46 : Nat) (f47 : Nat → Int32) (n53 : Nat) (y105 : Int32) (g109 : Nat → Int32) (ab_now : NB knowF) (sb_now : SB knowF) (he0 : HE kn0 knowF) (j18 : NB f16) (j19 : SB f16) (j20 : HE kn0 f16) (e28 : y27 = f16 4) (nb31 : NB g29) (sb32 : SB g29) (he33 : HE kn0 g29) (j48 : k46 ≤ 36) (j49 : NB f47) (j50 : SB f47) (j51 : HE kn0 f47) (hm55 : 36 - k46 < n53 + 1) (c56 : k46 < 36) (e106 : y105 = f47 (7 + k46)) (b107 : 0 ≤ y105.toInt) (b108 : y105.toInt ≤ 9) (nb111 : NB g109) (sb112 : SB g109) (he113 : HE kn0 g109) : (k46 + 1) ≤ 36 := by
  have b_y27 := ia_b y27
  have b_y105 := ia_b y105
  try simp only [ia_lt, ia_le, ia_eq, ia_m1, ia_0, ia_1, ne_eq, true_and, and_true, false_and, and_false, or_false, false_or, or_true, true_or, not_true_eq_false, not_false_eq_true] at *
  all_goals omega
set_option maxRecDepth 20000 in
theorem lf_e_startSo_41 (knowF : Nat → Int32) (kn0 : Nat → Int32) (f16 : Nat → Int32) (y27 : Int32) (g29 : Nat → Int32) (k46 : Nat) (f47 : Nat → Int32) (n53 : Nat) (y105 : Int32) (g109 : Nat → Int32) (ab_now : NB knowF) (sb_now : SB knowF) (he0 : HE kn0 knowF) (j18 : NB f16) (j19 : SB f16) (j20 : HE kn0 f16) (e28 : y27 = f16 4) (nb31 : NB g29) (sb32 : SB g29) (he33 : HE kn0 g29) (j48 : k46 ≤ 36) (j49 : NB f47) (j50 : SB f47) (j51 : HE kn0 f47) (hm55 : 36 - k46 < n53 + 1) (c56 : k46 < 36) (e106 : y105 = f47 (7 + k46)) (b107 : 0 ≤ y105.toInt) (b108 : y105.toInt ≤ 9) (nb111 : NB g109) (sb112 : SB g109) (he113 : HE kn0 g109) : 36 - (k46 + 1) < n53 := by
  have b_y27 := ia_b y27
  have b_y105 := ia_b y105
  try simp only [ia_lt, ia_le, ia_eq, ia_m1, ia_0, ia_1, ne_eq, true_and, and_true, false_and, and_false, or_false, false_or, or_true, true_or, not_true_eq_false, not_false_eq_true] at *
  all_goals omega
set_option maxRecDepth 20000 in
theorem lf_e_startSo_42   : 0 ≤ 36 := by
  try simp only [ia_lt, ia_le, ia_eq, ia_m1, ia_0, ia_1, ne_eq, true_and, and_true, false_and, and_false, or_false, false_or, or_true, true_or, not_true_eq_false, not_false_eq_true] at *
  all_goals omega
set_option maxRecDepth 20000 in
theorem lf_e_startSo_43 (k15 : Nat) (n23 : Nat) (j17 : k15 ≤ 373) (j21 : 67 ≤ k15) (hm25 : 373 - k15 < n23 + 1) (c26 : k15 < 373) : k15 < 373 := by
  try simp only [ia_lt, ia_le, ia_eq, ia_m1, ia_0, ia_1, ne_eq, true_and, and_true, false_and, and_false, or_false, false_or, or_true, true_or, not_true_eq_false, not_false_eq_true] at *
  all_goals omega
set_option maxRecDepth 20000 in
theorem lf_e_startSo_44 (k15 : Nat) (n23 : Nat) (j17 : k15 ≤ 373) (j21 : 67 ≤ k15) (hm25 : 373 - k15 < n23 + 1) (c26 : k15 < 373) : 67 ≤ k15 := by
  try simp only [ia_lt, ia_le, ia_eq, ia_m1, ia_0, ia_1, ne_eq, true_and, and_true, false_and, and_false, or_false, false_or, or_true, true_or, not_true_eq_false, not_false_eq_true] at *
  all_goals omega
set_option maxRecDepth 20000 in
theorem lf_e_startSo_45 (k15 : Nat) (n23 : Nat) (j17 : k15 ≤ 373) (j21 : 67 ≤ k15) (hm25 : 373 - k15 < n23 + 1) (c26 : k15 < 373) : (k15 + 1) ≤ 373 := by
  try simp only [ia_lt, ia_le, ia_eq, ia_m1, ia_0, ia_1, ne_eq, true_and, and_true, false_and, and_false, or_false, false_or, or_true, true_or, not_true_eq_false, not_false_eq_true] at *
  all_goals omega
set_option maxRecDepth 20000 in
theorem lf_e_startSo_46 (k15 : Nat) (n23 : Nat) (j17 : k15 ≤ 373) (j21 : 67 ≤ k15) (hm25 : 373 - k15 < n23 + 1) (c26 : k15 < 373) : 67 ≤ (k15 + 1) := by
  try simp only [ia_lt, ia_le, ia_eq, ia_m1, ia_0, ia_1, ne_eq, true_and, and_true, false_and, and_false, or_false, false_or, or_true, true_or, not_true_eq_false, not_false_eq_true] at *
  all_goals omega
set_option maxRecDepth 20000 in
theorem lf_e_startSo_47 (k15 : Nat) (n23 : Nat) (j17 : k15 ≤ 373) (j21 : 67 ≤ k15) (hm25 : 373 - k15 < n23 + 1) (c26 : k15 < 373) : 373 - (k15 + 1) < n23 := by
  try simp only [ia_lt, ia_le, ia_eq, ia_m1, ia_0, ia_1, ne_eq, true_and, and_true, false_and, and_false, or_false, false_or, or_true, true_or, not_true_eq_false, not_false_eq_true] at *
  all_goals omega
set_option maxRecDepth 20000 in
theorem lf_e_startSo_48   : 67 ≤ 373 := by
  try simp only [ia_lt, ia_le, ia_eq, ia_m1, ia_0, ia_1, ne_eq, true_and, and_true, false_and, and_false, or_false, false_or, or_true, true_or, not_true_eq_false, not_false_eq_true] at *
  all_goals omega
set_option maxRecDepth 20000 in
theorem lf_e_startSo_49   : 67 ≤ 67 := by
  try simp only [ia_lt, ia_le, ia_eq, ia_m1, ia_0, ia_1, ne_eq, true_and, and_true, false_and, and_false, or_false, false_or, or_true, true_or, not_true_eq_false, not_false_eq_true] at *
  all_goals omega
set_option maxHeartbeats 4000000 in
set_option maxRecDepth 100000 in
theorem c_e_startSo (l : Launch) (dC : Nat → ClassId) (dI : Nat → Nat → Nat) (ky : Nat → ClassId) (sz : Nat) (o : Nat) (kthrown : Int32) (ktape : Nat) (ktaped : Nat) (ksize : Nat) (klimit : Nat) (kto : Nat) (kfrom : Nat) (kkind : Int32) (knumber : Int32) (ksign : Int32) (kfault : Int32) (kplace : Int32) (kword : Int64) (ktold : Int32) (know : Nat) (kread : Nat) (kkept : Nat) (ksnaps : Nat) (kaside : Nat) (kname : Nat) (kreadName : Nat) (kkeptName : Nat) (kisKept : Nat) (konces : Nat) (ksnapMany : Nat) (khasCells : Int32) (kpoured : Nat) (kfar : Nat) (ksides : Nat) (ksideMany : Nat) (kwayDays : Int32) (khasWay : Int32) (klines : Nat) (kmet : Nat) (kmetMany : Nat) (ksunk : Nat) (ktrying : Nat) (ksunkMany : Nat) (ksending : Int32) (kfleets : Int32) (ktext : Nat) (ktexts : Nat) (kseed : Int32) (kline : Nat) (kwritten : Nat) (klineMany : Nat) (khasWritten : Int32) (knode : Nat) (knodes : Nat) (konesMany : Nat) (kwithin : Nat) (ktop : Nat) (knowF : Nat → Int32) (kn0 : Nat → Int32) (iv_ko_0 : ktaped ≤ 940) (iv_ko_1 : ksize ≤ 940) (iv_ko_2 : klimit ≤ 900) (iv_ko_3 : kto ≤ ksize) (iv_ko_4 : kfrom ≤ 940) (iv_ko_5 : ksnapMany ≤ 8) (iv_ko_6 : ksideMany ≤ 36) (iv_ko_7 : kmetMany ≤ 3) (iv_ko_8 : ksunkMany ≤ 36) (iv_ko_9 : ktexts ≤ 64) (iv_ko_10 : klineMany ≤ 40) (iv_ko_11 : knodes ≤ 60) (iv_ko_12 : konesMany ≤ 20) (iv_ko_13 : kwithin ≤ 8) (iv_ko_14 : ktop ≤ 59) (ab_now : NB knowF) (sb_now : SB knowF) (he0 : HE kn0 knowF) : Met l yX12_startSo wsX12_startSo ({ frames := 0, cells := 0, slots := 0, locals := 0 }) (PcU dC dI ky [.ref o] [(o, .inr (12, [.int kthrown, .ref ktape, .int (nI ktaped), .int (nI ksize), .int (nI klimit), .int (nI kto), .int (nI kfrom), .int kkind, .int knumber, .int ksign, .int kfault, .int kplace, .long kword, .int ktold, .ref know, .ref kread, .ref kkept, .ref ksnaps, .ref kaside, .ref kname, .ref kreadName, .ref kkeptName, .ref kisKept, .ref konces, .int (nI ksnapMany), .int khasCells, .ref kpoured, .ref kfar, .ref ksides, .int (nI ksideMany), .int kwayDays, .int khasWay, .ref klines, .ref kmet, .int (nI kmetMany), .ref ksunk, .ref ktrying, .int (nI ksunkMany), .int ksending, .int kfleets, .ref ktext, .int (nI ktexts), .int kseed, .ref kline, .ref kwritten, .int (nI klineMany), .int khasWritten, .ref knode, .int (nI knodes), .int (nI konesMany), .int (nI kwithin), .int (nI ktop)])), (know, .inl (ky 0, 373, .inl knowF))] sz) (va_Qv (fun (knowG : (Nat → Int32)) => (NB knowG) ∧ (SB knowG) ∧ (HE kn0 knowG)) (BU dC dI ky (fun (knowG : (Nat → Int32)) => [(o, .inr (12, [.int kthrown, .ref ktape, .int (nI ktaped), .int (nI ksize), .int (nI klimit), .int (nI kto), .int (nI kfrom), .int kkind, .int knumber, .int ksign, .int kfault, .int kplace, .long kword, .int ktold, .ref know, .ref kread, .ref kkept, .ref ksnaps, .ref kaside, .ref kname, .ref kreadName, .ref kkeptName, .ref kisKept, .ref konces, .int (nI ksnapMany), .int khasCells, .ref kpoured, .ref kfar, .ref ksides, .int (nI ksideMany), .int kwayDays, .int khasWay, .ref klines, .ref kmet, .int (nI kmetMany), .ref ksunk, .ref ktrying, .int (nI ksunkMany), .int ksending, .int kfleets, .ref ktext, .int (nI ktexts), .int kseed, .ref kline, .ref kwritten, .int (nI klineMany), .int khasWritten, .ref knode, .int (nI knodes), .int (nI konesMany), .int (nI kwithin), .int (nI ktop)])), (know, .inl (ky 0, 373, .inl knowG))]) (va_A [(o, .inr (12, [.int kthrown, .ref ktape, .int (nI ktaped), .int (nI ksize), .int (nI klimit), .int (nI kto), .int (nI kfrom), .int kkind, .int knumber, .int ksign, .int kfault, .int kplace, .long kword, .int ktold, .ref know, .ref kread, .ref kkept, .ref ksnaps, .ref kaside, .ref kname, .ref kreadName, .ref kkeptName, .ref kisKept, .ref konces, .int (nI ksnapMany), .int khasCells, .ref kpoured, .ref kfar, .ref ksides, .int (nI ksideMany), .int kwayDays, .int khasWay, .ref klines, .ref kmet, .int (nI kmetMany), .ref ksunk, .ref ktrying, .int (nI ksunkMany), .int ksending, .int kfleets, .ref ktext, .int (nI ktexts), .int kseed, .ref kline, .ref kwritten, .int (nI klineMany), .int khasWritten, .ref knode, .int (nI knodes), .int (nI konesMany), .int (nI kwithin), .int (nI ktop)])), (know, .inl (ky 0, 373, .inl knowF))] sz)) (va_A [(o, .inr (12, [.int kthrown, .ref ktape, .int (nI ktaped), .int (nI ksize), .int (nI klimit), .int (nI kto), .int (nI kfrom), .int kkind, .int knumber, .int ksign, .int kfault, .int kplace, .long kword, .int ktold, .ref know, .ref kread, .ref kkept, .ref ksnaps, .ref kaside, .ref kname, .ref kreadName, .ref kkeptName, .ref kisKept, .ref konces, .int (nI ksnapMany), .int khasCells, .ref kpoured, .ref kfar, .ref ksides, .int (nI ksideMany), .int kwayDays, .int khasWay, .ref klines, .ref kmet, .int (nI kmetMany), .ref ksunk, .ref ktrying, .int (nI ksunkMany), .int ksending, .int kfleets, .ref ktext, .int (nI ktexts), .int kseed, .ref kline, .ref kwritten, .int (nI klineMany), .int khasWritten, .ref knode, .int (nI knodes), .int (nI konesMany), .int (nI kwithin), .int (nI ktop)])), (know, .inl (ky 0, 373, .inl knowF))] sz)) 0 0 (va_A [(o, .inr (12, [.int kthrown, .ref ktape, .int (nI ktaped), .int (nI ksize), .int (nI klimit), .int (nI kto), .int (nI kfrom), .int kkind, .int knumber, .int ksign, .int kfault, .int kplace, .long kword, .int ktold, .ref know, .ref kread, .ref kkept, .ref ksnaps, .ref kaside, .ref kname, .ref kreadName, .ref kkeptName, .ref kisKept, .ref konces, .int (nI ksnapMany), .int khasCells, .ref kpoured, .ref kfar, .ref ksides, .int (nI ksideMany), .int kwayDays, .int khasWay, .ref klines, .ref kmet, .int (nI kmetMany), .ref ksunk, .ref ktrying, .int (nI ksunkMany), .int ksending, .int kfleets, .ref ktext, .int (nI ktexts), .int kseed, .ref kline, .ref kwritten, .int (nI klineMany), .int khasWritten, .ref knode, .int (nI knodes), .int (nI konesMany), .int (nI kwithin), .int (nI ktop)])), (know, .inl (ky 0, 373, .inl knowF))] sz) := by
  refine Met.ofW (cc := cX12_startSo) (maxL := 2) (ret := none) (by decide) rfl ?_
  intro p e s m args below meth c s₁ B hml hv
  obtain ⟨rfl, hsz, hP, hK, hD0⟩ := hv
  have hx := B.exec
  have hb := B.bytes
  have hr := B.returns
  have hts := atoms_spec (ws := wsX12_startSo) B.pre
  have hown : s.vm.findClass RX12 = some m.cls := findClass_of_methodNamed B.named
  have hlocks := B.notSynchronized
  have hin12 : ∀ w ∈ u_ws RX12 TX12 52, w ∈ wsX12_startSo := by decide +kernel
  subst hsz
  have hD := hD0.self (sz := s.heap.size)
  generalize hAe : va_A [(o, .inr (12, [.int kthrown, .ref ktape, .int (nI ktaped), .int (nI ksize), .int (nI klimit), .int (nI kto), .int (nI kfrom), .int kkind, .int knumber, .int ksign, .int kfault, .int kplace, .long kword, .int ktold, .ref know, .ref kread, .ref kkept, .ref ksnaps, .ref kaside, .ref kname, .ref kreadName, .ref kkeptName, .ref kisKept, .ref konces, .int (nI ksnapMany), .int khasCells, .ref kpoured, .ref kfar, .ref ksides, .int (nI ksideMany), .int kwayDays, .int khasWay, .ref klines, .ref kmet, .int (nI kmetMany), .ref ksunk, .ref ktrying, .int (nI ksunkMany), .int ksending, .int kfleets, .ref ktext, .int (nI ktexts), .int kseed, .ref kline, .ref kwritten, .int (nI klineMany), .int khasWritten, .ref knode, .int (nI knodes), .int (nI konesMany), .int (nI kwithin), .int (nI ktop)])), (know, .inl (ky 0, 373, .inl knowF))] s.heap.size = A at hD ⊢
  have hA : ∀ q : Nat, s.heap.size ≤ q → A q := fun q h => by rw [← hAe]; exact Or.inr h
  have hS : va_S A s.heap s.heap [] := va_S.rf
  have hl := lv_entry ([.ref o]) (n := 2) (Nat.le_of_ble_eq_true rfl)
  rw [lg_entry_eq]
  generalize (lg_sl ([.ref o]) ++ List.replicate (2 - (lg_sl ([.ref o])).length) Slot.unset).toArray = ls at hl ⊢
  have hl : lv_has ls 2 [(0, .ref o)] := hl
  refine q_name (fun Q hQ => ?_)
  generalize ([.ref o] : List Value).toArray = args at hts hQ ⊢
  refine lv_bipush (v := nI 67) hx hb dX12_startSo_0 (by decide) ?_
  refine lv_istore_n (lv' := [(1, .int (nI 67)), (0, .ref o)]) hx hb dX12_startSo_2 rfl hl (by decide) rfl (fun ls hl => ?_)
  have hL22 : ∀ (n23 : Nat) (k15 : Nat) (f16 : Nat → Int32), (k15 ≤ 373) → (NB f16) → (SB f16) → (HE kn0 f16) → (67 ≤ k15) → 373 - k15 < n23 → ∀ (H : Heap) (locs : List Loc) (ls : Array Slot), va_P (dC, dI) vwCl [(o, .inr (12, [.int kthrown, .ref ktape, .int (nI ktaped), .int (nI ksize), .int (nI klimit), .int (nI kto), .int (nI kfrom), .int kkind, .int knumber, .int ksign, .int kfault, .int kplace, .long kword, .int ktold, .ref know, .ref kread, .ref kkept, .ref ksnaps, .ref kaside, .ref kname, .ref kreadName, .ref kkeptName, .ref kisKept, .ref konces, .int (nI ksnapMany), .int khasCells, .ref kpoured, .ref kfar, .ref ksides, .int (nI ksideMany), .int kwayDays, .int khasWay, .ref klines, .ref kmet, .int (nI kmetMany), .ref ksunk, .ref ktrying, .int (nI ksunkMany), .int ksending, .int kfleets, .ref ktext, .int (nI ktexts), .int kseed, .ref kline, .ref kwritten, .int (nI klineMany), .int khasWritten, .ref knode, .int (nI knodes), .int (nI konesMany), .int (nI kwithin), .int (nI ktop)])), (know, .inl (ky 0, 373, .inl f16))] H → va_D A [(o, .inr (12, [.int kthrown, .ref ktape, .int (nI ktaped), .int (nI ksize), .int (nI klimit), .int (nI kto), .int (nI kfrom), .int kkind, .int knumber, .int ksign, .int kfault, .int kplace, .long kword, .int ktold, .ref know, .ref kread, .ref kkept, .ref ksnaps, .ref kaside, .ref kname, .ref kreadName, .ref kkeptName, .ref kisKept, .ref konces, .int (nI ksnapMany), .int khasCells, .ref kpoured, .ref kfar, .ref ksides, .int (nI ksideMany), .int kwayDays, .int khasWay, .ref klines, .ref kmet, .int (nI kmetMany), .ref ksunk, .ref ktrying, .int (nI ksunkMany), .int ksending, .int kfleets, .ref ktext, .int (nI ktexts), .int kseed, .ref kline, .ref kwritten, .int (nI klineMany), .int khasWritten, .ref knode, .int (nI knodes), .int (nI konesMany), .int (nI kwithin), .int (nI ktop)])), (know, .inl (ky 0, 373, .inl f16))] → va_S A s.heap H locs → lv_has ls 2 [(1, .int (nI k15)), (0, .ref o)] → W p l e (headSpec wsX12_startSo ({ frames := 0, cells := 0, slots := 0, locals := 0 })).room s m args below meth c H locs 0 0 Q (F0 m 3 ls []) := by
    intro n23
    induction n23 with
    | zero => intro k15 f16 _ _ _ _ _ h9; exact absurd h9 (Nat.not_lt_zero _)
    | succ n23 ih24 =>
      intro k15 f16 j17 j18 j19 j20 j21 hm25 H locs ls hP hD hS hl
      refine lv_iload_n hx hb dX12_startSo_3 rfl (lv_at hl 0 rfl) ?_
      refine lv_sipush (v := nI 373) hx hb dX12_startSo_4 (by decide) ?_
      refine n_icmp_ge (x := k15) (y := 373) (tgt := 23) hx hb (by omega) (by omega) dX12_startSo_7 (by decide) (fun c26 => ?_) (fun c26 => ?_)
      · refine lv_aload_n hx hb dX12_startSo_23 rfl (lv_at hl 1 rfl) ?_
        refine va_get (D := (dC, dI)) (ci := 12) (v := .ref know) (C := RX12) (T := TX12) (N := 52) hx hb hts hin12 hown hK hP 0 rfl rfl 14 (by decide) (hts (.fieldLink RX12 98 "PorridgeSeaModel" "now" "[I") (List.mem_of_getElem? (i := 1) rfl)) (fun _ h9 => h9) rfl dX12_startSo_24 ?_
        refine lv_bipush (v := nI 68) hx hb dX12_startSo_27 (by decide) ?_
        refine lv_aload_n hx hb dX12_startSo_29 rfl (lv_at hl 1 rfl) ?_
        refine va_get (D := (dC, dI)) (ci := 12) (v := .ref know) (C := RX12) (T := TX12) (N := 52) hx hb hts hin12 hown hK hP 0 rfl rfl 14 (by decide) (hts (.fieldLink RX12 98 "PorridgeSeaModel" "now" "[I") (List.mem_of_getElem? (i := 1) rfl)) (fun _ h9 => h9) rfl dX12_startSo_30 ?_
        refine lv_iconst (v := nI 4) hx hb dX12_startSo_33 (by decide) ?_
        obtain ⟨y27, e28⟩ : ∃ z9, z9 = f16 4 := ⟨_, rfl⟩
        refine r_iald hx hb hK hP 1 rfl 4 (by decide) (by decide) y27 e28.symm dX12_startSo_34 ?_
        refine r_iast (x := y27) hx hb hK hP hD hS 1 rfl 68 (by decide) (by decide) dX12_startSo_35 (fun H locs hP hD hS => ?_)
        obtain ⟨g29, e30⟩ : ∃ z9, z9 = upd f16 68 y27 := ⟨_, rfl⟩
        rw [← e30] at hP hD
        have nb31 : NB g29 := by rw [e30]; exact st_NB_67 j18 68 (by decide) (by decide) (lf_e_startSo_1 knowF kn0 f16 y27 ab_now sb_now he0 j18 j19 j20 e28) (lf_e_startSo_2 knowF kn0 f16 y27 ab_now sb_now he0 j18 j19 j20 e28)
        have sb32 : SB g29 := by rw [e30]; exact SB_lo j19 _ _ (by omega)
        have he33 : HE kn0 g29 := by rw [e30]; exact HE_upd j20 (by decide) _
        have hP : va_P (dC, dI) vwCl [(o, .inr (12, [.int kthrown, .ref ktape, .int (nI ktaped), .int (nI ksize), .int (nI klimit), .int (nI kto), .int (nI kfrom), .int kkind, .int knumber, .int ksign, .int kfault, .int kplace, .long kword, .int ktold, .ref know, .ref kread, .ref kkept, .ref ksnaps, .ref kaside, .ref kname, .ref kreadName, .ref kkeptName, .ref kisKept, .ref konces, .int (nI ksnapMany), .int khasCells, .ref kpoured, .ref kfar, .ref ksides, .int (nI ksideMany), .int kwayDays, .int khasWay, .ref klines, .ref kmet, .int (nI kmetMany), .ref ksunk, .ref ktrying, .int (nI ksunkMany), .int ksending, .int kfleets, .ref ktext, .int (nI ktexts), .int kseed, .ref kline, .ref kwritten, .int (nI klineMany), .int khasWritten, .ref knode, .int (nI knodes), .int (nI konesMany), .int (nI kwithin), .int (nI ktop)])), (know, .inl (ky 0, 373, .inl g29))] H := hP
        have hD : va_D A [(o, .inr (12, [.int kthrown, .ref ktape, .int (nI ktaped), .int (nI ksize), .int (nI klimit), .int (nI kto), .int (nI kfrom), .int kkind, .int knumber, .int ksign, .int kfault, .int kplace, .long kword, .int ktold, .ref know, .ref kread, .ref kkept, .ref ksnaps, .ref kaside, .ref kname, .ref kreadName, .ref kkeptName, .ref kisKept, .ref konces, .int (nI ksnapMany), .int khasCells, .ref kpoured, .ref kfar, .ref ksides, .int (nI ksideMany), .int kwayDays, .int khasWay, .ref klines, .ref kmet, .int (nI kmetMany), .ref ksunk, .ref ktrying, .int (nI ksunkMany), .int ksending, .int kfleets, .ref ktext, .int (nI ktexts), .int kseed, .ref kline, .ref kwritten, .int (nI klineMany), .int khasWritten, .ref knode, .int (nI knodes), .int (nI konesMany), .int (nI kwithin), .int (nI ktop)])), (know, .inl (ky 0, 373, .inl g29))] := hD
        refine lv_iconst (v := nI 0) hx hb dX12_startSo_36 (by decide) ?_
        refine lv_istore_n (lv' := [(1, .int (nI 0)), (0, .ref o)]) hx hb dX12_startSo_37 rfl hl (by decide) rfl (fun ls hl => ?_)
        have hL52 : ∀ (n53 : Nat) (k46 : Nat) (f47 : Nat → Int32), (k46 ≤ 36) → (NB f47) → (SB f47) → (HE kn0 f47) → 36 - k46 < n53 → ∀ (H : Heap) (locs : List Loc) (ls : Array Slot), va_P (dC, dI) vwCl [(o, .inr (12, [.int kthrown, .ref ktape, .int (nI ktaped), .int (nI ksize), .int (nI klimit), .int (nI kto), .int (nI kfrom), .int kkind, .int knumber, .int ksign, .int kfault, .int kplace, .long kword, .int ktold, .ref know, .ref kread, .ref kkept, .ref ksnaps, .ref kaside, .ref kname, .ref kreadName, .ref kkeptName, .ref kisKept, .ref konces, .int (nI ksnapMany), .int khasCells, .ref kpoured, .ref kfar, .ref ksides, .int (nI ksideMany), .int kwayDays, .int khasWay, .ref klines, .ref kmet, .int (nI kmetMany), .ref ksunk, .ref ktrying, .int (nI ksunkMany), .int ksending, .int kfleets, .ref ktext, .int (nI ktexts), .int kseed, .ref kline, .ref kwritten, .int (nI klineMany), .int khasWritten, .ref knode, .int (nI knodes), .int (nI konesMany), .int (nI kwithin), .int (nI ktop)])), (know, .inl (ky 0, 373, .inl f47))] H → va_D A [(o, .inr (12, [.int kthrown, .ref ktape, .int (nI ktaped), .int (nI ksize), .int (nI klimit), .int (nI kto), .int (nI kfrom), .int kkind, .int knumber, .int ksign, .int kfault, .int kplace, .long kword, .int ktold, .ref know, .ref kread, .ref kkept, .ref ksnaps, .ref kaside, .ref kname, .ref kreadName, .ref kkeptName, .ref kisKept, .ref konces, .int (nI ksnapMany), .int khasCells, .ref kpoured, .ref kfar, .ref ksides, .int (nI ksideMany), .int kwayDays, .int khasWay, .ref klines, .ref kmet, .int (nI kmetMany), .ref ksunk, .ref ktrying, .int (nI ksunkMany), .int ksending, .int kfleets, .ref ktext, .int (nI ktexts), .int kseed, .ref kline, .ref kwritten, .int (nI klineMany), .int khasWritten, .ref knode, .int (nI knodes), .int (nI konesMany), .int (nI kwithin), .int (nI ktop)])), (know, .inl (ky 0, 373, .inl f47))] → va_S A s.heap H locs → lv_has ls 2 [(1, .int (nI k46)), (0, .ref o)] → W p l e (headSpec wsX12_startSo ({ frames := 0, cells := 0, slots := 0, locals := 0 })).room s m args below meth c H locs 0 0 Q (F0 m 38 ls []) := by
          intro n53
          induction n53 with
          | zero => intro k46 f47 _ _ _ _ h9; exact absurd h9 (Nat.not_lt_zero _)
          | succ n53 ih54 =>
            intro k46 f47 j48 j49 j50 j51 hm55 H locs ls hP hD hS hl
            refine lv_iload_n hx hb dX12_startSo_38 rfl (lv_at hl 0 rfl) ?_
            refine lv_bipush (v := nI 36) hx hb dX12_startSo_39 (by decide) ?_
            refine n_icmp_ge (x := k46) (y := 36) (tgt := 68) hx hb (by omega) (by omega) dX12_startSo_41 (by decide) (fun c56 => ?_) (fun c56 => ?_)
            · refine lv_iconst (v := nI 0) hx hb dX12_startSo_68 (by decide) ?_
              refine lv_istore_n (lv' := [(1, .int (nI 0)), (0, .ref o)]) hx hb dX12_startSo_69 rfl hl (by decide) rfl (fun ls hl => ?_)
              have hL75 : ∀ (n76 : Nat) (k69 : Nat) (f70 : Nat → Int32), (k69 ≤ 6) → (NB f70) → (SB f70) → (HE kn0 f70) → 6 - k69 < n76 → ∀ (H : Heap) (locs : List Loc) (ls : Array Slot), va_P (dC, dI) vwCl [(o, .inr (12, [.int kthrown, .ref ktape, .int (nI ktaped), .int (nI ksize), .int (nI klimit), .int (nI kto), .int (nI kfrom), .int kkind, .int knumber, .int ksign, .int kfault, .int kplace, .long kword, .int ktold, .ref know, .ref kread, .ref kkept, .ref ksnaps, .ref kaside, .ref kname, .ref kreadName, .ref kkeptName, .ref kisKept, .ref konces, .int (nI ksnapMany), .int khasCells, .ref kpoured, .ref kfar, .ref ksides, .int (nI ksideMany), .int kwayDays, .int khasWay, .ref klines, .ref kmet, .int (nI kmetMany), .ref ksunk, .ref ktrying, .int (nI ksunkMany), .int ksending, .int kfleets, .ref ktext, .int (nI ktexts), .int kseed, .ref kline, .ref kwritten, .int (nI klineMany), .int khasWritten, .ref knode, .int (nI knodes), .int (nI konesMany), .int (nI kwithin), .int (nI ktop)])), (know, .inl (ky 0, 373, .inl f70))] H → va_D A [(o, .inr (12, [.int kthrown, .ref ktape, .int (nI ktaped), .int (nI ksize), .int (nI klimit), .int (nI kto), .int (nI kfrom), .int kkind, .int knumber, .int ksign, .int kfault, .int kplace, .long kword, .int ktold, .ref know, .ref kread, .ref kkept, .ref ksnaps, .ref kaside, .ref kname, .ref kreadName, .ref kkeptName, .ref kisKept, .ref konces, .int (nI ksnapMany), .int khasCells, .ref kpoured, .ref kfar, .ref ksides, .int (nI ksideMany), .int kwayDays, .int khasWay, .ref klines, .ref kmet, .int (nI kmetMany), .ref ksunk, .ref ktrying, .int (nI ksunkMany), .int ksending, .int kfleets, .ref ktext, .int (nI ktexts), .int kseed, .ref kline, .ref kwritten, .int (nI klineMany), .int khasWritten, .ref knode, .int (nI knodes), .int (nI konesMany), .int (nI kwithin), .int (nI ktop)])), (know, .inl (ky 0, 373, .inl f70))] → va_S A s.heap H locs → lv_has ls 2 [(1, .int (nI k69)), (0, .ref o)] → W p l e (headSpec wsX12_startSo ({ frames := 0, cells := 0, slots := 0, locals := 0 })).room s m args below meth c H locs 0 0 Q (F0 m 70 ls []) := by
                intro n76
                induction n76 with
                | zero => intro k69 f70 _ _ _ _ h9; exact absurd h9 (Nat.not_lt_zero _)
                | succ n76 ih77 =>
                  intro k69 f70 j71 j72 j73 j74 hm78 H locs ls hP hD hS hl
                  refine lv_iload_n hx hb dX12_startSo_70 rfl (lv_at hl 0 rfl) ?_
                  refine lv_bipush (v := nI 6) hx hb dX12_startSo_71 (by decide) ?_
                  refine n_icmp_ge (x := k69) (y := 6) (tgt := 136) hx hb (by omega) (by omega) dX12_startSo_73 (by decide) (fun c79 => ?_) (fun c79 => ?_)
                  · rw [hQ]
                    exact W.vret hx hb hr (fun t9 ht9 hW9 => ⟨⟨f70, rfl, ⟨j72, j73, j74⟩, by rw [ht9]; exact hP, va_K.moved hW9.alike hK, hD⟩, hS.F ht9⟩) hS.2.2 dX12_startSo_136
                  · refine lv_aload_n hx hb dX12_startSo_76 rfl (lv_at hl 1 rfl) ?_
                    refine va_get (D := (dC, dI)) (ci := 12) (v := .ref know) (C := RX12) (T := TX12) (N := 52) hx hb hts hin12 hown hK hP 0 rfl rfl 14 (by decide) (hts (.fieldLink RX12 98 "PorridgeSeaModel" "now" "[I") (List.mem_of_getElem? (i := 1) rfl)) (fun _ h9 => h9) rfl dX12_startSo_77 ?_
                    refine lv_bipush (v := nI 107) hx hb dX12_startSo_80 (by decide) ?_
                    refine lv_iload_n hx hb dX12_startSo_82 rfl (lv_at hl 0 rfl) ?_
                    refine lv_iadd hx hb dX12_startSo_83 ?_
                    refine r_ti (nI (107 + k69)) (nI_add _ _) ?_
                    refine lv_aload_n hx hb dX12_startSo_84 rfl (lv_at hl 1 rfl) ?_
                    refine va_get (D := (dC, dI)) (ci := 12) (v := .ref know) (C := RX12) (T := TX12) (N := 52) hx hb hts hin12 hown hK hP 0 rfl rfl 14 (by decide) (hts (.fieldLink RX12 98 "PorridgeSeaModel" "now" "[I") (List.mem_of_getElem? (i := 1) rfl)) (fun _ h9 => h9) rfl dX12_startSo_85 ?_
                    refine lv_bipush (v := nI 43) hx hb dX12_startSo_88 (by decide) ?_
                    refine lv_iload_n hx hb dX12_startSo_90 rfl (lv_at hl 0 rfl) ?_
                    refine lv_iadd hx hb dX12_startSo_91 ?_
                    refine r_ti (nI (43 + k69)) (nI_add _ _) ?_
                    obtain ⟨y80, e81⟩ : ∃ z9, z9 = f70 (43 + k69) := ⟨_, rfl⟩
                    refine r_iald hx hb hK hP 1 rfl (43 + k69) (lf_e_startSo_3 knowF kn0 f16 y27 g29 f47 k69 f70 n76 y80 ab_now sb_now he0 j18 j19 j20 e28 nb31 sb32 he33 j49 j50 j51 j71 j72 j73 j74 hm78 c79 e81) (by decide) y80 e81.symm dX12_startSo_92 ?_
                    obtain ⟨b82, b83⟩ : (0 : Int) ≤ y80.toInt ∧ y80.toInt ≤ 35 := by rw [e81]; exact ld_NB_43 j72 (43 + k69) (lf_e_startSo_4 knowF kn0 f16 y27 g29 f47 k69 f70 n76 y80 ab_now sb_now he0 j18 j19 j20 e28 nb31 sb32 he33 j49 j50 j51 j71 j72 j73 j74 hm78 c79 e81) (lf_e_startSo_5 knowF kn0 f16 y27 g29 f47 k69 f70 n76 y80 ab_now sb_now he0 j18 j19 j20 e28 nb31 sb32 he33 j49 j50 j51 j71 j72 j73 j74 hm78 c79 e81)
                    refine r_iast (x := y80) hx hb hK hP hD hS 1 rfl (107 + k69) (lf_e_startSo_8 knowF kn0 f16 y27 g29 f47 k69 f70 n76 y80 ab_now sb_now he0 j18 j19 j20 e28 nb31 sb32 he33 j49 j50 j51 j71 j72 j73 j74 hm78 c79 e81 b82 b83) (by decide) dX12_startSo_93 (fun H locs hP hD hS => ?_)
                    obtain ⟨g84, e85⟩ : ∃ z9, z9 = upd f70 (107 + k69) y80 := ⟨_, rfl⟩
                    rw [← e85] at hP hD
                    have nb86 : NB g84 := by rw [e85]; exact st_NB_107 j72 (107 + k69) (lf_e_startSo_9 knowF kn0 f16 y27 g29 f47 k69 f70 n76 y80 ab_now sb_now he0 j18 j19 j20 e28 nb31 sb32 he33 j49 j50 j51 j71 j72 j73 j74 hm78 c79 e81 b82 b83) (lf_e_startSo_10 knowF kn0 f16 y27 g29 f47 k69 f70 n76 y80 ab_now sb_now he0 j18 j19 j20 e28 nb31 sb32 he33 j49 j50 j51 j71 j72 j73 j74 hm78 c79 e81 b82 b83) (lf_e_startSo_6 knowF kn0 f16 y27 g29 f47 k69 f70 n76 y80 ab_now sb_now he0 j18 j19 j20 e28 nb31 sb32 he33 j49 j50 j51 j71 j72 j73 j74 hm78 c79 e81 b82 b83) (lf_e_startSo_7 knowF kn0 f16 y27 g29 f47 k69 f70 n76 y80 ab_now sb_now he0 j18 j19 j20 e28 nb31 sb32 he33 j49 j50 j51 j71 j72 j73 j74 hm78 c79 e81 b82 b83)
                    have sb87 : SB g84 := by rw [e85]; exact SB_lo j73 _ _ (by omega)
                    have he88 : HE kn0 g84 := by rw [e85]; exact HE_upd j74 (lf_e_startSo_11 knowF kn0 f16 y27 g29 f47 k69 f70 n76 y80 ab_now sb_now he0 j18 j19 j20 e28 nb31 sb32 he33 j49 j50 j51 j71 j72 j73 j74 hm78 c79 e81 b82 b83) _
                    have hP : va_P (dC, dI) vwCl [(o, .inr (12, [.int kthrown, .ref ktape, .int (nI ktaped), .int (nI ksize), .int (nI klimit), .int (nI kto), .int (nI kfrom), .int kkind, .int knumber, .int ksign, .int kfault, .int kplace, .long kword, .int ktold, .ref know, .ref kread, .ref kkept, .ref ksnaps, .ref kaside, .ref kname, .ref kreadName, .ref kkeptName, .ref kisKept, .ref konces, .int (nI ksnapMany), .int khasCells, .ref kpoured, .ref kfar, .ref ksides, .int (nI ksideMany), .int kwayDays, .int khasWay, .ref klines, .ref kmet, .int (nI kmetMany), .ref ksunk, .ref ktrying, .int (nI ksunkMany), .int ksending, .int kfleets, .ref ktext, .int (nI ktexts), .int kseed, .ref kline, .ref kwritten, .int (nI klineMany), .int khasWritten, .ref knode, .int (nI knodes), .int (nI konesMany), .int (nI kwithin), .int (nI ktop)])), (know, .inl (ky 0, 373, .inl g84))] H := hP
                    have hD : va_D A [(o, .inr (12, [.int kthrown, .ref ktape, .int (nI ktaped), .int (nI ksize), .int (nI klimit), .int (nI kto), .int (nI kfrom), .int kkind, .int knumber, .int ksign, .int kfault, .int kplace, .long kword, .int ktold, .ref know, .ref kread, .ref kkept, .ref ksnaps, .ref kaside, .ref kname, .ref kreadName, .ref kkeptName, .ref kisKept, .ref konces, .int (nI ksnapMany), .int khasCells, .ref kpoured, .ref kfar, .ref ksides, .int (nI ksideMany), .int kwayDays, .int khasWay, .ref klines, .ref kmet, .int (nI kmetMany), .ref ksunk, .ref ktrying, .int (nI ksunkMany), .int ksending, .int kfleets, .ref ktext, .int (nI ktexts), .int kseed, .ref kline, .ref kwritten, .int (nI klineMany), .int khasWritten, .ref knode, .int (nI knodes), .int (nI konesMany), .int (nI kwithin), .int (nI ktop)])), (know, .inl (ky 0, 373, .inl g84))] := hD
                    refine lv_aload_n hx hb dX12_startSo_94 rfl (lv_at hl 1 rfl) ?_
                    refine va_get (D := (dC, dI)) (ci := 12) (v := .ref know) (C := RX12) (T := TX12) (N := 52) hx hb hts hin12 hown hK hP 0 rfl rfl 14 (by decide) (hts (.fieldLink RX12 98 "PorridgeSeaModel" "now" "[I") (List.mem_of_getElem? (i := 1) rfl)) (fun _ h9 => h9) rfl dX12_startSo_95 ?_
                    refine lv_bipush (v := nI 113) hx hb dX12_startSo_98 (by decide) ?_
                    refine lv_iload_n hx hb dX12_startSo_100 rfl (lv_at hl 0 rfl) ?_
                    refine lv_iadd hx hb dX12_startSo_101 ?_
                    refine r_ti (nI (113 + k69)) (nI_add _ _) ?_
                    refine lv_aload_n hx hb dX12_startSo_102 rfl (lv_at hl 1 rfl) ?_
                    refine va_get (D := (dC, dI)) (ci := 12) (v := .ref know) (C := RX12) (T := TX12) (N := 52) hx hb hts hin12 hown hK hP 0 rfl rfl 14 (by decide) (hts (.fieldLink RX12 98 "PorridgeSeaModel" "now" "[I") (List.mem_of_getElem? (i := 1) rfl)) (fun _ h9 => h9) rfl dX12_startSo_103 ?_
                    refine lv_bipush (v := nI 49) hx hb dX12_startSo_106 (by decide) ?_
                    refine lv_iload_n hx hb dX12_startSo_108 rfl (lv_at hl 0 rfl) ?_
                    refine lv_iadd hx hb dX12_startSo_109 ?_
                    refine r_ti (nI (49 + k69)) (nI_add _ _) ?_
                    obtain ⟨y89, e90⟩ : ∃ z9, z9 = g84 (49 + k69) := ⟨_, rfl⟩
                    refine r_iald hx hb hK hP 1 rfl (49 + k69) (lf_e_startSo_12 knowF kn0 f16 y27 g29 f47 k69 f70 n76 y80 g84 y89 ab_now sb_now he0 j18 j19 j20 e28 nb31 sb32 he33 j49 j50 j51 j71 j72 j73 j74 hm78 c79 e81 b82 b83 nb86 sb87 he88 e90) (by decide) y89 e90.symm dX12_startSo_110 ?_
                    obtain ⟨b91, b92⟩ : (0 : Int) ≤ y89.toInt ∧ y89.toInt ≤ 35 := by rw [e90]; exact ld_NB_43 nb86 (49 + k69) (lf_e_startSo_13 knowF kn0 f16 y27 g29 f47 k69 f70 n76 y80 g84 y89 ab_now sb_now he0 j18 j19 j20 e28 nb31 sb32 he33 j49 j50 j51 j71 j72 j73 j74 hm78 c79 e81 b82 b83 nb86 sb87 he88 e90) (lf_e_startSo_14 knowF kn0 f16 y27 g29 f47 k69 f70 n76 y80 g84 y89 ab_now sb_now he0 j18 j19 j20 e28 nb31 sb32 he33 j49 j50 j51 j71 j72 j73 j74 hm78 c79 e81 b82 b83 nb86 sb87 he88 e90)
                    refine r_iast (x := y89) hx hb hK hP hD hS 1 rfl (113 + k69) (lf_e_startSo_17 knowF kn0 f16 y27 g29 f47 k69 f70 n76 y80 g84 y89 ab_now sb_now he0 j18 j19 j20 e28 nb31 sb32 he33 j49 j50 j51 j71 j72 j73 j74 hm78 c79 e81 b82 b83 nb86 sb87 he88 e90 b91 b92) (by decide) dX12_startSo_111 (fun H locs hP hD hS => ?_)
                    obtain ⟨g93, e94⟩ : ∃ z9, z9 = upd g84 (113 + k69) y89 := ⟨_, rfl⟩
                    rw [← e94] at hP hD
                    have nb95 : NB g93 := by rw [e94]; exact st_NB_107 nb86 (113 + k69) (lf_e_startSo_18 knowF kn0 f16 y27 g29 f47 k69 f70 n76 y80 g84 y89 ab_now sb_now he0 j18 j19 j20 e28 nb31 sb32 he33 j49 j50 j51 j71 j72 j73 j74 hm78 c79 e81 b82 b83 nb86 sb87 he88 e90 b91 b92) (lf_e_startSo_19 knowF kn0 f16 y27 g29 f47 k69 f70 n76 y80 g84 y89 ab_now sb_now he0 j18 j19 j20 e28 nb31 sb32 he33 j49 j50 j51 j71 j72 j73 j74 hm78 c79 e81 b82 b83 nb86 sb87 he88 e90 b91 b92) (lf_e_startSo_15 knowF kn0 f16 y27 g29 f47 k69 f70 n76 y80 g84 y89 ab_now sb_now he0 j18 j19 j20 e28 nb31 sb32 he33 j49 j50 j51 j71 j72 j73 j74 hm78 c79 e81 b82 b83 nb86 sb87 he88 e90 b91 b92) (lf_e_startSo_16 knowF kn0 f16 y27 g29 f47 k69 f70 n76 y80 g84 y89 ab_now sb_now he0 j18 j19 j20 e28 nb31 sb32 he33 j49 j50 j51 j71 j72 j73 j74 hm78 c79 e81 b82 b83 nb86 sb87 he88 e90 b91 b92)
                    have sb96 : SB g93 := by rw [e94]; exact SB_lo sb87 _ _ (by omega)
                    have he97 : HE kn0 g93 := by rw [e94]; exact HE_upd he88 (lf_e_startSo_20 knowF kn0 f16 y27 g29 f47 k69 f70 n76 y80 g84 y89 ab_now sb_now he0 j18 j19 j20 e28 nb31 sb32 he33 j49 j50 j51 j71 j72 j73 j74 hm78 c79 e81 b82 b83 nb86 sb87 he88 e90 b91 b92) _
                    have hP : va_P (dC, dI) vwCl [(o, .inr (12, [.int kthrown, .ref ktape, .int (nI ktaped), .int (nI ksize), .int (nI klimit), .int (nI kto), .int (nI kfrom), .int kkind, .int knumber, .int ksign, .int kfault, .int kplace, .long kword, .int ktold, .ref know, .ref kread, .ref kkept, .ref ksnaps, .ref kaside, .ref kname, .ref kreadName, .ref kkeptName, .ref kisKept, .ref konces, .int (nI ksnapMany), .int khasCells, .ref kpoured, .ref kfar, .ref ksides, .int (nI ksideMany), .int kwayDays, .int khasWay, .ref klines, .ref kmet, .int (nI kmetMany), .ref ksunk, .ref ktrying, .int (nI ksunkMany), .int ksending, .int kfleets, .ref ktext, .int (nI ktexts), .int kseed, .ref kline, .ref kwritten, .int (nI klineMany), .int khasWritten, .ref knode, .int (nI knodes), .int (nI konesMany), .int (nI kwithin), .int (nI ktop)])), (know, .inl (ky 0, 373, .inl g93))] H := hP
                    have hD : va_D A [(o, .inr (12, [.int kthrown, .ref ktape, .int (nI ktaped), .int (nI ksize), .int (nI klimit), .int (nI kto), .int (nI kfrom), .int kkind, .int knumber, .int ksign, .int kfault, .int kplace, .long kword, .int ktold, .ref know, .ref kread, .ref kkept, .ref ksnaps, .ref kaside, .ref kname, .ref kreadName, .ref kkeptName, .ref kisKept, .ref konces, .int (nI ksnapMany), .int khasCells, .ref kpoured, .ref kfar, .ref ksides, .int (nI ksideMany), .int kwayDays, .int khasWay, .ref klines, .ref kmet, .int (nI kmetMany), .ref ksunk, .ref ktrying, .int (nI ksunkMany), .int ksending, .int kfleets, .ref ktext, .int (nI ktexts), .int kseed, .ref kline, .ref kwritten, .int (nI klineMany), .int khasWritten, .ref knode, .int (nI knodes), .int (nI konesMany), .int (nI kwithin), .int (nI ktop)])), (know, .inl (ky 0, 373, .inl g93))] := hD
                    refine lv_aload_n hx hb dX12_startSo_112 rfl (lv_at hl 1 rfl) ?_
                    refine va_get (D := (dC, dI)) (ci := 12) (v := .ref know) (C := RX12) (T := TX12) (N := 52) hx hb hts hin12 hown hK hP 0 rfl rfl 14 (by decide) (hts (.fieldLink RX12 98 "PorridgeSeaModel" "now" "[I") (List.mem_of_getElem? (i := 1) rfl)) (fun _ h9 => h9) rfl dX12_startSo_113 ?_
                    refine lv_bipush (v := nI 119) hx hb dX12_startSo_116 (by decide) ?_
                    refine lv_iload_n hx hb dX12_startSo_118 rfl (lv_at hl 0 rfl) ?_
                    refine lv_iadd hx hb dX12_startSo_119 ?_
                    refine r_ti (nI (119 + k69)) (nI_add _ _) ?_
                    refine lv_aload_n hx hb dX12_startSo_120 rfl (lv_at hl 1 rfl) ?_
                    refine va_get (D := (dC, dI)) (ci := 12) (v := .ref know) (C := RX12) (T := TX12) (N := 52) hx hb hts hin12 hown hK hP 0 rfl rfl 14 (by decide) (hts (.fieldLink RX12 98 "PorridgeSeaModel" "now" "[I") (List.mem_of_getElem? (i := 1) rfl)) (fun _ h9 => h9) rfl dX12_startSo_121 ?_
                    refine lv_bipush (v := nI 61) hx hb dX12_startSo_124 (by decide) ?_
                    refine lv_iload_n hx hb dX12_startSo_126 rfl (lv_at hl 0 rfl) ?_
                    refine lv_iadd hx hb dX12_startSo_127 ?_
                    refine r_ti (nI (61 + k69)) (nI_add _ _) ?_
                    obtain ⟨y98, e99⟩ : ∃ z9, z9 = g93 (61 + k69) := ⟨_, rfl⟩
                    refine r_iald hx hb hK hP 1 rfl (61 + k69) (lf_e_startSo_21 knowF kn0 f16 y27 g29 f47 k69 f70 n76 y80 g84 y89 g93 y98 ab_now sb_now he0 j18 j19 j20 e28 nb31 sb32 he33 j49 j50 j51 j71 j72 j73 j74 hm78 c79 e81 b82 b83 nb86 sb87 he88 e90 b91 b92 nb95 sb96 he97 e99) (by decide) y98 e99.symm dX12_startSo_128 ?_
                    refine r_iast (x := y98) hx hb hK hP hD hS 1 rfl (119 + k69) (lf_e_startSo_24 knowF kn0 f16 y27 g29 f47 k69 f70 n76 y80 g84 y89 g93 y98 ab_now sb_now he0 j18 j19 j20 e28 nb31 sb32 he33 j49 j50 j51 j71 j72 j73 j74 hm78 c79 e81 b82 b83 nb86 sb87 he88 e90 b91 b92 nb95 sb96 he97 e99) (by decide) dX12_startSo_129 (fun H locs hP hD hS => ?_)
                    obtain ⟨g100, e101⟩ : ∃ z9, z9 = upd g93 (119 + k69) y98 := ⟨_, rfl⟩
                    rw [← e101] at hP hD
                    have nb102 : NB g100 := by rw [e101]; exact st_NB_119 nb95 (119 + k69) (lf_e_startSo_25 knowF kn0 f16 y27 g29 f47 k69 f70 n76 y80 g84 y89 g93 y98 ab_now sb_now he0 j18 j19 j20 e28 nb31 sb32 he33 j49 j50 j51 j71 j72 j73 j74 hm78 c79 e81 b82 b83 nb86 sb87 he88 e90 b91 b92 nb95 sb96 he97 e99) (lf_e_startSo_26 knowF kn0 f16 y27 g29 f47 k69 f70 n76 y80 g84 y89 g93 y98 ab_now sb_now he0 j18 j19 j20 e28 nb31 sb32 he33 j49 j50 j51 j71 j72 j73 j74 hm78 c79 e81 b82 b83 nb86 sb87 he88 e90 b91 b92 nb95 sb96 he97 e99) (lf_e_startSo_22 knowF kn0 f16 y27 g29 f47 k69 f70 n76 y80 g84 y89 g93 y98 ab_now sb_now he0 j18 j19 j20 e28 nb31 sb32 he33 j49 j50 j51 j71 j72 j73 j74 hm78 c79 e81 b82 b83 nb86 sb87 he88 e90 b91 b92 nb95 sb96 he97 e99) (lf_e_startSo_23 knowF kn0 f16 y27 g29 f47 k69 f70 n76 y80 g84 y89 g93 y98 ab_now sb_now he0 j18 j19 j20 e28 nb31 sb32 he33 j49 j50 j51 j71 j72 j73 j74 hm78 c79 e81 b82 b83 nb86 sb87 he88 e90 b91 b92 nb95 sb96 he97 e99)
                    have sb103 : SB g100 := by rw [e101]; exact SB_lo sb96 _ _ (by omega)
                    have he104 : HE kn0 g100 := by rw [e101]; exact HE_upd he97 (lf_e_startSo_27 knowF kn0 f16 y27 g29 f47 k69 f70 n76 y80 g84 y89 g93 y98 ab_now sb_now he0 j18 j19 j20 e28 nb31 sb32 he33 j49 j50 j51 j71 j72 j73 j74 hm78 c79 e81 b82 b83 nb86 sb87 he88 e90 b91 b92 nb95 sb96 he97 e99) _
                    have hP : va_P (dC, dI) vwCl [(o, .inr (12, [.int kthrown, .ref ktape, .int (nI ktaped), .int (nI ksize), .int (nI klimit), .int (nI kto), .int (nI kfrom), .int kkind, .int knumber, .int ksign, .int kfault, .int kplace, .long kword, .int ktold, .ref know, .ref kread, .ref kkept, .ref ksnaps, .ref kaside, .ref kname, .ref kreadName, .ref kkeptName, .ref kisKept, .ref konces, .int (nI ksnapMany), .int khasCells, .ref kpoured, .ref kfar, .ref ksides, .int (nI ksideMany), .int kwayDays, .int khasWay, .ref klines, .ref kmet, .int (nI kmetMany), .ref ksunk, .ref ktrying, .int (nI ksunkMany), .int ksending, .int kfleets, .ref ktext, .int (nI ktexts), .int kseed, .ref kline, .ref kwritten, .int (nI klineMany), .int khasWritten, .ref knode, .int (nI knodes), .int (nI konesMany), .int (nI kwithin), .int (nI ktop)])), (know, .inl (ky 0, 373, .inl g100))] H := hP
                    have hD : va_D A [(o, .inr (12, [.int kthrown, .ref ktape, .int (nI ktaped), .int (nI ksize), .int (nI klimit), .int (nI kto), .int (nI kfrom), .int kkind, .int knumber, .int ksign, .int kfault, .int kplace, .long kword, .int ktold, .ref know, .ref kread, .ref kkept, .ref ksnaps, .ref kaside, .ref kname, .ref kreadName, .ref kkeptName, .ref kisKept, .ref konces, .int (nI ksnapMany), .int khasCells, .ref kpoured, .ref kfar, .ref ksides, .int (nI ksideMany), .int kwayDays, .int khasWay, .ref klines, .ref kmet, .int (nI kmetMany), .ref ksunk, .ref ktrying, .int (nI ksunkMany), .int ksending, .int kfleets, .ref ktext, .int (nI ktexts), .int kseed, .ref kline, .ref kwritten, .int (nI klineMany), .int khasWritten, .ref knode, .int (nI knodes), .int (nI konesMany), .int (nI kwithin), .int (nI ktop)])), (know, .inl (ky 0, 373, .inl g100))] := hD
                    refine lv_iinc (v := nI (k69 + 1)) (lv' := [(1, .int (nI (k69 + 1))), (0, .ref o)]) hx hb dX12_startSo_130 hl (k := 0) rfl (show nI k69 + nI 1 = nI (k69 + 1) from nI_add _ _) (by decide) rfl (fun ls hl => ?_)
                    refine lv_goto (tgt := 70) hx hb dX12_startSo_133 (by decide) ?_
                    exact ih77 (k69 + 1) g100 (lf_e_startSo_28 knowF kn0 f16 y27 g29 f47 k69 f70 n76 y80 g84 y89 g93 y98 g100 ab_now sb_now he0 j18 j19 j20 e28 nb31 sb32 he33 j49 j50 j51 j71 j72 j73 j74 hm78 c79 e81 b82 b83 nb86 sb87 he88 e90 b91 b92 nb95 sb96 he97 e99 nb102 sb103 he104) nb102 sb103 he104 (lf_e_startSo_29 knowF kn0 f16 y27 g29 f47 k69 f70 n76 y80 g84 y89 g93 y98 g100 ab_now sb_now he0 j18 j19 j20 e28 nb31 sb32 he33 j49 j50 j51 j71 j72 j73 j74 hm78 c79 e81 b82 b83 nb86 sb87 he88 e90 b91 b92 nb95 sb96 he97 e99 nb102 sb103 he104) _ _ _ hP hD hS (lv_sub hl [0, 1] rfl)
              exact hL75 ((6 - 0) + 1) 0 f47 (lf_e_startSo_30) j49 j50 j51 (Nat.lt_succ_self _) _ _ _ hP hD hS (lv_sub hl [0, 1] rfl)
            · refine lv_aload_n hx hb dX12_startSo_44 rfl (lv_at hl 1 rfl) ?_
              refine va_get (D := (dC, dI)) (ci := 12) (v := .ref know) (C := RX12) (T := TX12) (N := 52) hx hb hts hin12 hown hK hP 0 rfl rfl 14 (by decide) (hts (.fieldLink RX12 98 "PorridgeSeaModel" "now" "[I") (List.mem_of_getElem? (i := 1) rfl)) (fun _ h9 => h9) rfl dX12_startSo_45 ?_
              refine lv_bipush (v := nI 71) hx hb dX12_startSo_48 (by decide) ?_
              refine lv_iload_n hx hb dX12_startSo_50 rfl (lv_at hl 0 rfl) ?_
              refine lv_iadd hx hb dX12_startSo_51 ?_
              refine r_ti (nI (71 + k46)) (nI_add _ _) ?_
              refine lv_aload_n hx hb dX12_startSo_52 rfl (lv_at hl 1 rfl) ?_
              refine va_get (D := (dC, dI)) (ci := 12) (v := .ref know) (C := RX12) (T := TX12) (N := 52) hx hb hts hin12 hown hK hP 0 rfl rfl 14 (by decide) (hts (.fieldLink RX12 98 "PorridgeSeaModel" "now" "[I") (List.mem_of_getElem? (i := 1) rfl)) (fun _ h9 => h9) rfl dX12_startSo_53 ?_
              refine lv_bipush (v := nI 7) hx hb dX12_startSo_56 (by decide) ?_
              refine lv_iload_n hx hb dX12_startSo_58 rfl (lv_at hl 0 rfl) ?_
              refine lv_iadd hx hb dX12_startSo_59 ?_
              refine r_ti (nI (7 + k46)) (nI_add _ _) ?_
              obtain ⟨y105, e106⟩ : ∃ z9, z9 = f47 (7 + k46) := ⟨_, rfl⟩
              refine r_iald hx hb hK hP 1 rfl (7 + k46) (lf_e_startSo_31 knowF kn0 f16 y27 g29 k46 f47 n53 y105 ab_now sb_now he0 j18 j19 j20 e28 nb31 sb32 he33 j48 j49 j50 j51 hm55 c56 e106) (by decide) y105 e106.symm dX12_startSo_60 ?_
              obtain ⟨b107, b108⟩ : (0 : Int) ≤ y105.toInt ∧ y105.toInt ≤ 9 := by rw [e106]; exact ld_NB_7 j49 (7 + k46) (lf_e_startSo_32 knowF kn0 f16 y27 g29 k46 f47 n53 y105 ab_now sb_now he0 j18 j19 j20 e28 nb31 sb32 he33 j48 j49 j50 j51 hm55 c56 e106) (lf_e_startSo_33 knowF kn0 f16 y27 g29 k46 f47 n53 y105 ab_now sb_now he0 j18 j19 j20 e28 nb31 sb32 he33 j48 j49 j50 j51 hm55 c56 e106)
              refine r_iast (x := y105) hx hb hK hP hD hS 1 rfl (71 + k46) (lf_e_startSo_36 knowF kn0 f16 y27 g29 k46 f47 n53 y105 ab_now sb_now he0 j18 j19 j20 e28 nb31 sb32 he33 j48 j49 j50 j51 hm55 c56 e106 b107 b108) (by decide) dX12_startSo_61 (fun H locs hP hD hS => ?_)
              obtain ⟨g109, e110⟩ : ∃ z9, z9 = upd f47 (71 + k46) y105 := ⟨_, rfl⟩
              rw [← e110] at hP hD
              have nb111 : NB g109 := by rw [e110]; exact st_NB_71 j49 (71 + k46) (lf_e_startSo_37 knowF kn0 f16 y27 g29 k46 f47 n53 y105 ab_now sb_now he0 j18 j19 j20 e28 nb31 sb32 he33 j48 j49 j50 j51 hm55 c56 e106 b107 b108) (lf_e_startSo_38 knowF kn0 f16 y27 g29 k46 f47 n53 y105 ab_now sb_now he0 j18 j19 j20 e28 nb31 sb32 he33 j48 j49 j50 j51 hm55 c56 e106 b107 b108) (lf_e_startSo_34 knowF kn0 f16 y27 g29 k46 f47 n53 y105 ab_now sb_now he0 j18 j19 j20 e28 nb31 sb32 he33 j48 j49 j50 j51 hm55 c56 e106 b107 b108) (lf_e_startSo_35 knowF kn0 f16 y27 g29 k46 f47 n53 y105 ab_now sb_now he0 j18 j19 j20 e28 nb31 sb32 he33 j48 j49 j50 j51 hm55 c56 e106 b107 b108)
              have sb112 : SB g109 := by rw [e110]; exact SB_lo j50 _ _ (by omega)
              have he113 : HE kn0 g109 := by rw [e110]; exact HE_upd j51 (lf_e_startSo_39 knowF kn0 f16 y27 g29 k46 f47 n53 y105 ab_now sb_now he0 j18 j19 j20 e28 nb31 sb32 he33 j48 j49 j50 j51 hm55 c56 e106 b107 b108) _
              have hP : va_P (dC, dI) vwCl [(o, .inr (12, [.int kthrown, .ref ktape, .int (nI ktaped), .int (nI ksize), .int (nI klimit), .int (nI kto), .int (nI kfrom), .int kkind, .int knumber, .int ksign, .int kfault, .int kplace, .long kword, .int ktold, .ref know, .ref kread, .ref kkept, .ref ksnaps, .ref kaside, .ref kname, .ref kreadName, .ref kkeptName, .ref kisKept, .ref konces, .int (nI ksnapMany), .int khasCells, .ref kpoured, .ref kfar, .ref ksides, .int (nI ksideMany), .int kwayDays, .int khasWay, .ref klines, .ref kmet, .int (nI kmetMany), .ref ksunk, .ref ktrying, .int (nI ksunkMany), .int ksending, .int kfleets, .ref ktext, .int (nI ktexts), .int kseed, .ref kline, .ref kwritten, .int (nI klineMany), .int khasWritten, .ref knode, .int (nI knodes), .int (nI konesMany), .int (nI kwithin), .int (nI ktop)])), (know, .inl (ky 0, 373, .inl g109))] H := hP
              have hD : va_D A [(o, .inr (12, [.int kthrown, .ref ktape, .int (nI ktaped), .int (nI ksize), .int (nI klimit), .int (nI kto), .int (nI kfrom), .int kkind, .int knumber, .int ksign, .int kfault, .int kplace, .long kword, .int ktold, .ref know, .ref kread, .ref kkept, .ref ksnaps, .ref kaside, .ref kname, .ref kreadName, .ref kkeptName, .ref kisKept, .ref konces, .int (nI ksnapMany), .int khasCells, .ref kpoured, .ref kfar, .ref ksides, .int (nI ksideMany), .int kwayDays, .int khasWay, .ref klines, .ref kmet, .int (nI kmetMany), .ref ksunk, .ref ktrying, .int (nI ksunkMany), .int ksending, .int kfleets, .ref ktext, .int (nI ktexts), .int kseed, .ref kline, .ref kwritten, .int (nI klineMany), .int khasWritten, .ref knode, .int (nI knodes), .int (nI konesMany), .int (nI kwithin), .int (nI ktop)])), (know, .inl (ky 0, 373, .inl g109))] := hD
              refine lv_iinc (v := nI (k46 + 1)) (lv' := [(1, .int (nI (k46 + 1))), (0, .ref o)]) hx hb dX12_startSo_62 hl (k := 0) rfl (show nI k46 + nI 1 = nI (k46 + 1) from nI_add _ _) (by decide) rfl (fun ls hl => ?_)
              refine lv_goto (tgt := 38) hx hb dX12_startSo_65 (by decide) ?_
              exact ih54 (k46 + 1) g109 (lf_e_startSo_40 knowF kn0 f16 y27 g29 k46 f47 n53 y105 g109 ab_now sb_now he0 j18 j19 j20 e28 nb31 sb32 he33 j48 j49 j50 j51 hm55 c56 e106 b107 b108 nb111 sb112 he113) nb111 sb112 he113 (lf_e_startSo_41 knowF kn0 f16 y27 g29 k46 f47 n53 y105 g109 ab_now sb_now he0 j18 j19 j20 e28 nb31 sb32 he33 j48 j49 j50 j51 hm55 c56 e106 b107 b108 nb111 sb112 he113) _ _ _ hP hD hS (lv_sub hl [0, 1] rfl)
        exact hL52 ((36 - 0) + 1) 0 g29 (lf_e_startSo_42) nb31 sb32 he33 (Nat.lt_succ_self _) _ _ _ hP hD hS (lv_sub hl [0, 1] rfl)
      · refine lv_aload_n hx hb dX12_startSo_10 rfl (lv_at hl 1 rfl) ?_
        refine va_get (D := (dC, dI)) (ci := 12) (v := .ref know) (C := RX12) (T := TX12) (N := 52) hx hb hts hin12 hown hK hP 0 rfl rfl 14 (by decide) (hts (.fieldLink RX12 98 "PorridgeSeaModel" "now" "[I") (List.mem_of_getElem? (i := 1) rfl)) (fun _ h9 => h9) rfl dX12_startSo_11 ?_
        refine lv_iload_n hx hb dX12_startSo_14 rfl (lv_at hl 0 rfl) ?_
        refine lv_iconst (v := nI 0) hx hb dX12_startSo_15 (by decide) ?_
        refine r_iast (x := (nI 0)) hx hb hK hP hD hS 1 rfl k15 (lf_e_startSo_43 k15 n23 j17 j21 hm25 c26) (by decide) dX12_startSo_16 (fun H locs hP hD hS => ?_)
        obtain ⟨g114, e115⟩ : ∃ z9, z9 = upd f16 k15 (nI 0) := ⟨_, rfl⟩
        rw [← e115] at hP hD
        have nb116 : NB g114 := by rw [e115]; exact nb_zero j18 _ (by omega) (by omega)
        have sb117 : SB g114 := by rw [e115]; exact SB_zero j19 _
        have he118 : HE kn0 g114 := by rw [e115]; exact HE_upd j20 (lf_e_startSo_44 k15 n23 j17 j21 hm25 c26) _
        have hP : va_P (dC, dI) vwCl [(o, .inr (12, [.int kthrown, .ref ktape, .int (nI ktaped), .int (nI ksize), .int (nI klimit), .int (nI kto), .int (nI kfrom), .int kkind, .int knumber, .int ksign, .int kfault, .int kplace, .long kword, .int ktold, .ref know, .ref kread, .ref kkept, .ref ksnaps, .ref kaside, .ref kname, .ref kreadName, .ref kkeptName, .ref kisKept, .ref konces, .int (nI ksnapMany), .int khasCells, .ref kpoured, .ref kfar, .ref ksides, .int (nI ksideMany), .int kwayDays, .int khasWay, .ref klines, .ref kmet, .int (nI kmetMany), .ref ksunk, .ref ktrying, .int (nI ksunkMany), .int ksending, .int kfleets, .ref ktext, .int (nI ktexts), .int kseed, .ref kline, .ref kwritten, .int (nI klineMany), .int khasWritten, .ref knode, .int (nI knodes), .int (nI konesMany), .int (nI kwithin), .int (nI ktop)])), (know, .inl (ky 0, 373, .inl g114))] H := hP
        have hD : va_D A [(o, .inr (12, [.int kthrown, .ref ktape, .int (nI ktaped), .int (nI ksize), .int (nI klimit), .int (nI kto), .int (nI kfrom), .int kkind, .int knumber, .int ksign, .int kfault, .int kplace, .long kword, .int ktold, .ref know, .ref kread, .ref kkept, .ref ksnaps, .ref kaside, .ref kname, .ref kreadName, .ref kkeptName, .ref kisKept, .ref konces, .int (nI ksnapMany), .int khasCells, .ref kpoured, .ref kfar, .ref ksides, .int (nI ksideMany), .int kwayDays, .int khasWay, .ref klines, .ref kmet, .int (nI kmetMany), .ref ksunk, .ref ktrying, .int (nI ksunkMany), .int ksending, .int kfleets, .ref ktext, .int (nI ktexts), .int kseed, .ref kline, .ref kwritten, .int (nI klineMany), .int khasWritten, .ref knode, .int (nI knodes), .int (nI konesMany), .int (nI kwithin), .int (nI ktop)])), (know, .inl (ky 0, 373, .inl g114))] := hD
        refine lv_iinc (v := nI (k15 + 1)) (lv' := [(1, .int (nI (k15 + 1))), (0, .ref o)]) hx hb dX12_startSo_17 hl (k := 0) rfl (show nI k15 + nI 1 = nI (k15 + 1) from nI_add _ _) (by decide) rfl (fun ls hl => ?_)
        refine lv_goto (tgt := 3) hx hb dX12_startSo_20 (by decide) ?_
        exact ih24 (k15 + 1) g114 (lf_e_startSo_45 k15 n23 j17 j21 hm25 c26) nb116 sb117 he118 (lf_e_startSo_46 k15 n23 j17 j21 hm25 c26) (lf_e_startSo_47 k15 n23 j17 j21 hm25 c26) _ _ _ hP hD hS (lv_sub hl [0, 1] rfl)
  exact hL22 ((373 - 67) + 1) 67 knowF (lf_e_startSo_48) ab_now sb_now he0 (lf_e_startSo_49) (Nat.lt_succ_self _) _ _ _ hP hD hS (lv_sub hl [0, 1] rfl)
