theorem sgk_ne {c : Nat} {x : Int32} (h : x = nI (if cSg c then c else 1)) : x ≠ nI 2 := by
  rw [h]
  by_cases h1 : cSg c
  · rw [if_pos h1]
    unfold cSg at h1
    intro h2
    rw [ia_eq, ia_n c (by omega), ia_n 2 (by omega)] at h2
    omega
  · rw [if_neg h1]; decide
theorem wx_a {x : Nat} {r : Int32} (h : r = nI (if WT0.idxOf x < 7 then 0 + WT0.idxOf x else 31)) (c : r ≠ nI 31) : r = nI (wix x) := by
  unfold wix
  by_cases h0 : WT0.idxOf x < 7
  · rw [if_pos h0]; rw [if_pos h0, Nat.zero_add] at h; exact h
  · rw [if_neg h0] at h; exact absurd h c
theorem wx_0 {x : Nat} {r : Int32} (h : r = nI (if WT0.idxOf x < 7 then 0 + WT0.idxOf x else 31)) (c : r = nI 31) : ¬ WT0.idxOf x < 7 := by
  intro h0
  rw [if_pos h0] at h
  rw [h, ia_eq, ia_n _ (by omega), ia_n 31 (by omega)] at c
  omega
theorem wx_1 {x : Nat} {r : Int32} (h : r = nI (if WT1.idxOf x < 13 then 7 + WT1.idxOf x else 31)) (c : r = nI 31) : ¬ WT1.idxOf x < 13 := by
  intro h0
  rw [if_pos h0] at h
  rw [h, ia_eq, ia_n _ (by omega), ia_n 31 (by omega)] at c
  omega
theorem wx_b {x : Nat} {r : Int32} (h0 : ¬ WT0.idxOf x < 7) (h : r = nI (if WT1.idxOf x < 13 then 7 + WT1.idxOf x else 31)) (c : r ≠ nI 31) : r = nI (wix x) := by
  unfold wix
  rw [if_neg h0]
  by_cases h1 : WT1.idxOf x < 13
  · rw [if_pos h1]; rw [if_pos h1] at h; exact h
  · rw [if_neg h1] at h; exact absurd h c
theorem wx_c {x : Nat} {r : Int32} (h0 : ¬ WT0.idxOf x < 7) (h1 : ¬ WT1.idxOf x < 13) (h : r = nI (if WT2.idxOf x < 11 then 20 + WT2.idxOf x else 31)) : r = nI (wix x) := by
  unfold wix
  rw [if_neg h0, if_neg h1]
  exact h
set_option maxRecDepth 20000 in
theorem lf_f_adv_1 (bt : Nat → Nat) (rlength : Nat) (rmostBytes : Nat) (rplace : Nat) (rtapeF : Nat → Int32) (gq : Nat) (k4 : Nat) (n8 : Nat) (y15 : Int32) (iv_rreader_0 : rlength ≤ 940) (iv_rreader_1 : rplace ≤ rlength) (iv_rreader_2 : rmostBytes ≤ 900) (hTC : TC bt rtapeF) (hgq : rplace = gq) (j5 : k4 ≤ 940) (j6 : k4 ≤ rlength) (jSk : sk bt rlength rplace = sk bt rlength k4) (hm10 : 940 - k4 < n8 + 1) (jQ : sk bt rlength rplace = k4) (c13 : rlength ≤ rmostBytes) (c14 : k4 < rlength) (e16 : y15 = rtapeF k4) (t17 : bt k4 < 256) (t18 : y15.toInt = ((bt k4 : Nat) : Int) ∨ (128 ≤ bt k4 ∧ y15.toInt = ((bt k4 : Nat) : Int) - 256)) (t21 : 97 ≤ y15.toInt) (t22 : y15.toInt ≤ 122) : k4 = k4 := by
  have b_y15 := ia_b y15
  try simp only [ia_lt, ia_le, ia_eq, ia_m1, ia_0, ia_1, ne_eq, true_and, and_true, false_and, and_false, or_false, false_or, or_true, true_or, not_true_eq_false, not_false_eq_true] at *
  all_goals omega
set_option maxRecDepth 20000 in
theorem lf_f_adv_2 (bt : Nat → Nat) (rlength : Nat) (rmostBytes : Nat) (rplace : Nat) (rtapeF : Nat → Int32) (gq : Nat) (k4 : Nat) (n8 : Nat) (y15 : Int32) (iv_rreader_0 : rlength ≤ 940) (iv_rreader_1 : rplace ≤ rlength) (iv_rreader_2 : rmostBytes ≤ 900) (hTC : TC bt rtapeF) (hgq : rplace = gq) (j5 : k4 ≤ 940) (j6 : k4 ≤ rlength) (jSk : sk bt rlength rplace = sk bt rlength k4) (hm10 : 940 - k4 < n8 + 1) (jQ : sk bt rlength rplace = k4) (c13 : rlength ≤ rmostBytes) (c14 : k4 < rlength) (e16 : y15 = rtapeF k4) (t17 : bt k4 < 256) (t18 : y15.toInt = ((bt k4 : Nat) : Int) ∨ (128 ≤ bt k4 ∧ y15.toInt = ((bt k4 : Nat) : Int) - 256)) (t21 : 97 ≤ y15.toInt) (t22 : y15.toInt ≤ 122) : cAl (bt k4) := by
  have h8 := hTC k4 (by omega)
  unfold cAl cLe cDi
  have b_y15 := ia_b y15
  try simp only [ia_lt, ia_le, ia_eq, ia_m1, ia_0, ia_1, ne_eq, true_and, and_true, false_and, and_false, or_false, false_or, or_true, true_or, not_true_eq_false, not_false_eq_true] at *
  all_goals omega
set_option maxRecDepth 20000 in
theorem lf_f_adv_3 (bt : Nat → Nat) (rlength : Nat) (rmostBytes : Nat) (rplace : Nat) (rtapeF : Nat → Int32) (gq : Nat) (k4 : Nat) (n8 : Nat) (y15 : Int32) (rplaceG_27 : Nat) (rlettersG_30 : Int64) (iv_rreader_0 : rlength ≤ 940) (iv_rreader_1 : rplace ≤ rlength) (iv_rreader_2 : rmostBytes ≤ 900) (hTC : TC bt rtapeF) (hgq : rplace = gq) (j5 : k4 ≤ 940) (j6 : k4 ≤ rlength) (jSk : sk bt rlength rplace = sk bt rlength k4) (hm10 : 940 - k4 < n8 + 1) (jQ : sk bt rlength rplace = k4) (c13 : rlength ≤ rmostBytes) (c14 : k4 < rlength) (e16 : y15 = rtapeF k4) (t17 : bt k4 < 256) (t18 : y15.toInt = ((bt k4 : Nat) : Int) ∨ (128 ≤ bt k4 ∧ y15.toInt = ((bt k4 : Nat) : Int) - 256)) (t21 : 97 ≤ y15.toInt) (t22 : y15.toInt ≤ 122) (p31 : rplaceG_27 ≤ rlength) (p32 : rplaceG_27 = rn bt rlength k4) (p33 : k4 < rplaceG_27) (v35 : dcn bt k4 (rplaceG_27 - k4) = 0) (v36 : (rplaceG_27 - k4) ≤ 7) (v37 : rlettersG_30 = Int64.ofNat (p8 bt k4 (rplaceG_27 - k4))) (v38 : LET bt k4 (rplaceG_27 - k4)) : k4 ≤ rplaceG_27 := by
  have b_y15 := ia_b y15
  have b_rlettersG_30 := Int64.toInt_lt rlettersG_30
  try simp only [ia_lt, ia_le, ia_eq, ia_m1, ia_0, ia_1, ne_eq, true_and, and_true, false_and, and_false, or_false, false_or, or_true, true_or, not_true_eq_false, not_false_eq_true] at *
  all_goals omega
set_option maxRecDepth 20000 in
theorem lf_f_adv_4 (bt : Nat → Nat) (rlength : Nat) (rmostBytes : Nat) (rplace : Nat) (rtapeF : Nat → Int32) (gq : Nat) (k4 : Nat) (n8 : Nat) (y15 : Int32) (rplaceG_27 : Nat) (rlettersG_30 : Int64) (iv_rreader_0 : rlength ≤ 940) (iv_rreader_1 : rplace ≤ rlength) (iv_rreader_2 : rmostBytes ≤ 900) (hTC : TC bt rtapeF) (hgq : rplace = gq) (j5 : k4 ≤ 940) (j6 : k4 ≤ rlength) (jSk : sk bt rlength rplace = sk bt rlength k4) (hm10 : 940 - k4 < n8 + 1) (jQ : sk bt rlength rplace = k4) (c13 : rlength ≤ rmostBytes) (c14 : k4 < rlength) (e16 : y15 = rtapeF k4) (t17 : bt k4 < 256) (t18 : y15.toInt = ((bt k4 : Nat) : Int) ∨ (128 ≤ bt k4 ∧ y15.toInt = ((bt k4 : Nat) : Int) - 256)) (t21 : 97 ≤ y15.toInt) (t22 : y15.toInt ≤ 122) (p31 : rplaceG_27 ≤ rlength) (p32 : rplaceG_27 = rn bt rlength k4) (p33 : k4 < rplaceG_27) (v35 : dcn bt k4 (rplaceG_27 - k4) = 0) (v36 : (rplaceG_27 - k4) ≤ 7) (v37 : rlettersG_30 = Int64.ofNat (p8 bt k4 (rplaceG_27 - k4))) (v38 : LET bt k4 (rplaceG_27 - k4)) : rplaceG_27 - k4 ≤ 7 := by
  have b_y15 := ia_b y15
  have b_rlettersG_30 := Int64.toInt_lt rlettersG_30
  try simp only [ia_lt, ia_le, ia_eq, ia_m1, ia_0, ia_1, ne_eq, true_and, and_true, false_and, and_false, or_false, false_or, or_true, true_or, not_true_eq_false, not_false_eq_true] at *
  all_goals omega
set_option maxRecDepth 20000 in
theorem lf_f_adv_5 (bt : Nat → Nat) (rlength : Nat) (rmostBytes : Nat) (rplace : Nat) (rtapeF : Nat → Int32) (gq : Nat) (k4 : Nat) (n8 : Nat) (y15 : Int32) (rplaceG_27 : Nat) (rnumberG_29 : Int32) (rlettersG_30 : Int64) (r47 : Int32) (iv_rreader_0 : rlength ≤ 940) (iv_rreader_1 : rplace ≤ rlength) (iv_rreader_2 : rmostBytes ≤ 900) (hTC : TC bt rtapeF) (hgq : rplace = gq) (j5 : k4 ≤ 940) (j6 : k4 ≤ rlength) (jSk : sk bt rlength rplace = sk bt rlength k4) (hm10 : 940 - k4 < n8 + 1) (jQ : sk bt rlength rplace = k4) (c13 : rlength ≤ rmostBytes) (c14 : k4 < rlength) (e16 : y15 = rtapeF k4) (t17 : bt k4 < 256) (t18 : y15.toInt = ((bt k4 : Nat) : Int) ∨ (128 ≤ bt k4 ∧ y15.toInt = ((bt k4 : Nat) : Int) - 256)) (t21 : 97 ≤ y15.toInt) (t22 : y15.toInt ≤ 122) (p31 : rplaceG_27 ≤ rlength) (p32 : rplaceG_27 = rn bt rlength k4) (p33 : k4 < rplaceG_27) (v35 : dcn bt k4 (rplaceG_27 - k4) = 0) (v36 : (rplaceG_27 - k4) ≤ 7) (v37 : rlettersG_30 = Int64.ofNat (p8 bt k4 (rplaceG_27 - k4))) (v38 : LET bt k4 (rplaceG_27 - k4)) (p48 : r47 = nI (if WT0.idxOf (p8 bt k4 (rplaceG_27 - k4)) < 7 then 0 + WT0.idxOf (p8 bt k4 (rplaceG_27 - k4)) else 31)) (c49 : r47 ≠ nI 31) (c50 : r47 ≠ nI 31) : RT bt rlength rmostBytes gq (nI 2) k4 rplaceG_27 r47 rnumberG_29 rlettersG_30 := by
  have q1 : ¬ (rmostBytes < rlength ∧ rmostBytes ≤ k4) := by
    have b_y15 := ia_b y15
    have b_rnumberG_29 := ia_b rnumberG_29
    have b_r47 := ia_b r47
    have b_rlettersG_30 := Int64.toInt_lt rlettersG_30
    try have k_0 := ia_n (if WT0.idxOf (p8 bt k4 (rplaceG_27 - k4)) < 7 then 0 + WT0.idxOf (p8 bt k4 (rplaceG_27 - k4)) else 31) (by first | decide | omega)
    try have k_1 := ia_n 31 (by first | decide | omega)
    try simp only [ia_lt, ia_le, ia_eq, ia_m1, ia_0, ia_1, ne_eq, true_and, and_true, false_and, and_false, or_false, false_or, or_true, true_or, not_true_eq_false, not_false_eq_true] at *
    all_goals omega
  have q2 : k4 < rlength := by
    have b_y15 := ia_b y15
    have b_rnumberG_29 := ia_b rnumberG_29
    have b_r47 := ia_b r47
    have b_rlettersG_30 := Int64.toInt_lt rlettersG_30
    try have k_0 := ia_n (if WT0.idxOf (p8 bt k4 (rplaceG_27 - k4)) < 7 then 0 + WT0.idxOf (p8 bt k4 (rplaceG_27 - k4)) else 31) (by first | decide | omega)
    try have k_1 := ia_n 31 (by first | decide | omega)
    try simp only [ia_lt, ia_le, ia_eq, ia_m1, ia_0, ia_1, ne_eq, true_and, and_true, false_and, and_false, or_false, false_or, or_true, true_or, not_true_eq_false, not_false_eq_true] at *
    all_goals omega
  have q3 : cAl (bt k4) := by
    have h8 := hTC k4 (by omega)
    unfold cAl cLe cDi
    have b_y15 := ia_b y15
    have b_rnumberG_29 := ia_b rnumberG_29
    have b_r47 := ia_b r47
    have b_rlettersG_30 := Int64.toInt_lt rlettersG_30
    try have k_0 := ia_n (if WT0.idxOf (p8 bt k4 (rplaceG_27 - k4)) < 7 then 0 + WT0.idxOf (p8 bt k4 (rplaceG_27 - k4)) else 31) (by first | decide | omega)
    try have k_1 := ia_n 31 (by first | decide | omega)
    try simp only [ia_lt, ia_le, ia_eq, ia_m1, ia_0, ia_1, ne_eq, true_and, and_true, false_and, and_false, or_false, false_or, or_true, true_or, not_true_eq_false, not_false_eq_true] at *
    all_goals omega
  have q4 : rn bt rlength k4 = rplaceG_27 := by omega
  subst hgq
  exact RT_word jQ q1 q2 q3 q4 ‹_› ‹_› (by first | contradiction | exact wx_a ‹_› ‹_› | exact wx_b (wx_0 ‹_› ‹_›) ‹_› ‹_› | exact wx_c (wx_0 ‹_› ‹_›) (wx_1 ‹_› ‹_›) ‹_›) ‹_›
set_option maxRecDepth 20000 in
theorem lf_f_adv_6 (bt : Nat → Nat) (rlength : Nat) (rmostBytes : Nat) (rplace : Nat) (rtapeF : Nat → Int32) (gq : Nat) (k4 : Nat) (n8 : Nat) (y15 : Int32) (rplaceG_27 : Nat) (rlettersG_30 : Int64) (r47 : Int32) (iv_rreader_0 : rlength ≤ 940) (iv_rreader_1 : rplace ≤ rlength) (iv_rreader_2 : rmostBytes ≤ 900) (hTC : TC bt rtapeF) (hgq : rplace = gq) (j5 : k4 ≤ 940) (j6 : k4 ≤ rlength) (jSk : sk bt rlength rplace = sk bt rlength k4) (hm10 : 940 - k4 < n8 + 1) (jQ : sk bt rlength rplace = k4) (c13 : rlength ≤ rmostBytes) (c14 : k4 < rlength) (e16 : y15 = rtapeF k4) (t17 : bt k4 < 256) (t18 : y15.toInt = ((bt k4 : Nat) : Int) ∨ (128 ≤ bt k4 ∧ y15.toInt = ((bt k4 : Nat) : Int) - 256)) (t21 : 97 ≤ y15.toInt) (t22 : y15.toInt ≤ 122) (p31 : rplaceG_27 ≤ rlength) (p32 : rplaceG_27 = rn bt rlength k4) (p33 : k4 < rplaceG_27) (v35 : dcn bt k4 (rplaceG_27 - k4) = 0) (v36 : (rplaceG_27 - k4) ≤ 7) (v37 : rlettersG_30 = Int64.ofNat (p8 bt k4 (rplaceG_27 - k4))) (v38 : LET bt k4 (rplaceG_27 - k4)) (p48 : r47 = nI (if WT0.idxOf (p8 bt k4 (rplaceG_27 - k4)) < 7 then 0 + WT0.idxOf (p8 bt k4 (rplaceG_27 - k4)) else 31)) (c49 : r47 ≠ nI 31) (c50 : r47 = nI 31) : k4 ≤ rplaceG_27 := by
  have b_y15 := ia_b y15
  have b_r47 := ia_b r47
  have b_rlettersG_30 := Int64.toInt_lt rlettersG_30
  try have k_0 := ia_n (if WT0.idxOf (p8 bt k4 (rplaceG_27 - k4)) < 7 then 0 + WT0.idxOf (p8 bt k4 (rplaceG_27 - k4)) else 31) (by first | decide | omega)
  try have k_1 := ia_n 31 (by first | decide | omega)
  try simp only [ia_lt, ia_le, ia_eq, ia_m1, ia_0, ia_1, ne_eq, true_and, and_true, false_and, and_false, or_false, false_or, or_true, true_or, not_true_eq_false, not_false_eq_true] at *
  all_goals omega
set_option maxRecDepth 20000 in
theorem lf_f_adv_7 (bt : Nat → Nat) (rlength : Nat) (rmostBytes : Nat) (rplace : Nat) (rtapeF : Nat → Int32) (gq : Nat) (k4 : Nat) (n8 : Nat) (y15 : Int32) (rplaceG_27 : Nat) (rlettersG_30 : Int64) (r47 : Int32) (iv_rreader_0 : rlength ≤ 940) (iv_rreader_1 : rplace ≤ rlength) (iv_rreader_2 : rmostBytes ≤ 900) (hTC : TC bt rtapeF) (hgq : rplace = gq) (j5 : k4 ≤ 940) (j6 : k4 ≤ rlength) (jSk : sk bt rlength rplace = sk bt rlength k4) (hm10 : 940 - k4 < n8 + 1) (jQ : sk bt rlength rplace = k4) (c13 : rlength ≤ rmostBytes) (c14 : k4 < rlength) (e16 : y15 = rtapeF k4) (t17 : bt k4 < 256) (t18 : y15.toInt = ((bt k4 : Nat) : Int) ∨ (128 ≤ bt k4 ∧ y15.toInt = ((bt k4 : Nat) : Int) - 256)) (t21 : 97 ≤ y15.toInt) (t22 : y15.toInt ≤ 122) (p31 : rplaceG_27 ≤ rlength) (p32 : rplaceG_27 = rn bt rlength k4) (p33 : k4 < rplaceG_27) (v35 : dcn bt k4 (rplaceG_27 - k4) = 0) (v36 : (rplaceG_27 - k4) ≤ 7) (v37 : rlettersG_30 = Int64.ofNat (p8 bt k4 (rplaceG_27 - k4))) (v38 : LET bt k4 (rplaceG_27 - k4)) (p48 : r47 = nI (if WT0.idxOf (p8 bt k4 (rplaceG_27 - k4)) < 7 then 0 + WT0.idxOf (p8 bt k4 (rplaceG_27 - k4)) else 31)) (c49 : r47 ≠ nI 31) (c50 : r47 = nI 31) : rplaceG_27 - k4 ≤ 7 := by
  have b_y15 := ia_b y15
  have b_r47 := ia_b r47
  have b_rlettersG_30 := Int64.toInt_lt rlettersG_30
  try have k_0 := ia_n (if WT0.idxOf (p8 bt k4 (rplaceG_27 - k4)) < 7 then 0 + WT0.idxOf (p8 bt k4 (rplaceG_27 - k4)) else 31) (by first | decide | omega)
  try have k_1 := ia_n 31 (by first | decide | omega)
  try simp only [ia_lt, ia_le, ia_eq, ia_m1, ia_0, ia_1, ne_eq, true_and, and_true, false_and, and_false, or_false, false_or, or_true, true_or, not_true_eq_false, not_false_eq_true] at *
  all_goals omega
set_option maxRecDepth 20000 in
theorem lf_f_adv_8 (bt : Nat → Nat) (rlength : Nat) (rmostBytes : Nat) (rplace : Nat) (rtapeF : Nat → Int32) (gq : Nat) (k4 : Nat) (n8 : Nat) (y15 : Int32) (rplaceG_27 : Nat) (rnumberG_29 : Int32) (rlettersG_30 : Int64) (r47 : Int32) (r53 : Int32) (iv_rreader_0 : rlength ≤ 940) (iv_rreader_1 : rplace ≤ rlength) (iv_rreader_2 : rmostBytes ≤ 900) (hTC : TC bt rtapeF) (hgq : rplace = gq) (j5 : k4 ≤ 940) (j6 : k4 ≤ rlength) (jSk : sk bt rlength rplace = sk bt rlength k4) (hm10 : 940 - k4 < n8 + 1) (jQ : sk bt rlength rplace = k4) (c13 : rlength ≤ rmostBytes) (c14 : k4 < rlength) (e16 : y15 = rtapeF k4) (t17 : bt k4 < 256) (t18 : y15.toInt = ((bt k4 : Nat) : Int) ∨ (128 ≤ bt k4 ∧ y15.toInt = ((bt k4 : Nat) : Int) - 256)) (t21 : 97 ≤ y15.toInt) (t22 : y15.toInt ≤ 122) (p31 : rplaceG_27 ≤ rlength) (p32 : rplaceG_27 = rn bt rlength k4) (p33 : k4 < rplaceG_27) (v35 : dcn bt k4 (rplaceG_27 - k4) = 0) (v36 : (rplaceG_27 - k4) ≤ 7) (v37 : rlettersG_30 = Int64.ofNat (p8 bt k4 (rplaceG_27 - k4))) (v38 : LET bt k4 (rplaceG_27 - k4)) (p48 : r47 = nI (if WT0.idxOf (p8 bt k4 (rplaceG_27 - k4)) < 7 then 0 + WT0.idxOf (p8 bt k4 (rplaceG_27 - k4)) else 31)) (c49 : r47 ≠ nI 31) (c50 : r47 = nI 31) (p54 : r53 = nI (if WT2.idxOf (p8 bt k4 (rplaceG_27 - k4)) < 11 then 20 + WT2.idxOf (p8 bt k4 (rplaceG_27 - k4)) else 31)) : RT bt rlength rmostBytes gq (nI 2) k4 rplaceG_27 r53 rnumberG_29 rlettersG_30 := by
  have q1 : ¬ (rmostBytes < rlength ∧ rmostBytes ≤ k4) := by
    have b_y15 := ia_b y15
    have b_rnumberG_29 := ia_b rnumberG_29
    have b_r47 := ia_b r47
    have b_r53 := ia_b r53
    have b_rlettersG_30 := Int64.toInt_lt rlettersG_30
    try have k_0 := ia_n (if WT0.idxOf (p8 bt k4 (rplaceG_27 - k4)) < 7 then 0 + WT0.idxOf (p8 bt k4 (rplaceG_27 - k4)) else 31) (by first | decide | omega)
    try have k_1 := ia_n 31 (by first | decide | omega)
    try have k_2 := ia_n (if WT2.idxOf (p8 bt k4 (rplaceG_27 - k4)) < 11 then 20 + WT2.idxOf (p8 bt k4 (rplaceG_27 - k4)) else 31) (by first | decide | omega)
    try simp only [ia_lt, ia_le, ia_eq, ia_m1, ia_0, ia_1, ne_eq, true_and, and_true, false_and, and_false, or_false, false_or, or_true, true_or, not_true_eq_false, not_false_eq_true] at *
    all_goals omega
  have q2 : k4 < rlength := by
    have b_y15 := ia_b y15
    have b_rnumberG_29 := ia_b rnumberG_29
    have b_r47 := ia_b r47
    have b_r53 := ia_b r53
    have b_rlettersG_30 := Int64.toInt_lt rlettersG_30
    try have k_0 := ia_n (if WT0.idxOf (p8 bt k4 (rplaceG_27 - k4)) < 7 then 0 + WT0.idxOf (p8 bt k4 (rplaceG_27 - k4)) else 31) (by first | decide | omega)
    try have k_1 := ia_n 31 (by first | decide | omega)
    try have k_2 := ia_n (if WT2.idxOf (p8 bt k4 (rplaceG_27 - k4)) < 11 then 20 + WT2.idxOf (p8 bt k4 (rplaceG_27 - k4)) else 31) (by first | decide | omega)
    try simp only [ia_lt, ia_le, ia_eq, ia_m1, ia_0, ia_1, ne_eq, true_and, and_true, false_and, and_false, or_false, false_or, or_true, true_or, not_true_eq_false, not_false_eq_true] at *
    all_goals omega
  have q3 : cAl (bt k4) := by
    have h8 := hTC k4 (by omega)
    unfold cAl cLe cDi
    have b_y15 := ia_b y15
    have b_rnumberG_29 := ia_b rnumberG_29
    have b_r47 := ia_b r47
    have b_r53 := ia_b r53
    have b_rlettersG_30 := Int64.toInt_lt rlettersG_30
    try have k_0 := ia_n (if WT0.idxOf (p8 bt k4 (rplaceG_27 - k4)) < 7 then 0 + WT0.idxOf (p8 bt k4 (rplaceG_27 - k4)) else 31) (by first | decide | omega)
    try have k_1 := ia_n 31 (by first | decide | omega)
    try have k_2 := ia_n (if WT2.idxOf (p8 bt k4 (rplaceG_27 - k4)) < 11 then 20 + WT2.idxOf (p8 bt k4 (rplaceG_27 - k4)) else 31) (by first | decide | omega)
    try simp only [ia_lt, ia_le, ia_eq, ia_m1, ia_0, ia_1, ne_eq, true_and, and_true, false_and, and_false, or_false, false_or, or_true, true_or, not_true_eq_false, not_false_eq_true] at *
    all_goals omega
  have q4 : rn bt rlength k4 = rplaceG_27 := by omega
  subst hgq
  exact RT_word jQ q1 q2 q3 q4 ‹_› ‹_› (by first | contradiction | exact wx_a ‹_› ‹_› | exact wx_b (wx_0 ‹_› ‹_›) ‹_› ‹_› | exact wx_c (wx_0 ‹_› ‹_›) (wx_1 ‹_› ‹_›) ‹_›) ‹_›
set_option maxRecDepth 20000 in
theorem lf_f_adv_9 (bt : Nat → Nat) (rlength : Nat) (rmostBytes : Nat) (rplace : Nat) (rtapeF : Nat → Int32) (gq : Nat) (k4 : Nat) (n8 : Nat) (y15 : Int32) (rplaceG_27 : Nat) (rlettersG_30 : Int64) (r47 : Int32) (iv_rreader_0 : rlength ≤ 940) (iv_rreader_1 : rplace ≤ rlength) (iv_rreader_2 : rmostBytes ≤ 900) (hTC : TC bt rtapeF) (hgq : rplace = gq) (j5 : k4 ≤ 940) (j6 : k4 ≤ rlength) (jSk : sk bt rlength rplace = sk bt rlength k4) (hm10 : 940 - k4 < n8 + 1) (jQ : sk bt rlength rplace = k4) (c13 : rlength ≤ rmostBytes) (c14 : k4 < rlength) (e16 : y15 = rtapeF k4) (t17 : bt k4 < 256) (t18 : y15.toInt = ((bt k4 : Nat) : Int) ∨ (128 ≤ bt k4 ∧ y15.toInt = ((bt k4 : Nat) : Int) - 256)) (t21 : 97 ≤ y15.toInt) (t22 : y15.toInt ≤ 122) (p31 : rplaceG_27 ≤ rlength) (p32 : rplaceG_27 = rn bt rlength k4) (p33 : k4 < rplaceG_27) (v35 : dcn bt k4 (rplaceG_27 - k4) = 0) (v36 : (rplaceG_27 - k4) ≤ 7) (v37 : rlettersG_30 = Int64.ofNat (p8 bt k4 (rplaceG_27 - k4))) (v38 : LET bt k4 (rplaceG_27 - k4)) (p48 : r47 = nI (if WT0.idxOf (p8 bt k4 (rplaceG_27 - k4)) < 7 then 0 + WT0.idxOf (p8 bt k4 (rplaceG_27 - k4)) else 31)) (c49 : r47 = nI 31) : k4 ≤ rplaceG_27 := by
  have b_y15 := ia_b y15
  have b_r47 := ia_b r47
  have b_rlettersG_30 := Int64.toInt_lt rlettersG_30
  try have k_0 := ia_n (if WT0.idxOf (p8 bt k4 (rplaceG_27 - k4)) < 7 then 0 + WT0.idxOf (p8 bt k4 (rplaceG_27 - k4)) else 31) (by first | decide | omega)
  try have k_1 := ia_n 31 (by first | decide | omega)
  try simp only [ia_lt, ia_le, ia_eq, ia_m1, ia_0, ia_1, ne_eq, true_and, and_true, false_and, and_false, or_false, false_or, or_true, true_or, not_true_eq_false, not_false_eq_true] at *
  all_goals omega
set_option maxRecDepth 20000 in
theorem lf_f_adv_10 (bt : Nat → Nat) (rlength : Nat) (rmostBytes : Nat) (rplace : Nat) (rtapeF : Nat → Int32) (gq : Nat) (k4 : Nat) (n8 : Nat) (y15 : Int32) (rplaceG_27 : Nat) (rlettersG_30 : Int64) (r47 : Int32) (iv_rreader_0 : rlength ≤ 940) (iv_rreader_1 : rplace ≤ rlength) (iv_rreader_2 : rmostBytes ≤ 900) (hTC : TC bt rtapeF) (hgq : rplace = gq) (j5 : k4 ≤ 940) (j6 : k4 ≤ rlength) (jSk : sk bt rlength rplace = sk bt rlength k4) (hm10 : 940 - k4 < n8 + 1) (jQ : sk bt rlength rplace = k4) (c13 : rlength ≤ rmostBytes) (c14 : k4 < rlength) (e16 : y15 = rtapeF k4) (t17 : bt k4 < 256) (t18 : y15.toInt = ((bt k4 : Nat) : Int) ∨ (128 ≤ bt k4 ∧ y15.toInt = ((bt k4 : Nat) : Int) - 256)) (t21 : 97 ≤ y15.toInt) (t22 : y15.toInt ≤ 122) (p31 : rplaceG_27 ≤ rlength) (p32 : rplaceG_27 = rn bt rlength k4) (p33 : k4 < rplaceG_27) (v35 : dcn bt k4 (rplaceG_27 - k4) = 0) (v36 : (rplaceG_27 - k4) ≤ 7) (v37 : rlettersG_30 = Int64.ofNat (p8 bt k4 (rplaceG_27 - k4))) (v38 : LET bt k4 (rplaceG_27 - k4)) (p48 : r47 = nI (if WT0.idxOf (p8 bt k4 (rplaceG_27 - k4)) < 7 then 0 + WT0.idxOf (p8 bt k4 (rplaceG_27 - k4)) else 31)) (c49 : r47 = nI 31) : rplaceG_27 - k4 ≤ 7 := by
  have b_y15 := ia_b y15
  have b_r47 := ia_b r47
  have b_rlettersG_30 := Int64.toInt_lt rlettersG_30
  try have k_0 := ia_n (if WT0.idxOf (p8 bt k4 (rplaceG_27 - k4)) < 7 then 0 + WT0.idxOf (p8 bt k4 (rplaceG_27 - k4)) else 31) (by first | decide | omega)
  try have k_1 := ia_n 31 (by first | decide | omega)
  try simp only [ia_lt, ia_le, ia_eq, ia_m1, ia_0, ia_1, ne_eq, true_and, and_true, false_and, and_false, or_false, false_or, or_true, true_or, not_true_eq_false, not_false_eq_true] at *
  all_goals omega
set_option maxRecDepth 20000 in
theorem lf_f_adv_11 (bt : Nat → Nat) (rlength : Nat) (rmostBytes : Nat) (rplace : Nat) (rtapeF : Nat → Int32) (gq : Nat) (k4 : Nat) (n8 : Nat) (y15 : Int32) (rplaceG_27 : Nat) (rnumberG_29 : Int32) (rlettersG_30 : Int64) (r47 : Int32) (r57 : Int32) (iv_rreader_0 : rlength ≤ 940) (iv_rreader_1 : rplace ≤ rlength) (iv_rreader_2 : rmostBytes ≤ 900) (hTC : TC bt rtapeF) (hgq : rplace = gq) (j5 : k4 ≤ 940) (j6 : k4 ≤ rlength) (jSk : sk bt rlength rplace = sk bt rlength k4) (hm10 : 940 - k4 < n8 + 1) (jQ : sk bt rlength rplace = k4) (c13 : rlength ≤ rmostBytes) (c14 : k4 < rlength) (e16 : y15 = rtapeF k4) (t17 : bt k4 < 256) (t18 : y15.toInt = ((bt k4 : Nat) : Int) ∨ (128 ≤ bt k4 ∧ y15.toInt = ((bt k4 : Nat) : Int) - 256)) (t21 : 97 ≤ y15.toInt) (t22 : y15.toInt ≤ 122) (p31 : rplaceG_27 ≤ rlength) (p32 : rplaceG_27 = rn bt rlength k4) (p33 : k4 < rplaceG_27) (v35 : dcn bt k4 (rplaceG_27 - k4) = 0) (v36 : (rplaceG_27 - k4) ≤ 7) (v37 : rlettersG_30 = Int64.ofNat (p8 bt k4 (rplaceG_27 - k4))) (v38 : LET bt k4 (rplaceG_27 - k4)) (p48 : r47 = nI (if WT0.idxOf (p8 bt k4 (rplaceG_27 - k4)) < 7 then 0 + WT0.idxOf (p8 bt k4 (rplaceG_27 - k4)) else 31)) (c49 : r47 = nI 31) (p58 : r57 = nI (if WT1.idxOf (p8 bt k4 (rplaceG_27 - k4)) < 13 then 7 + WT1.idxOf (p8 bt k4 (rplaceG_27 - k4)) else 31)) (c59 : r57 ≠ nI 31) : RT bt rlength rmostBytes gq (nI 2) k4 rplaceG_27 r57 rnumberG_29 rlettersG_30 := by
  have q1 : ¬ (rmostBytes < rlength ∧ rmostBytes ≤ k4) := by
    have b_y15 := ia_b y15
    have b_rnumberG_29 := ia_b rnumberG_29
    have b_r47 := ia_b r47
    have b_r57 := ia_b r57
    have b_rlettersG_30 := Int64.toInt_lt rlettersG_30
    try have k_0 := ia_n (if WT0.idxOf (p8 bt k4 (rplaceG_27 - k4)) < 7 then 0 + WT0.idxOf (p8 bt k4 (rplaceG_27 - k4)) else 31) (by first | decide | omega)
    try have k_1 := ia_n 31 (by first | decide | omega)
    try have k_2 := ia_n (if WT1.idxOf (p8 bt k4 (rplaceG_27 - k4)) < 13 then 7 + WT1.idxOf (p8 bt k4 (rplaceG_27 - k4)) else 31) (by first | decide | omega)
    try simp only [ia_lt, ia_le, ia_eq, ia_m1, ia_0, ia_1, ne_eq, true_and, and_true, false_and, and_false, or_false, false_or, or_true, true_or, not_true_eq_false, not_false_eq_true] at *
    all_goals omega
  have q2 : k4 < rlength := by
    have b_y15 := ia_b y15
    have b_rnumberG_29 := ia_b rnumberG_29
    have b_r47 := ia_b r47
    have b_r57 := ia_b r57
    have b_rlettersG_30 := Int64.toInt_lt rlettersG_30
    try have k_0 := ia_n (if WT0.idxOf (p8 bt k4 (rplaceG_27 - k4)) < 7 then 0 + WT0.idxOf (p8 bt k4 (rplaceG_27 - k4)) else 31) (by first | decide | omega)
    try have k_1 := ia_n 31 (by first | decide | omega)
    try have k_2 := ia_n (if WT1.idxOf (p8 bt k4 (rplaceG_27 - k4)) < 13 then 7 + WT1.idxOf (p8 bt k4 (rplaceG_27 - k4)) else 31) (by first | decide | omega)
    try simp only [ia_lt, ia_le, ia_eq, ia_m1, ia_0, ia_1, ne_eq, true_and, and_true, false_and, and_false, or_false, false_or, or_true, true_or, not_true_eq_false, not_false_eq_true] at *
    all_goals omega
  have q3 : cAl (bt k4) := by
    have h8 := hTC k4 (by omega)
    unfold cAl cLe cDi
    have b_y15 := ia_b y15
    have b_rnumberG_29 := ia_b rnumberG_29
    have b_r47 := ia_b r47
    have b_r57 := ia_b r57
    have b_rlettersG_30 := Int64.toInt_lt rlettersG_30
    try have k_0 := ia_n (if WT0.idxOf (p8 bt k4 (rplaceG_27 - k4)) < 7 then 0 + WT0.idxOf (p8 bt k4 (rplaceG_27 - k4)) else 31) (by first | decide | omega)
    try have k_1 := ia_n 31 (by first | decide | omega)
    try have k_2 := ia_n (if WT1.idxOf (p8 bt k4 (rplaceG_27 - k4)) < 13 then 7 + WT1.idxOf (p8 bt k4 (rplaceG_27 - k4)) else 31) (by first | decide | omega)
    try simp only [ia_lt, ia_le, ia_eq, ia_m1, ia_0, ia_1, ne_eq, true_and, and_true, false_and, and_false, or_false, false_or, or_true, true_or, not_true_eq_false, not_false_eq_true] at *
    all_goals omega
  have q4 : rn bt rlength k4 = rplaceG_27 := by omega
  subst hgq
  exact RT_word jQ q1 q2 q3 q4 ‹_› ‹_› (by first | contradiction | exact wx_a ‹_› ‹_› | exact wx_b (wx_0 ‹_› ‹_›) ‹_› ‹_› | exact wx_c (wx_0 ‹_› ‹_›) (wx_1 ‹_› ‹_›) ‹_›) ‹_›
set_option maxRecDepth 20000 in
theorem lf_f_adv_12 (bt : Nat → Nat) (rlength : Nat) (rmostBytes : Nat) (rplace : Nat) (rtapeF : Nat → Int32) (gq : Nat) (k4 : Nat) (n8 : Nat) (y15 : Int32) (rplaceG_27 : Nat) (rlettersG_30 : Int64) (r47 : Int32) (r57 : Int32) (iv_rreader_0 : rlength ≤ 940) (iv_rreader_1 : rplace ≤ rlength) (iv_rreader_2 : rmostBytes ≤ 900) (hTC : TC bt rtapeF) (hgq : rplace = gq) (j5 : k4 ≤ 940) (j6 : k4 ≤ rlength) (jSk : sk bt rlength rplace = sk bt rlength k4) (hm10 : 940 - k4 < n8 + 1) (jQ : sk bt rlength rplace = k4) (c13 : rlength ≤ rmostBytes) (c14 : k4 < rlength) (e16 : y15 = rtapeF k4) (t17 : bt k4 < 256) (t18 : y15.toInt = ((bt k4 : Nat) : Int) ∨ (128 ≤ bt k4 ∧ y15.toInt = ((bt k4 : Nat) : Int) - 256)) (t21 : 97 ≤ y15.toInt) (t22 : y15.toInt ≤ 122) (p31 : rplaceG_27 ≤ rlength) (p32 : rplaceG_27 = rn bt rlength k4) (p33 : k4 < rplaceG_27) (v35 : dcn bt k4 (rplaceG_27 - k4) = 0) (v36 : (rplaceG_27 - k4) ≤ 7) (v37 : rlettersG_30 = Int64.ofNat (p8 bt k4 (rplaceG_27 - k4))) (v38 : LET bt k4 (rplaceG_27 - k4)) (p48 : r47 = nI (if WT0.idxOf (p8 bt k4 (rplaceG_27 - k4)) < 7 then 0 + WT0.idxOf (p8 bt k4 (rplaceG_27 - k4)) else 31)) (c49 : r47 = nI 31) (p58 : r57 = nI (if WT1.idxOf (p8 bt k4 (rplaceG_27 - k4)) < 13 then 7 + WT1.idxOf (p8 bt k4 (rplaceG_27 - k4)) else 31)) (c59 : r57 = nI 31) : k4 ≤ rplaceG_27 := by
  have b_y15 := ia_b y15
  have b_r47 := ia_b r47
  have b_r57 := ia_b r57
  have b_rlettersG_30 := Int64.toInt_lt rlettersG_30
  try have k_0 := ia_n (if WT0.idxOf (p8 bt k4 (rplaceG_27 - k4)) < 7 then 0 + WT0.idxOf (p8 bt k4 (rplaceG_27 - k4)) else 31) (by first | decide | omega)
  try have k_1 := ia_n 31 (by first | decide | omega)
  try have k_2 := ia_n (if WT1.idxOf (p8 bt k4 (rplaceG_27 - k4)) < 13 then 7 + WT1.idxOf (p8 bt k4 (rplaceG_27 - k4)) else 31) (by first | decide | omega)
  try simp only [ia_lt, ia_le, ia_eq, ia_m1, ia_0, ia_1, ne_eq, true_and, and_true, false_and, and_false, or_false, false_or, or_true, true_or, not_true_eq_false, not_false_eq_true] at *
  all_goals omega
set_option maxRecDepth 20000 in
theorem lf_f_adv_13 (bt : Nat → Nat) (rlength : Nat) (rmostBytes : Nat) (rplace : Nat) (rtapeF : Nat → Int32) (gq : Nat) (k4 : Nat) (n8 : Nat) (y15 : Int32) (rplaceG_27 : Nat) (rlettersG_30 : Int64) (r47 : Int32) (r57 : Int32) (iv_rreader_0 : rlength ≤ 940) (iv_rreader_1 : rplace ≤ rlength) (iv_rreader_2 : rmostBytes ≤ 900) (hTC : TC bt rtapeF) (hgq : rplace = gq) (j5 : k4 ≤ 940) (j6 : k4 ≤ rlength) (jSk : sk bt rlength rplace = sk bt rlength k4) (hm10 : 940 - k4 < n8 + 1) (jQ : sk bt rlength rplace = k4) (c13 : rlength ≤ rmostBytes) (c14 : k4 < rlength) (e16 : y15 = rtapeF k4) (t17 : bt k4 < 256) (t18 : y15.toInt = ((bt k4 : Nat) : Int) ∨ (128 ≤ bt k4 ∧ y15.toInt = ((bt k4 : Nat) : Int) - 256)) (t21 : 97 ≤ y15.toInt) (t22 : y15.toInt ≤ 122) (p31 : rplaceG_27 ≤ rlength) (p32 : rplaceG_27 = rn bt rlength k4) (p33 : k4 < rplaceG_27) (v35 : dcn bt k4 (rplaceG_27 - k4) = 0) (v36 : (rplaceG_27 - k4) ≤ 7) (v37 : rlettersG_30 = Int64.ofNat (p8 bt k4 (rplaceG_27 - k4))) (v38 : LET bt k4 (rplaceG_27 - k4)) (p48 : r47 = nI (if WT0.idxOf (p8 bt k4 (rplaceG_27 - k4)) < 7 then 0 + WT0.idxOf (p8 bt k4 (rplaceG_27 - k4)) else 31)) (c49 : r47 = nI 31) (p58 : r57 = nI (if WT1.idxOf (p8 bt k4 (rplaceG_27 - k4)) < 13 then 7 + WT1.idxOf (p8 bt k4 (rplaceG_27 - k4)) else 31)) (c59 : r57 = nI 31) : rplaceG_27 - k4 ≤ 7 := by
  have b_y15 := ia_b y15
  have b_r47 := ia_b r47
  have b_r57 := ia_b r57
  have b_rlettersG_30 := Int64.toInt_lt rlettersG_30
  try have k_0 := ia_n (if WT0.idxOf (p8 bt k4 (rplaceG_27 - k4)) < 7 then 0 + WT0.idxOf (p8 bt k4 (rplaceG_27 - k4)) else 31) (by first | decide | omega)
  try have k_1 := ia_n 31 (by first | decide | omega)
  try have k_2 := ia_n (if WT1.idxOf (p8 bt k4 (rplaceG_27 - k4)) < 13 then 7 + WT1.idxOf (p8 bt k4 (rplaceG_27 - k4)) else 31) (by first | decide | omega)
  try simp only [ia_lt, ia_le, ia_eq, ia_m1, ia_0, ia_1, ne_eq, true_and, and_true, false_and, and_false, or_false, false_or, or_true, true_or, not_true_eq_false, not_false_eq_true] at *
  all_goals omega
set_option maxRecDepth 20000 in
theorem lf_f_adv_14 (bt : Nat → Nat) (rlength : Nat) (rmostBytes : Nat) (rplace : Nat) (rtapeF : Nat → Int32) (gq : Nat) (k4 : Nat) (n8 : Nat) (y15 : Int32) (rplaceG_27 : Nat) (rnumberG_29 : Int32) (rlettersG_30 : Int64) (r47 : Int32) (r57 : Int32) (r62 : Int32) (iv_rreader_0 : rlength ≤ 940) (iv_rreader_1 : rplace ≤ rlength) (iv_rreader_2 : rmostBytes ≤ 900) (hTC : TC bt rtapeF) (hgq : rplace = gq) (j5 : k4 ≤ 940) (j6 : k4 ≤ rlength) (jSk : sk bt rlength rplace = sk bt rlength k4) (hm10 : 940 - k4 < n8 + 1) (jQ : sk bt rlength rplace = k4) (c13 : rlength ≤ rmostBytes) (c14 : k4 < rlength) (e16 : y15 = rtapeF k4) (t17 : bt k4 < 256) (t18 : y15.toInt = ((bt k4 : Nat) : Int) ∨ (128 ≤ bt k4 ∧ y15.toInt = ((bt k4 : Nat) : Int) - 256)) (t21 : 97 ≤ y15.toInt) (t22 : y15.toInt ≤ 122) (p31 : rplaceG_27 ≤ rlength) (p32 : rplaceG_27 = rn bt rlength k4) (p33 : k4 < rplaceG_27) (v35 : dcn bt k4 (rplaceG_27 - k4) = 0) (v36 : (rplaceG_27 - k4) ≤ 7) (v37 : rlettersG_30 = Int64.ofNat (p8 bt k4 (rplaceG_27 - k4))) (v38 : LET bt k4 (rplaceG_27 - k4)) (p48 : r47 = nI (if WT0.idxOf (p8 bt k4 (rplaceG_27 - k4)) < 7 then 0 + WT0.idxOf (p8 bt k4 (rplaceG_27 - k4)) else 31)) (c49 : r47 = nI 31) (p58 : r57 = nI (if WT1.idxOf (p8 bt k4 (rplaceG_27 - k4)) < 13 then 7 + WT1.idxOf (p8 bt k4 (rplaceG_27 - k4)) else 31)) (c59 : r57 = nI 31) (p63 : r62 = nI (if WT2.idxOf (p8 bt k4 (rplaceG_27 - k4)) < 11 then 20 + WT2.idxOf (p8 bt k4 (rplaceG_27 - k4)) else 31)) : RT bt rlength rmostBytes gq (nI 2) k4 rplaceG_27 r62 rnumberG_29 rlettersG_30 := by
  have q1 : ¬ (rmostBytes < rlength ∧ rmostBytes ≤ k4) := by
    have b_y15 := ia_b y15
    have b_rnumberG_29 := ia_b rnumberG_29
    have b_r47 := ia_b r47
    have b_r57 := ia_b r57
    have b_r62 := ia_b r62
    have b_rlettersG_30 := Int64.toInt_lt rlettersG_30
    try have k_0 := ia_n (if WT0.idxOf (p8 bt k4 (rplaceG_27 - k4)) < 7 then 0 + WT0.idxOf (p8 bt k4 (rplaceG_27 - k4)) else 31) (by first | decide | omega)
    try have k_1 := ia_n 31 (by first | decide | omega)
    try have k_2 := ia_n (if WT1.idxOf (p8 bt k4 (rplaceG_27 - k4)) < 13 then 7 + WT1.idxOf (p8 bt k4 (rplaceG_27 - k4)) else 31) (by first | decide | omega)
    try have k_3 := ia_n (if WT2.idxOf (p8 bt k4 (rplaceG_27 - k4)) < 11 then 20 + WT2.idxOf (p8 bt k4 (rplaceG_27 - k4)) else 31) (by first | decide | omega)
    try simp only [ia_lt, ia_le, ia_eq, ia_m1, ia_0, ia_1, ne_eq, true_and, and_true, false_and, and_false, or_false, false_or, or_true, true_or, not_true_eq_false, not_false_eq_true] at *
    all_goals omega
  have q2 : k4 < rlength := by
    have b_y15 := ia_b y15
    have b_rnumberG_29 := ia_b rnumberG_29
    have b_r47 := ia_b r47
    have b_r57 := ia_b r57
    have b_r62 := ia_b r62
    have b_rlettersG_30 := Int64.toInt_lt rlettersG_30
    try have k_0 := ia_n (if WT0.idxOf (p8 bt k4 (rplaceG_27 - k4)) < 7 then 0 + WT0.idxOf (p8 bt k4 (rplaceG_27 - k4)) else 31) (by first | decide | omega)
    try have k_1 := ia_n 31 (by first | decide | omega)
    try have k_2 := ia_n (if WT1.idxOf (p8 bt k4 (rplaceG_27 - k4)) < 13 then 7 + WT1.idxOf (p8 bt k4 (rplaceG_27 - k4)) else 31) (by first | decide | omega)
    try have k_3 := ia_n (if WT2.idxOf (p8 bt k4 (rplaceG_27 - k4)) < 11 then 20 + WT2.idxOf (p8 bt k4 (rplaceG_27 - k4)) else 31) (by first | decide | omega)
    try simp only [ia_lt, ia_le, ia_eq, ia_m1, ia_0, ia_1, ne_eq, true_and, and_true, false_and, and_false, or_false, false_or, or_true, true_or, not_true_eq_false, not_false_eq_true] at *
    all_goals omega
  have q3 : cAl (bt k4) := by
    have h8 := hTC k4 (by omega)
    unfold cAl cLe cDi
    have b_y15 := ia_b y15
    have b_rnumberG_29 := ia_b rnumberG_29
    have b_r47 := ia_b r47
    have b_r57 := ia_b r57
    have b_r62 := ia_b r62
    have b_rlettersG_30 := Int64.toInt_lt rlettersG_30
    try have k_0 := ia_n (if WT0.idxOf (p8 bt k4 (rplaceG_27 - k4)) < 7 then 0 + WT0.idxOf (p8 bt k4 (rplaceG_27 - k4)) else 31) (by first | decide | omega)
    try have k_1 := ia_n 31 (by first | decide | omega)
    try have k_2 := ia_n (if WT1.idxOf (p8 bt k4 (rplaceG_27 - k4)) < 13 then 7 + WT1.idxOf (p8 bt k4 (rplaceG_27 - k4)) else 31) (by first | decide | omega)
    try have k_3 := ia_n (if WT2.idxOf (p8 bt k4 (rplaceG_27 - k4)) < 11 then 20 + WT2.idxOf (p8 bt k4 (rplaceG_27 - k4)) else 31) (by first | decide | omega)
    try simp only [ia_lt, ia_le, ia_eq, ia_m1, ia_0, ia_1, ne_eq, true_and, and_true, false_and, and_false, or_false, false_or, or_true, true_or, not_true_eq_false, not_false_eq_true] at *
    all_goals omega
  have q4 : rn bt rlength k4 = rplaceG_27 := by omega
  subst hgq
  exact RT_word jQ q1 q2 q3 q4 ‹_› ‹_› (by first | contradiction | exact wx_a ‹_› ‹_› | exact wx_b (wx_0 ‹_› ‹_›) ‹_› ‹_› | exact wx_c (wx_0 ‹_› ‹_›) (wx_1 ‹_› ‹_›) ‹_›) ‹_›
set_option maxRecDepth 20000 in
theorem lf_f_adv_15 (bt : Nat → Nat) (rlength : Nat) (rmostBytes : Nat) (rplace : Nat) (rtapeF : Nat → Int32) (gq : Nat) (k4 : Nat) (n8 : Nat) (y15 : Int32) (rplaceG_27 : Nat) (rnumberG_29 : Int32) (rlettersG_30 : Int64) (iv_rreader_0 : rlength ≤ 940) (iv_rreader_1 : rplace ≤ rlength) (iv_rreader_2 : rmostBytes ≤ 900) (hTC : TC bt rtapeF) (hgq : rplace = gq) (j5 : k4 ≤ 940) (j6 : k4 ≤ rlength) (jSk : sk bt rlength rplace = sk bt rlength k4) (hm10 : 940 - k4 < n8 + 1) (jQ : sk bt rlength rplace = k4) (c13 : rlength ≤ rmostBytes) (c14 : k4 < rlength) (e16 : y15 = rtapeF k4) (t17 : bt k4 < 256) (t18 : y15.toInt = ((bt k4 : Nat) : Int) ∨ (128 ≤ bt k4 ∧ y15.toInt = ((bt k4 : Nat) : Int) - 256)) (t21 : 97 ≤ y15.toInt) (t22 : y15.toInt ≤ 122) (p31 : rplaceG_27 ≤ rlength) (p32 : rplaceG_27 = rn bt rlength k4) (p33 : k4 < rplaceG_27) (v39 : dcn bt k4 (rplaceG_27 - k4) = (rplaceG_27 - k4)) (v40 : (rplaceG_27 - k4) ≤ 3) (v41 : rnumberG_29 = nI (nvn bt k4 (rplaceG_27 - k4))) : RT bt rlength rmostBytes gq (nI 3) k4 rplaceG_27 (-1 : Int32) rnumberG_29 rlettersG_30 := by
  have q1 : ¬ (rmostBytes < rlength ∧ rmostBytes ≤ k4) := by
    have b_y15 := ia_b y15
    have b_rnumberG_29 := ia_b rnumberG_29
    have b_rlettersG_30 := Int64.toInt_lt rlettersG_30
    try have k_0 := ia_n (nvn bt k4 (rplaceG_27 - k4)) (by first | decide | omega)
    try simp only [ia_lt, ia_le, ia_eq, ia_m1, ia_0, ia_1, ne_eq, true_and, and_true, false_and, and_false, or_false, false_or, or_true, true_or, not_true_eq_false, not_false_eq_true] at *
    all_goals omega
  have q2 : k4 < rlength := by
    have b_y15 := ia_b y15
    have b_rnumberG_29 := ia_b rnumberG_29
    have b_rlettersG_30 := Int64.toInt_lt rlettersG_30
    try have k_0 := ia_n (nvn bt k4 (rplaceG_27 - k4)) (by first | decide | omega)
    try simp only [ia_lt, ia_le, ia_eq, ia_m1, ia_0, ia_1, ne_eq, true_and, and_true, false_and, and_false, or_false, false_or, or_true, true_or, not_true_eq_false, not_false_eq_true] at *
    all_goals omega
  have q3 : cAl (bt k4) := by
    have h8 := hTC k4 (by omega)
    unfold cAl cLe cDi
    have b_y15 := ia_b y15
    have b_rnumberG_29 := ia_b rnumberG_29
    have b_rlettersG_30 := Int64.toInt_lt rlettersG_30
    try have k_0 := ia_n (nvn bt k4 (rplaceG_27 - k4)) (by first | decide | omega)
    try simp only [ia_lt, ia_le, ia_eq, ia_m1, ia_0, ia_1, ne_eq, true_and, and_true, false_and, and_false, or_false, false_or, or_true, true_or, not_true_eq_false, not_false_eq_true] at *
    all_goals omega
  have q4 : rn bt rlength k4 = rplaceG_27 := by omega
  subst hgq
  exact RT_num jQ q1 q2 q3 q4 ‹_› ‹_› ‹_›
set_option maxRecDepth 20000 in
theorem lf_f_adv_16 (bt : Nat → Nat) (rlength : Nat) (rmostBytes : Nat) (rplace : Nat) (rtapeF : Nat → Int32) (gq : Nat) (k4 : Nat) (n8 : Nat) (y15 : Int32) (rplaceG_27 : Nat) (rnumberG_29 : Int32) (rlettersG_30 : Int64) (iv_rreader_0 : rlength ≤ 940) (iv_rreader_1 : rplace ≤ rlength) (iv_rreader_2 : rmostBytes ≤ 900) (hTC : TC bt rtapeF) (hgq : rplace = gq) (j5 : k4 ≤ 940) (j6 : k4 ≤ rlength) (jSk : sk bt rlength rplace = sk bt rlength k4) (hm10 : 940 - k4 < n8 + 1) (jQ : sk bt rlength rplace = k4) (c13 : rlength ≤ rmostBytes) (c14 : k4 < rlength) (e16 : y15 = rtapeF k4) (t17 : bt k4 < 256) (t18 : y15.toInt = ((bt k4 : Nat) : Int) ∨ (128 ≤ bt k4 ∧ y15.toInt = ((bt k4 : Nat) : Int) - 256)) (t21 : 97 ≤ y15.toInt) (t22 : y15.toInt ≤ 122) (p31 : rplaceG_27 ≤ rlength) (p32 : rplaceG_27 = rn bt rlength k4) (p33 : k4 < rplaceG_27) (v42 : ¬ (dcn bt k4 (rplaceG_27 - k4) = 0 ∧ (rplaceG_27 - k4) ≤ 7)) (v43 : ¬ (dcn bt k4 (rplaceG_27 - k4) = (rplaceG_27 - k4) ∧ (rplaceG_27 - k4) ≤ 3)) : RT bt rlength rmostBytes gq (nI 1) k4 rplaceG_27 (-1 : Int32) rnumberG_29 rlettersG_30 := by
  have q1 : ¬ (rmostBytes < rlength ∧ rmostBytes ≤ k4) := by
    have b_y15 := ia_b y15
    have b_rnumberG_29 := ia_b rnumberG_29
    have b_rlettersG_30 := Int64.toInt_lt rlettersG_30
    try simp only [ia_lt, ia_le, ia_eq, ia_m1, ia_0, ia_1, ne_eq, true_and, and_true, false_and, and_false, or_false, false_or, or_true, true_or, not_true_eq_false, not_false_eq_true] at *
    all_goals omega
  have q2 : k4 < rlength := by
    have b_y15 := ia_b y15
    have b_rnumberG_29 := ia_b rnumberG_29
    have b_rlettersG_30 := Int64.toInt_lt rlettersG_30
    try simp only [ia_lt, ia_le, ia_eq, ia_m1, ia_0, ia_1, ne_eq, true_and, and_true, false_and, and_false, or_false, false_or, or_true, true_or, not_true_eq_false, not_false_eq_true] at *
    all_goals omega
  have q3 : cAl (bt k4) := by
    have h8 := hTC k4 (by omega)
    unfold cAl cLe cDi
    have b_y15 := ia_b y15
    have b_rnumberG_29 := ia_b rnumberG_29
    have b_rlettersG_30 := Int64.toInt_lt rlettersG_30
    try simp only [ia_lt, ia_le, ia_eq, ia_m1, ia_0, ia_1, ne_eq, true_and, and_true, false_and, and_false, or_false, false_or, or_true, true_or, not_true_eq_false, not_false_eq_true] at *
    all_goals omega
  have q4 : rn bt rlength k4 = rplaceG_27 := by omega
  subst hgq
  exact RT_bad jQ q1 q2 q3 q4 ‹_› ‹_›
set_option maxRecDepth 20000 in
theorem lf_f_adv_17 (bt : Nat → Nat) (rlength : Nat) (rmostBytes : Nat) (rplace : Nat) (rtapeF : Nat → Int32) (gq : Nat) (k4 : Nat) (n8 : Nat) (y15 : Int32) (y67 : Int32) (iv_rreader_0 : rlength ≤ 940) (iv_rreader_1 : rplace ≤ rlength) (iv_rreader_2 : rmostBytes ≤ 900) (hTC : TC bt rtapeF) (hgq : rplace = gq) (j5 : k4 ≤ 940) (j6 : k4 ≤ rlength) (jSk : sk bt rlength rplace = sk bt rlength k4) (hm10 : 940 - k4 < n8 + 1) (jQ : sk bt rlength rplace = k4) (c13 : rlength ≤ rmostBytes) (c14 : k4 < rlength) (e16 : y15 = rtapeF k4) (t17 : bt k4 < 256) (t18 : y15.toInt = ((bt k4 : Nat) : Int) ∨ (128 ≤ bt k4 ∧ y15.toInt = ((bt k4 : Nat) : Int) - 256)) (t23 : ¬ (97 ≤ y15.toInt ∧ y15.toInt ≤ 122)) (e68 : y67 = rtapeF k4) (t69 : bt k4 < 256) (t70 : y67.toInt = ((bt k4 : Nat) : Int) ∨ (128 ≤ bt k4 ∧ y67.toInt = ((bt k4 : Nat) : Int) - 256)) (t73 : 48 ≤ y67.toInt) (t74 : y67.toInt ≤ 57) : k4 = k4 := by
  have b_y15 := ia_b y15
  have b_y67 := ia_b y67
  try simp only [ia_lt, ia_le, ia_eq, ia_m1, ia_0, ia_1, ne_eq, true_and, and_true, false_and, and_false, or_false, false_or, or_true, true_or, not_true_eq_false, not_false_eq_true] at *
  all_goals omega
set_option maxRecDepth 20000 in
theorem lf_f_adv_18 (bt : Nat → Nat) (rlength : Nat) (rmostBytes : Nat) (rplace : Nat) (rtapeF : Nat → Int32) (gq : Nat) (k4 : Nat) (n8 : Nat) (y15 : Int32) (y67 : Int32) (iv_rreader_0 : rlength ≤ 940) (iv_rreader_1 : rplace ≤ rlength) (iv_rreader_2 : rmostBytes ≤ 900) (hTC : TC bt rtapeF) (hgq : rplace = gq) (j5 : k4 ≤ 940) (j6 : k4 ≤ rlength) (jSk : sk bt rlength rplace = sk bt rlength k4) (hm10 : 940 - k4 < n8 + 1) (jQ : sk bt rlength rplace = k4) (c13 : rlength ≤ rmostBytes) (c14 : k4 < rlength) (e16 : y15 = rtapeF k4) (t17 : bt k4 < 256) (t18 : y15.toInt = ((bt k4 : Nat) : Int) ∨ (128 ≤ bt k4 ∧ y15.toInt = ((bt k4 : Nat) : Int) - 256)) (t23 : ¬ (97 ≤ y15.toInt ∧ y15.toInt ≤ 122)) (e68 : y67 = rtapeF k4) (t69 : bt k4 < 256) (t70 : y67.toInt = ((bt k4 : Nat) : Int) ∨ (128 ≤ bt k4 ∧ y67.toInt = ((bt k4 : Nat) : Int) - 256)) (t73 : 48 ≤ y67.toInt) (t74 : y67.toInt ≤ 57) : cAl (bt k4) := by
  have h8 := hTC k4 (by omega)
  unfold cAl cLe cDi
  have b_y15 := ia_b y15
  have b_y67 := ia_b y67
  try simp only [ia_lt, ia_le, ia_eq, ia_m1, ia_0, ia_1, ne_eq, true_and, and_true, false_and, and_false, or_false, false_or, or_true, true_or, not_true_eq_false, not_false_eq_true] at *
  all_goals omega
set_option maxRecDepth 20000 in
theorem lf_f_adv_19 (bt : Nat → Nat) (rlength : Nat) (rmostBytes : Nat) (rplace : Nat) (rtapeF : Nat → Int32) (gq : Nat) (k4 : Nat) (n8 : Nat) (y15 : Int32) (y67 : Int32) (rplaceG_79 : Nat) (rlettersG_82 : Int64) (iv_rreader_0 : rlength ≤ 940) (iv_rreader_1 : rplace ≤ rlength) (iv_rreader_2 : rmostBytes ≤ 900) (hTC : TC bt rtapeF) (hgq : rplace = gq) (j5 : k4 ≤ 940) (j6 : k4 ≤ rlength) (jSk : sk bt rlength rplace = sk bt rlength k4) (hm10 : 940 - k4 < n8 + 1) (jQ : sk bt rlength rplace = k4) (c13 : rlength ≤ rmostBytes) (c14 : k4 < rlength) (e16 : y15 = rtapeF k4) (t17 : bt k4 < 256) (t18 : y15.toInt = ((bt k4 : Nat) : Int) ∨ (128 ≤ bt k4 ∧ y15.toInt = ((bt k4 : Nat) : Int) - 256)) (t23 : ¬ (97 ≤ y15.toInt ∧ y15.toInt ≤ 122)) (e68 : y67 = rtapeF k4) (t69 : bt k4 < 256) (t70 : y67.toInt = ((bt k4 : Nat) : Int) ∨ (128 ≤ bt k4 ∧ y67.toInt = ((bt k4 : Nat) : Int) - 256)) (t73 : 48 ≤ y67.toInt) (t74 : y67.toInt ≤ 57) (p83 : rplaceG_79 ≤ rlength) (p84 : rplaceG_79 = rn bt rlength k4) (p85 : k4 < rplaceG_79) (v87 : dcn bt k4 (rplaceG_79 - k4) = 0) (v88 : (rplaceG_79 - k4) ≤ 7) (v89 : rlettersG_82 = Int64.ofNat (p8 bt k4 (rplaceG_79 - k4))) (v90 : LET bt k4 (rplaceG_79 - k4)) : k4 ≤ rplaceG_79 := by
  have b_y15 := ia_b y15
  have b_y67 := ia_b y67
  have b_rlettersG_82 := Int64.toInt_lt rlettersG_82
  try simp only [ia_lt, ia_le, ia_eq, ia_m1, ia_0, ia_1, ne_eq, true_and, and_true, false_and, and_false, or_false, false_or, or_true, true_or, not_true_eq_false, not_false_eq_true] at *
  all_goals omega
set_option maxRecDepth 20000 in
theorem lf_f_adv_20 (bt : Nat → Nat) (rlength : Nat) (rmostBytes : Nat) (rplace : Nat) (rtapeF : Nat → Int32) (gq : Nat) (k4 : Nat) (n8 : Nat) (y15 : Int32) (y67 : Int32) (rplaceG_79 : Nat) (rlettersG_82 : Int64) (iv_rreader_0 : rlength ≤ 940) (iv_rreader_1 : rplace ≤ rlength) (iv_rreader_2 : rmostBytes ≤ 900) (hTC : TC bt rtapeF) (hgq : rplace = gq) (j5 : k4 ≤ 940) (j6 : k4 ≤ rlength) (jSk : sk bt rlength rplace = sk bt rlength k4) (hm10 : 940 - k4 < n8 + 1) (jQ : sk bt rlength rplace = k4) (c13 : rlength ≤ rmostBytes) (c14 : k4 < rlength) (e16 : y15 = rtapeF k4) (t17 : bt k4 < 256) (t18 : y15.toInt = ((bt k4 : Nat) : Int) ∨ (128 ≤ bt k4 ∧ y15.toInt = ((bt k4 : Nat) : Int) - 256)) (t23 : ¬ (97 ≤ y15.toInt ∧ y15.toInt ≤ 122)) (e68 : y67 = rtapeF k4) (t69 : bt k4 < 256) (t70 : y67.toInt = ((bt k4 : Nat) : Int) ∨ (128 ≤ bt k4 ∧ y67.toInt = ((bt k4 : Nat) : Int) - 256)) (t73 : 48 ≤ y67.toInt) (t74 : y67.toInt ≤ 57) (p83 : rplaceG_79 ≤ rlength) (p84 : rplaceG_79 = rn bt rlength k4) (p85 : k4 < rplaceG_79) (v87 : dcn bt k4 (rplaceG_79 - k4) = 0) (v88 : (rplaceG_79 - k4) ≤ 7) (v89 : rlettersG_82 = Int64.ofNat (p8 bt k4 (rplaceG_79 - k4))) (v90 : LET bt k4 (rplaceG_79 - k4)) : rplaceG_79 - k4 ≤ 7 := by
  have b_y15 := ia_b y15
  have b_y67 := ia_b y67
  have b_rlettersG_82 := Int64.toInt_lt rlettersG_82
  try simp only [ia_lt, ia_le, ia_eq, ia_m1, ia_0, ia_1, ne_eq, true_and, and_true, false_and, and_false, or_false, false_or, or_true, true_or, not_true_eq_false, not_false_eq_true] at *
  all_goals omega
set_option maxRecDepth 20000 in
theorem lf_f_adv_21 (bt : Nat → Nat) (rlength : Nat) (rmostBytes : Nat) (rplace : Nat) (rtapeF : Nat → Int32) (gq : Nat) (k4 : Nat) (n8 : Nat) (y15 : Int32) (y67 : Int32) (rplaceG_79 : Nat) (rnumberG_81 : Int32) (rlettersG_82 : Int64) (r99 : Int32) (iv_rreader_0 : rlength ≤ 940) (iv_rreader_1 : rplace ≤ rlength) (iv_rreader_2 : rmostBytes ≤ 900) (hTC : TC bt rtapeF) (hgq : rplace = gq) (j5 : k4 ≤ 940) (j6 : k4 ≤ rlength) (jSk : sk bt rlength rplace = sk bt rlength k4) (hm10 : 940 - k4 < n8 + 1) (jQ : sk bt rlength rplace = k4) (c13 : rlength ≤ rmostBytes) (c14 : k4 < rlength) (e16 : y15 = rtapeF k4) (t17 : bt k4 < 256) (t18 : y15.toInt = ((bt k4 : Nat) : Int) ∨ (128 ≤ bt k4 ∧ y15.toInt = ((bt k4 : Nat) : Int) - 256)) (t23 : ¬ (97 ≤ y15.toInt ∧ y15.toInt ≤ 122)) (e68 : y67 = rtapeF k4) (t69 : bt k4 < 256) (t70 : y67.toInt = ((bt k4 : Nat) : Int) ∨ (128 ≤ bt k4 ∧ y67.toInt = ((bt k4 : Nat) : Int) - 256)) (t73 : 48 ≤ y67.toInt) (t74 : y67.toInt ≤ 57) (p83 : rplaceG_79 ≤ rlength) (p84 : rplaceG_79 = rn bt rlength k4) (p85 : k4 < rplaceG_79) (v87 : dcn bt k4 (rplaceG_79 - k4) = 0) (v88 : (rplaceG_79 - k4) ≤ 7) (v89 : rlettersG_82 = Int64.ofNat (p8 bt k4 (rplaceG_79 - k4))) (v90 : LET bt k4 (rplaceG_79 - k4)) (p100 : r99 = nI (if WT0.idxOf (p8 bt k4 (rplaceG_79 - k4)) < 7 then 0 + WT0.idxOf (p8 bt k4 (rplaceG_79 - k4)) else 31)) (c101 : r99 ≠ nI 31) (c102 : r99 ≠ nI 31) : RT bt rlength rmostBytes gq (nI 2) k4 rplaceG_79 r99 rnumberG_81 rlettersG_82 := by
  have q1 : ¬ (rmostBytes < rlength ∧ rmostBytes ≤ k4) := by
    have b_y15 := ia_b y15
    have b_y67 := ia_b y67
    have b_rnumberG_81 := ia_b rnumberG_81
    have b_r99 := ia_b r99
    have b_rlettersG_82 := Int64.toInt_lt rlettersG_82
    try have k_0 := ia_n (if WT0.idxOf (p8 bt k4 (rplaceG_79 - k4)) < 7 then 0 + WT0.idxOf (p8 bt k4 (rplaceG_79 - k4)) else 31) (by first | decide | omega)
    try have k_1 := ia_n 31 (by first | decide | omega)
    try simp only [ia_lt, ia_le, ia_eq, ia_m1, ia_0, ia_1, ne_eq, true_and, and_true, false_and, and_false, or_false, false_or, or_true, true_or, not_true_eq_false, not_false_eq_true] at *
    all_goals omega
  have q2 : k4 < rlength := by
    have b_y15 := ia_b y15
    have b_y67 := ia_b y67
    have b_rnumberG_81 := ia_b rnumberG_81
    have b_r99 := ia_b r99
    have b_rlettersG_82 := Int64.toInt_lt rlettersG_82
    try have k_0 := ia_n (if WT0.idxOf (p8 bt k4 (rplaceG_79 - k4)) < 7 then 0 + WT0.idxOf (p8 bt k4 (rplaceG_79 - k4)) else 31) (by first | decide | omega)
    try have k_1 := ia_n 31 (by first | decide | omega)
    try simp only [ia_lt, ia_le, ia_eq, ia_m1, ia_0, ia_1, ne_eq, true_and, and_true, false_and, and_false, or_false, false_or, or_true, true_or, not_true_eq_false, not_false_eq_true] at *
    all_goals omega
  have q3 : cAl (bt k4) := by
    have h8 := hTC k4 (by omega)
    unfold cAl cLe cDi
    have b_y15 := ia_b y15
    have b_y67 := ia_b y67
    have b_rnumberG_81 := ia_b rnumberG_81
    have b_r99 := ia_b r99
    have b_rlettersG_82 := Int64.toInt_lt rlettersG_82
    try have k_0 := ia_n (if WT0.idxOf (p8 bt k4 (rplaceG_79 - k4)) < 7 then 0 + WT0.idxOf (p8 bt k4 (rplaceG_79 - k4)) else 31) (by first | decide | omega)
    try have k_1 := ia_n 31 (by first | decide | omega)
    try simp only [ia_lt, ia_le, ia_eq, ia_m1, ia_0, ia_1, ne_eq, true_and, and_true, false_and, and_false, or_false, false_or, or_true, true_or, not_true_eq_false, not_false_eq_true] at *
    all_goals omega
  have q4 : rn bt rlength k4 = rplaceG_79 := by omega
  subst hgq
  exact RT_word jQ q1 q2 q3 q4 ‹_› ‹_› (by first | contradiction | exact wx_a ‹_› ‹_› | exact wx_b (wx_0 ‹_› ‹_›) ‹_› ‹_› | exact wx_c (wx_0 ‹_› ‹_›) (wx_1 ‹_› ‹_›) ‹_›) ‹_›
set_option maxRecDepth 20000 in
theorem lf_f_adv_22 (bt : Nat → Nat) (rlength : Nat) (rmostBytes : Nat) (rplace : Nat) (rtapeF : Nat → Int32) (gq : Nat) (k4 : Nat) (n8 : Nat) (y15 : Int32) (y67 : Int32) (rplaceG_79 : Nat) (rlettersG_82 : Int64) (r99 : Int32) (iv_rreader_0 : rlength ≤ 940) (iv_rreader_1 : rplace ≤ rlength) (iv_rreader_2 : rmostBytes ≤ 900) (hTC : TC bt rtapeF) (hgq : rplace = gq) (j5 : k4 ≤ 940) (j6 : k4 ≤ rlength) (jSk : sk bt rlength rplace = sk bt rlength k4) (hm10 : 940 - k4 < n8 + 1) (jQ : sk bt rlength rplace = k4) (c13 : rlength ≤ rmostBytes) (c14 : k4 < rlength) (e16 : y15 = rtapeF k4) (t17 : bt k4 < 256) (t18 : y15.toInt = ((bt k4 : Nat) : Int) ∨ (128 ≤ bt k4 ∧ y15.toInt = ((bt k4 : Nat) : Int) - 256)) (t23 : ¬ (97 ≤ y15.toInt ∧ y15.toInt ≤ 122)) (e68 : y67 = rtapeF k4) (t69 : bt k4 < 256) (t70 : y67.toInt = ((bt k4 : Nat) : Int) ∨ (128 ≤ bt k4 ∧ y67.toInt = ((bt k4 : Nat) : Int) - 256)) (t73 : 48 ≤ y67.toInt) (t74 : y67.toInt ≤ 57) (p83 : rplaceG_79 ≤ rlength) (p84 : rplaceG_79 = rn bt rlength k4) (p85 : k4 < rplaceG_79) (v87 : dcn bt k4 (rplaceG_79 - k4) = 0) (v88 : (rplaceG_79 - k4) ≤ 7) (v89 : rlettersG_82 = Int64.ofNat (p8 bt k4 (rplaceG_79 - k4))) (v90 : LET bt k4 (rplaceG_79 - k4)) (p100 : r99 = nI (if WT0.idxOf (p8 bt k4 (rplaceG_79 - k4)) < 7 then 0 + WT0.idxOf (p8 bt k4 (rplaceG_79 - k4)) else 31)) (c101 : r99 ≠ nI 31) (c102 : r99 = nI 31) : k4 ≤ rplaceG_79 := by
  have b_y15 := ia_b y15
  have b_y67 := ia_b y67
  have b_r99 := ia_b r99
  have b_rlettersG_82 := Int64.toInt_lt rlettersG_82
  try have k_0 := ia_n (if WT0.idxOf (p8 bt k4 (rplaceG_79 - k4)) < 7 then 0 + WT0.idxOf (p8 bt k4 (rplaceG_79 - k4)) else 31) (by first | decide | omega)
  try have k_1 := ia_n 31 (by first | decide | omega)
  try simp only [ia_lt, ia_le, ia_eq, ia_m1, ia_0, ia_1, ne_eq, true_and, and_true, false_and, and_false, or_false, false_or, or_true, true_or, not_true_eq_false, not_false_eq_true] at *
  all_goals omega
set_option maxRecDepth 20000 in
theorem lf_f_adv_23 (bt : Nat → Nat) (rlength : Nat) (rmostBytes : Nat) (rplace : Nat) (rtapeF : Nat → Int32) (gq : Nat) (k4 : Nat) (n8 : Nat) (y15 : Int32) (y67 : Int32) (rplaceG_79 : Nat) (rlettersG_82 : Int64) (r99 : Int32) (iv_rreader_0 : rlength ≤ 940) (iv_rreader_1 : rplace ≤ rlength) (iv_rreader_2 : rmostBytes ≤ 900) (hTC : TC bt rtapeF) (hgq : rplace = gq) (j5 : k4 ≤ 940) (j6 : k4 ≤ rlength) (jSk : sk bt rlength rplace = sk bt rlength k4) (hm10 : 940 - k4 < n8 + 1) (jQ : sk bt rlength rplace = k4) (c13 : rlength ≤ rmostBytes) (c14 : k4 < rlength) (e16 : y15 = rtapeF k4) (t17 : bt k4 < 256) (t18 : y15.toInt = ((bt k4 : Nat) : Int) ∨ (128 ≤ bt k4 ∧ y15.toInt = ((bt k4 : Nat) : Int) - 256)) (t23 : ¬ (97 ≤ y15.toInt ∧ y15.toInt ≤ 122)) (e68 : y67 = rtapeF k4) (t69 : bt k4 < 256) (t70 : y67.toInt = ((bt k4 : Nat) : Int) ∨ (128 ≤ bt k4 ∧ y67.toInt = ((bt k4 : Nat) : Int) - 256)) (t73 : 48 ≤ y67.toInt) (t74 : y67.toInt ≤ 57) (p83 : rplaceG_79 ≤ rlength) (p84 : rplaceG_79 = rn bt rlength k4) (p85 : k4 < rplaceG_79) (v87 : dcn bt k4 (rplaceG_79 - k4) = 0) (v88 : (rplaceG_79 - k4) ≤ 7) (v89 : rlettersG_82 = Int64.ofNat (p8 bt k4 (rplaceG_79 - k4))) (v90 : LET bt k4 (rplaceG_79 - k4)) (p100 : r99 = nI (if WT0.idxOf (p8 bt k4 (rplaceG_79 - k4)) < 7 then 0 + WT0.idxOf (p8 bt k4 (rplaceG_79 - k4)) else 31)) (c101 : r99 ≠ nI 31) (c102 : r99 = nI 31) : rplaceG_79 - k4 ≤ 7 := by
  have b_y15 := ia_b y15
  have b_y67 := ia_b y67
  have b_r99 := ia_b r99
  have b_rlettersG_82 := Int64.toInt_lt rlettersG_82
  try have k_0 := ia_n (if WT0.idxOf (p8 bt k4 (rplaceG_79 - k4)) < 7 then 0 + WT0.idxOf (p8 bt k4 (rplaceG_79 - k4)) else 31) (by first | decide | omega)
  try have k_1 := ia_n 31 (by first | decide | omega)
  try simp only [ia_lt, ia_le, ia_eq, ia_m1, ia_0, ia_1, ne_eq, true_and, and_true, false_and, and_false, or_false, false_or, or_true, true_or, not_true_eq_false, not_false_eq_true] at *
  all_goals omega
set_option maxRecDepth 20000 in
theorem lf_f_adv_24 (bt : Nat → Nat) (rlength : Nat) (rmostBytes : Nat) (rplace : Nat) (rtapeF : Nat → Int32) (gq : Nat) (k4 : Nat) (n8 : Nat) (y15 : Int32) (y67 : Int32) (rplaceG_79 : Nat) (rnumberG_81 : Int32) (rlettersG_82 : Int64) (r99 : Int32) (r105 : Int32) (iv_rreader_0 : rlength ≤ 940) (iv_rreader_1 : rplace ≤ rlength) (iv_rreader_2 : rmostBytes ≤ 900) (hTC : TC bt rtapeF) (hgq : rplace = gq) (j5 : k4 ≤ 940) (j6 : k4 ≤ rlength) (jSk : sk bt rlength rplace = sk bt rlength k4) (hm10 : 940 - k4 < n8 + 1) (jQ : sk bt rlength rplace = k4) (c13 : rlength ≤ rmostBytes) (c14 : k4 < rlength) (e16 : y15 = rtapeF k4) (t17 : bt k4 < 256) (t18 : y15.toInt = ((bt k4 : Nat) : Int) ∨ (128 ≤ bt k4 ∧ y15.toInt = ((bt k4 : Nat) : Int) - 256)) (t23 : ¬ (97 ≤ y15.toInt ∧ y15.toInt ≤ 122)) (e68 : y67 = rtapeF k4) (t69 : bt k4 < 256) (t70 : y67.toInt = ((bt k4 : Nat) : Int) ∨ (128 ≤ bt k4 ∧ y67.toInt = ((bt k4 : Nat) : Int) - 256)) (t73 : 48 ≤ y67.toInt) (t74 : y67.toInt ≤ 57) (p83 : rplaceG_79 ≤ rlength) (p84 : rplaceG_79 = rn bt rlength k4) (p85 : k4 < rplaceG_79) (v87 : dcn bt k4 (rplaceG_79 - k4) = 0) (v88 : (rplaceG_79 - k4) ≤ 7) (v89 : rlettersG_82 = Int64.ofNat (p8 bt k4 (rplaceG_79 - k4))) (v90 : LET bt k4 (rplaceG_79 - k4)) (p100 : r99 = nI (if WT0.idxOf (p8 bt k4 (rplaceG_79 - k4)) < 7 then 0 + WT0.idxOf (p8 bt k4 (rplaceG_79 - k4)) else 31)) (c101 : r99 ≠ nI 31) (c102 : r99 = nI 31) (p106 : r105 = nI (if WT2.idxOf (p8 bt k4 (rplaceG_79 - k4)) < 11 then 20 + WT2.idxOf (p8 bt k4 (rplaceG_79 - k4)) else 31)) : RT bt rlength rmostBytes gq (nI 2) k4 rplaceG_79 r105 rnumberG_81 rlettersG_82 := by
  have q1 : ¬ (rmostBytes < rlength ∧ rmostBytes ≤ k4) := by
    have b_y15 := ia_b y15
    have b_y67 := ia_b y67
    have b_rnumberG_81 := ia_b rnumberG_81
    have b_r99 := ia_b r99
    have b_r105 := ia_b r105
    have b_rlettersG_82 := Int64.toInt_lt rlettersG_82
    try have k_0 := ia_n (if WT0.idxOf (p8 bt k4 (rplaceG_79 - k4)) < 7 then 0 + WT0.idxOf (p8 bt k4 (rplaceG_79 - k4)) else 31) (by first | decide | omega)
    try have k_1 := ia_n 31 (by first | decide | omega)
    try have k_2 := ia_n (if WT2.idxOf (p8 bt k4 (rplaceG_79 - k4)) < 11 then 20 + WT2.idxOf (p8 bt k4 (rplaceG_79 - k4)) else 31) (by first | decide | omega)
    try simp only [ia_lt, ia_le, ia_eq, ia_m1, ia_0, ia_1, ne_eq, true_and, and_true, false_and, and_false, or_false, false_or, or_true, true_or, not_true_eq_false, not_false_eq_true] at *
    all_goals omega
  have q2 : k4 < rlength := by
    have b_y15 := ia_b y15
    have b_y67 := ia_b y67
    have b_rnumberG_81 := ia_b rnumberG_81
    have b_r99 := ia_b r99
    have b_r105 := ia_b r105
    have b_rlettersG_82 := Int64.toInt_lt rlettersG_82
    try have k_0 := ia_n (if WT0.idxOf (p8 bt k4 (rplaceG_79 - k4)) < 7 then 0 + WT0.idxOf (p8 bt k4 (rplaceG_79 - k4)) else 31) (by first | decide | omega)
    try have k_1 := ia_n 31 (by first | decide | omega)
    try have k_2 := ia_n (if WT2.idxOf (p8 bt k4 (rplaceG_79 - k4)) < 11 then 20 + WT2.idxOf (p8 bt k4 (rplaceG_79 - k4)) else 31) (by first | decide | omega)
    try simp only [ia_lt, ia_le, ia_eq, ia_m1, ia_0, ia_1, ne_eq, true_and, and_true, false_and, and_false, or_false, false_or, or_true, true_or, not_true_eq_false, not_false_eq_true] at *
    all_goals omega
  have q3 : cAl (bt k4) := by
    have h8 := hTC k4 (by omega)
    unfold cAl cLe cDi
    have b_y15 := ia_b y15
    have b_y67 := ia_b y67
    have b_rnumberG_81 := ia_b rnumberG_81
    have b_r99 := ia_b r99
    have b_r105 := ia_b r105
    have b_rlettersG_82 := Int64.toInt_lt rlettersG_82
    try have k_0 := ia_n (if WT0.idxOf (p8 bt k4 (rplaceG_79 - k4)) < 7 then 0 + WT0.idxOf (p8 bt k4 (rplaceG_79 - k4)) else 31) (by first | decide | omega)
    try have k_1 := ia_n 31 (by first | decide | omega)
    try have k_2 := ia_n (if WT2.idxOf (p8 bt k4 (rplaceG_79 - k4)) < 11 then 20 + WT2.idxOf (p8 bt k4 (rplaceG_79 - k4)) else 31) (by first | decide | omega)
    try simp only [ia_lt, ia_le, ia_eq, ia_m1, ia_0, ia_1, ne_eq, true_and, and_true, false_and, and_false, or_false, false_or, or_true, true_or, not_true_eq_false, not_false_eq_true] at *
    all_goals omega
  have q4 : rn bt rlength k4 = rplaceG_79 := by omega
  subst hgq
  exact RT_word jQ q1 q2 q3 q4 ‹_› ‹_› (by first | contradiction | exact wx_a ‹_› ‹_› | exact wx_b (wx_0 ‹_› ‹_›) ‹_› ‹_› | exact wx_c (wx_0 ‹_› ‹_›) (wx_1 ‹_› ‹_›) ‹_›) ‹_›
set_option maxRecDepth 20000 in
theorem lf_f_adv_25 (bt : Nat → Nat) (rlength : Nat) (rmostBytes : Nat) (rplace : Nat) (rtapeF : Nat → Int32) (gq : Nat) (k4 : Nat) (n8 : Nat) (y15 : Int32) (y67 : Int32) (rplaceG_79 : Nat) (rlettersG_82 : Int64) (r99 : Int32) (iv_rreader_0 : rlength ≤ 940) (iv_rreader_1 : rplace ≤ rlength) (iv_rreader_2 : rmostBytes ≤ 900) (hTC : TC bt rtapeF) (hgq : rplace = gq) (j5 : k4 ≤ 940) (j6 : k4 ≤ rlength) (jSk : sk bt rlength rplace = sk bt rlength k4) (hm10 : 940 - k4 < n8 + 1) (jQ : sk bt rlength rplace = k4) (c13 : rlength ≤ rmostBytes) (c14 : k4 < rlength) (e16 : y15 = rtapeF k4) (t17 : bt k4 < 256) (t18 : y15.toInt = ((bt k4 : Nat) : Int) ∨ (128 ≤ bt k4 ∧ y15.toInt = ((bt k4 : Nat) : Int) - 256)) (t23 : ¬ (97 ≤ y15.toInt ∧ y15.toInt ≤ 122)) (e68 : y67 = rtapeF k4) (t69 : bt k4 < 256) (t70 : y67.toInt = ((bt k4 : Nat) : Int) ∨ (128 ≤ bt k4 ∧ y67.toInt = ((bt k4 : Nat) : Int) - 256)) (t73 : 48 ≤ y67.toInt) (t74 : y67.toInt ≤ 57) (p83 : rplaceG_79 ≤ rlength) (p84 : rplaceG_79 = rn bt rlength k4) (p85 : k4 < rplaceG_79) (v87 : dcn bt k4 (rplaceG_79 - k4) = 0) (v88 : (rplaceG_79 - k4) ≤ 7) (v89 : rlettersG_82 = Int64.ofNat (p8 bt k4 (rplaceG_79 - k4))) (v90 : LET bt k4 (rplaceG_79 - k4)) (p100 : r99 = nI (if WT0.idxOf (p8 bt k4 (rplaceG_79 - k4)) < 7 then 0 + WT0.idxOf (p8 bt k4 (rplaceG_79 - k4)) else 31)) (c101 : r99 = nI 31) : k4 ≤ rplaceG_79 := by
  have b_y15 := ia_b y15
  have b_y67 := ia_b y67
  have b_r99 := ia_b r99
  have b_rlettersG_82 := Int64.toInt_lt rlettersG_82
  try have k_0 := ia_n (if WT0.idxOf (p8 bt k4 (rplaceG_79 - k4)) < 7 then 0 + WT0.idxOf (p8 bt k4 (rplaceG_79 - k4)) else 31) (by first | decide | omega)
  try have k_1 := ia_n 31 (by first | decide | omega)
  try simp only [ia_lt, ia_le, ia_eq, ia_m1, ia_0, ia_1, ne_eq, true_and, and_true, false_and, and_false, or_false, false_or, or_true, true_or, not_true_eq_false, not_false_eq_true] at *
  all_goals omega
set_option maxRecDepth 20000 in
theorem lf_f_adv_26 (bt : Nat → Nat) (rlength : Nat) (rmostBytes : Nat) (rplace : Nat) (rtapeF : Nat → Int32) (gq : Nat) (k4 : Nat) (n8 : Nat) (y15 : Int32) (y67 : Int32) (rplaceG_79 : Nat) (rlettersG_82 : Int64) (r99 : Int32) (iv_rreader_0 : rlength ≤ 940) (iv_rreader_1 : rplace ≤ rlength) (iv_rreader_2 : rmostBytes ≤ 900) (hTC : TC bt rtapeF) (hgq : rplace = gq) (j5 : k4 ≤ 940) (j6 : k4 ≤ rlength) (jSk : sk bt rlength rplace = sk bt rlength k4) (hm10 : 940 - k4 < n8 + 1) (jQ : sk bt rlength rplace = k4) (c13 : rlength ≤ rmostBytes) (c14 : k4 < rlength) (e16 : y15 = rtapeF k4) (t17 : bt k4 < 256) (t18 : y15.toInt = ((bt k4 : Nat) : Int) ∨ (128 ≤ bt k4 ∧ y15.toInt = ((bt k4 : Nat) : Int) - 256)) (t23 : ¬ (97 ≤ y15.toInt ∧ y15.toInt ≤ 122)) (e68 : y67 = rtapeF k4) (t69 : bt k4 < 256) (t70 : y67.toInt = ((bt k4 : Nat) : Int) ∨ (128 ≤ bt k4 ∧ y67.toInt = ((bt k4 : Nat) : Int) - 256)) (t73 : 48 ≤ y67.toInt) (t74 : y67.toInt ≤ 57) (p83 : rplaceG_79 ≤ rlength) (p84 : rplaceG_79 = rn bt rlength k4) (p85 : k4 < rplaceG_79) (v87 : dcn bt k4 (rplaceG_79 - k4) = 0) (v88 : (rplaceG_79 - k4) ≤ 7) (v89 : rlettersG_82 = Int64.ofNat (p8 bt k4 (rplaceG_79 - k4))) (v90 : LET bt k4 (rplaceG_79 - k4)) (p100 : r99 = nI (if WT0.idxOf (p8 bt k4 (rplaceG_79 - k4)) < 7 then 0 + WT0.idxOf (p8 bt k4 (rplaceG_79 - k4)) else 31)) (c101 : r99 = nI 31) : rplaceG_79 - k4 ≤ 7 := by
  have b_y15 := ia_b y15
  have b_y67 := ia_b y67
  have b_r99 := ia_b r99
  have b_rlettersG_82 := Int64.toInt_lt rlettersG_82
  try have k_0 := ia_n (if WT0.idxOf (p8 bt k4 (rplaceG_79 - k4)) < 7 then 0 + WT0.idxOf (p8 bt k4 (rplaceG_79 - k4)) else 31) (by first | decide | omega)
  try have k_1 := ia_n 31 (by first | decide | omega)
  try simp only [ia_lt, ia_le, ia_eq, ia_m1, ia_0, ia_1, ne_eq, true_and, and_true, false_and, and_false, or_false, false_or, or_true, true_or, not_true_eq_false, not_false_eq_true] at *
  all_goals omega
set_option maxRecDepth 20000 in
theorem lf_f_adv_27 (bt : Nat → Nat) (rlength : Nat) (rmostBytes : Nat) (rplace : Nat) (rtapeF : Nat → Int32) (gq : Nat) (k4 : Nat) (n8 : Nat) (y15 : Int32) (y67 : Int32) (rplaceG_79 : Nat) (rnumberG_81 : Int32) (rlettersG_82 : Int64) (r99 : Int32) (r109 : Int32) (iv_rreader_0 : rlength ≤ 940) (iv_rreader_1 : rplace ≤ rlength) (iv_rreader_2 : rmostBytes ≤ 900) (hTC : TC bt rtapeF) (hgq : rplace = gq) (j5 : k4 ≤ 940) (j6 : k4 ≤ rlength) (jSk : sk bt rlength rplace = sk bt rlength k4) (hm10 : 940 - k4 < n8 + 1) (jQ : sk bt rlength rplace = k4) (c13 : rlength ≤ rmostBytes) (c14 : k4 < rlength) (e16 : y15 = rtapeF k4) (t17 : bt k4 < 256) (t18 : y15.toInt = ((bt k4 : Nat) : Int) ∨ (128 ≤ bt k4 ∧ y15.toInt = ((bt k4 : Nat) : Int) - 256)) (t23 : ¬ (97 ≤ y15.toInt ∧ y15.toInt ≤ 122)) (e68 : y67 = rtapeF k4) (t69 : bt k4 < 256) (t70 : y67.toInt = ((bt k4 : Nat) : Int) ∨ (128 ≤ bt k4 ∧ y67.toInt = ((bt k4 : Nat) : Int) - 256)) (t73 : 48 ≤ y67.toInt) (t74 : y67.toInt ≤ 57) (p83 : rplaceG_79 ≤ rlength) (p84 : rplaceG_79 = rn bt rlength k4) (p85 : k4 < rplaceG_79) (v87 : dcn bt k4 (rplaceG_79 - k4) = 0) (v88 : (rplaceG_79 - k4) ≤ 7) (v89 : rlettersG_82 = Int64.ofNat (p8 bt k4 (rplaceG_79 - k4))) (v90 : LET bt k4 (rplaceG_79 - k4)) (p100 : r99 = nI (if WT0.idxOf (p8 bt k4 (rplaceG_79 - k4)) < 7 then 0 + WT0.idxOf (p8 bt k4 (rplaceG_79 - k4)) else 31)) (c101 : r99 = nI 31) (p110 : r109 = nI (if WT1.idxOf (p8 bt k4 (rplaceG_79 - k4)) < 13 then 7 + WT1.idxOf (p8 bt k4 (rplaceG_79 - k4)) else 31)) (c111 : r109 ≠ nI 31) : RT bt rlength rmostBytes gq (nI 2) k4 rplaceG_79 r109 rnumberG_81 rlettersG_82 := by
  have q1 : ¬ (rmostBytes < rlength ∧ rmostBytes ≤ k4) := by
    have b_y15 := ia_b y15
    have b_y67 := ia_b y67
    have b_rnumberG_81 := ia_b rnumberG_81
    have b_r99 := ia_b r99
    have b_r109 := ia_b r109
    have b_rlettersG_82 := Int64.toInt_lt rlettersG_82
    try have k_0 := ia_n (if WT0.idxOf (p8 bt k4 (rplaceG_79 - k4)) < 7 then 0 + WT0.idxOf (p8 bt k4 (rplaceG_79 - k4)) else 31) (by first | decide | omega)
    try have k_1 := ia_n 31 (by first | decide | omega)
    try have k_2 := ia_n (if WT1.idxOf (p8 bt k4 (rplaceG_79 - k4)) < 13 then 7 + WT1.idxOf (p8 bt k4 (rplaceG_79 - k4)) else 31) (by first | decide | omega)
    try simp only [ia_lt, ia_le, ia_eq, ia_m1, ia_0, ia_1, ne_eq, true_and, and_true, false_and, and_false, or_false, false_or, or_true, true_or, not_true_eq_false, not_false_eq_true] at *
    all_goals omega
  have q2 : k4 < rlength := by
    have b_y15 := ia_b y15
    have b_y67 := ia_b y67
    have b_rnumberG_81 := ia_b rnumberG_81
    have b_r99 := ia_b r99
    have b_r109 := ia_b r109
    have b_rlettersG_82 := Int64.toInt_lt rlettersG_82
    try have k_0 := ia_n (if WT0.idxOf (p8 bt k4 (rplaceG_79 - k4)) < 7 then 0 + WT0.idxOf (p8 bt k4 (rplaceG_79 - k4)) else 31) (by first | decide | omega)
    try have k_1 := ia_n 31 (by first | decide | omega)
    try have k_2 := ia_n (if WT1.idxOf (p8 bt k4 (rplaceG_79 - k4)) < 13 then 7 + WT1.idxOf (p8 bt k4 (rplaceG_79 - k4)) else 31) (by first | decide | omega)
    try simp only [ia_lt, ia_le, ia_eq, ia_m1, ia_0, ia_1, ne_eq, true_and, and_true, false_and, and_false, or_false, false_or, or_true, true_or, not_true_eq_false, not_false_eq_true] at *
    all_goals omega
  have q3 : cAl (bt k4) := by
    have h8 := hTC k4 (by omega)
    unfold cAl cLe cDi
    have b_y15 := ia_b y15
    have b_y67 := ia_b y67
    have b_rnumberG_81 := ia_b rnumberG_81
    have b_r99 := ia_b r99
    have b_r109 := ia_b r109
    have b_rlettersG_82 := Int64.toInt_lt rlettersG_82
    try have k_0 := ia_n (if WT0.idxOf (p8 bt k4 (rplaceG_79 - k4)) < 7 then 0 + WT0.idxOf (p8 bt k4 (rplaceG_79 - k4)) else 31) (by first | decide | omega)
    try have k_1 := ia_n 31 (by first | decide | omega)
    try have k_2 := ia_n (if WT1.idxOf (p8 bt k4 (rplaceG_79 - k4)) < 13 then 7 + WT1.idxOf (p8 bt k4 (rplaceG_79 - k4)) else 31) (by first | decide | omega)
    try simp only [ia_lt, ia_le, ia_eq, ia_m1, ia_0, ia_1, ne_eq, true_and, and_true, false_and, and_false, or_false, false_or, or_true, true_or, not_true_eq_false, not_false_eq_true] at *
    all_goals omega
  have q4 : rn bt rlength k4 = rplaceG_79 := by omega
  subst hgq
  exact RT_word jQ q1 q2 q3 q4 ‹_› ‹_› (by first | contradiction | exact wx_a ‹_› ‹_› | exact wx_b (wx_0 ‹_› ‹_›) ‹_› ‹_› | exact wx_c (wx_0 ‹_› ‹_›) (wx_1 ‹_› ‹_›) ‹_›) ‹_›
set_option maxRecDepth 20000 in
theorem lf_f_adv_28 (bt : Nat → Nat) (rlength : Nat) (rmostBytes : Nat) (rplace : Nat) (rtapeF : Nat → Int32) (gq : Nat) (k4 : Nat) (n8 : Nat) (y15 : Int32) (y67 : Int32) (rplaceG_79 : Nat) (rlettersG_82 : Int64) (r99 : Int32) (r109 : Int32) (iv_rreader_0 : rlength ≤ 940) (iv_rreader_1 : rplace ≤ rlength) (iv_rreader_2 : rmostBytes ≤ 900) (hTC : TC bt rtapeF) (hgq : rplace = gq) (j5 : k4 ≤ 940) (j6 : k4 ≤ rlength) (jSk : sk bt rlength rplace = sk bt rlength k4) (hm10 : 940 - k4 < n8 + 1) (jQ : sk bt rlength rplace = k4) (c13 : rlength ≤ rmostBytes) (c14 : k4 < rlength) (e16 : y15 = rtapeF k4) (t17 : bt k4 < 256) (t18 : y15.toInt = ((bt k4 : Nat) : Int) ∨ (128 ≤ bt k4 ∧ y15.toInt = ((bt k4 : Nat) : Int) - 256)) (t23 : ¬ (97 ≤ y15.toInt ∧ y15.toInt ≤ 122)) (e68 : y67 = rtapeF k4) (t69 : bt k4 < 256) (t70 : y67.toInt = ((bt k4 : Nat) : Int) ∨ (128 ≤ bt k4 ∧ y67.toInt = ((bt k4 : Nat) : Int) - 256)) (t73 : 48 ≤ y67.toInt) (t74 : y67.toInt ≤ 57) (p83 : rplaceG_79 ≤ rlength) (p84 : rplaceG_79 = rn bt rlength k4) (p85 : k4 < rplaceG_79) (v87 : dcn bt k4 (rplaceG_79 - k4) = 0) (v88 : (rplaceG_79 - k4) ≤ 7) (v89 : rlettersG_82 = Int64.ofNat (p8 bt k4 (rplaceG_79 - k4))) (v90 : LET bt k4 (rplaceG_79 - k4)) (p100 : r99 = nI (if WT0.idxOf (p8 bt k4 (rplaceG_79 - k4)) < 7 then 0 + WT0.idxOf (p8 bt k4 (rplaceG_79 - k4)) else 31)) (c101 : r99 = nI 31) (p110 : r109 = nI (if WT1.idxOf (p8 bt k4 (rplaceG_79 - k4)) < 13 then 7 + WT1.idxOf (p8 bt k4 (rplaceG_79 - k4)) else 31)) (c111 : r109 = nI 31) : k4 ≤ rplaceG_79 := by
  have b_y15 := ia_b y15
  have b_y67 := ia_b y67
  have b_r99 := ia_b r99
  have b_r109 := ia_b r109
  have b_rlettersG_82 := Int64.toInt_lt rlettersG_82
  try have k_0 := ia_n (if WT0.idxOf (p8 bt k4 (rplaceG_79 - k4)) < 7 then 0 + WT0.idxOf (p8 bt k4 (rplaceG_79 - k4)) else 31) (by first | decide | omega)
  try have k_1 := ia_n 31 (by first | decide | omega)
  try have k_2 := ia_n (if WT1.idxOf (p8 bt k4 (rplaceG_79 - k4)) < 13 then 7 + WT1.idxOf (p8 bt k4 (rplaceG_79 - k4)) else 31) (by first | decide | omega)
  try simp only [ia_lt, ia_le, ia_eq, ia_m1, ia_0, ia_1, ne_eq, true_and, and_true, false_and, and_false, or_false, false_or, or_true, true_or, not_true_eq_false, not_false_eq_true] at *
  all_goals omega
set_option maxRecDepth 20000 in
theorem lf_f_adv_29 (bt : Nat → Nat) (rlength : Nat) (rmostBytes : Nat) (rplace : Nat) (rtapeF : Nat → Int32) (gq : Nat) (k4 : Nat) (n8 : Nat) (y15 : Int32) (y67 : Int32) (rplaceG_79 : Nat) (rlettersG_82 : Int64) (r99 : Int32) (r109 : Int32) (iv_rreader_0 : rlength ≤ 940) (iv_rreader_1 : rplace ≤ rlength) (iv_rreader_2 : rmostBytes ≤ 900) (hTC : TC bt rtapeF) (hgq : rplace = gq) (j5 : k4 ≤ 940) (j6 : k4 ≤ rlength) (jSk : sk bt rlength rplace = sk bt rlength k4) (hm10 : 940 - k4 < n8 + 1) (jQ : sk bt rlength rplace = k4) (c13 : rlength ≤ rmostBytes) (c14 : k4 < rlength) (e16 : y15 = rtapeF k4) (t17 : bt k4 < 256) (t18 : y15.toInt = ((bt k4 : Nat) : Int) ∨ (128 ≤ bt k4 ∧ y15.toInt = ((bt k4 : Nat) : Int) - 256)) (t23 : ¬ (97 ≤ y15.toInt ∧ y15.toInt ≤ 122)) (e68 : y67 = rtapeF k4) (t69 : bt k4 < 256) (t70 : y67.toInt = ((bt k4 : Nat) : Int) ∨ (128 ≤ bt k4 ∧ y67.toInt = ((bt k4 : Nat) : Int) - 256)) (t73 : 48 ≤ y67.toInt) (t74 : y67.toInt ≤ 57) (p83 : rplaceG_79 ≤ rlength) (p84 : rplaceG_79 = rn bt rlength k4) (p85 : k4 < rplaceG_79) (v87 : dcn bt k4 (rplaceG_79 - k4) = 0) (v88 : (rplaceG_79 - k4) ≤ 7) (v89 : rlettersG_82 = Int64.ofNat (p8 bt k4 (rplaceG_79 - k4))) (v90 : LET bt k4 (rplaceG_79 - k4)) (p100 : r99 = nI (if WT0.idxOf (p8 bt k4 (rplaceG_79 - k4)) < 7 then 0 + WT0.idxOf (p8 bt k4 (rplaceG_79 - k4)) else 31)) (c101 : r99 = nI 31) (p110 : r109 = nI (if WT1.idxOf (p8 bt k4 (rplaceG_79 - k4)) < 13 then 7 + WT1.idxOf (p8 bt k4 (rplaceG_79 - k4)) else 31)) (c111 : r109 = nI 31) : rplaceG_79 - k4 ≤ 7 := by
  have b_y15 := ia_b y15
  have b_y67 := ia_b y67
  have b_r99 := ia_b r99
  have b_r109 := ia_b r109
  have b_rlettersG_82 := Int64.toInt_lt rlettersG_82
  try have k_0 := ia_n (if WT0.idxOf (p8 bt k4 (rplaceG_79 - k4)) < 7 then 0 + WT0.idxOf (p8 bt k4 (rplaceG_79 - k4)) else 31) (by first | decide | omega)
  try have k_1 := ia_n 31 (by first | decide | omega)
  try have k_2 := ia_n (if WT1.idxOf (p8 bt k4 (rplaceG_79 - k4)) < 13 then 7 + WT1.idxOf (p8 bt k4 (rplaceG_79 - k4)) else 31) (by first | decide | omega)
  try simp only [ia_lt, ia_le, ia_eq, ia_m1, ia_0, ia_1, ne_eq, true_and, and_true, false_and, and_false, or_false, false_or, or_true, true_or, not_true_eq_false, not_false_eq_true] at *
  all_goals omega
set_option maxRecDepth 20000 in
theorem lf_f_adv_30 (bt : Nat → Nat) (rlength : Nat) (rmostBytes : Nat) (rplace : Nat) (rtapeF : Nat → Int32) (gq : Nat) (k4 : Nat) (n8 : Nat) (y15 : Int32) (y67 : Int32) (rplaceG_79 : Nat) (rnumberG_81 : Int32) (rlettersG_82 : Int64) (r99 : Int32) (r109 : Int32) (r114 : Int32) (iv_rreader_0 : rlength ≤ 940) (iv_rreader_1 : rplace ≤ rlength) (iv_rreader_2 : rmostBytes ≤ 900) (hTC : TC bt rtapeF) (hgq : rplace = gq) (j5 : k4 ≤ 940) (j6 : k4 ≤ rlength) (jSk : sk bt rlength rplace = sk bt rlength k4) (hm10 : 940 - k4 < n8 + 1) (jQ : sk bt rlength rplace = k4) (c13 : rlength ≤ rmostBytes) (c14 : k4 < rlength) (e16 : y15 = rtapeF k4) (t17 : bt k4 < 256) (t18 : y15.toInt = ((bt k4 : Nat) : Int) ∨ (128 ≤ bt k4 ∧ y15.toInt = ((bt k4 : Nat) : Int) - 256)) (t23 : ¬ (97 ≤ y15.toInt ∧ y15.toInt ≤ 122)) (e68 : y67 = rtapeF k4) (t69 : bt k4 < 256) (t70 : y67.toInt = ((bt k4 : Nat) : Int) ∨ (128 ≤ bt k4 ∧ y67.toInt = ((bt k4 : Nat) : Int) - 256)) (t73 : 48 ≤ y67.toInt) (t74 : y67.toInt ≤ 57) (p83 : rplaceG_79 ≤ rlength) (p84 : rplaceG_79 = rn bt rlength k4) (p85 : k4 < rplaceG_79) (v87 : dcn bt k4 (rplaceG_79 - k4) = 0) (v88 : (rplaceG_79 - k4) ≤ 7) (v89 : rlettersG_82 = Int64.ofNat (p8 bt k4 (rplaceG_79 - k4))) (v90 : LET bt k4 (rplaceG_79 - k4)) (p100 : r99 = nI (if WT0.idxOf (p8 bt k4 (rplaceG_79 - k4)) < 7 then 0 + WT0.idxOf (p8 bt k4 (rplaceG_79 - k4)) else 31)) (c101 : r99 = nI 31) (p110 : r109 = nI (if WT1.idxOf (p8 bt k4 (rplaceG_79 - k4)) < 13 then 7 + WT1.idxOf (p8 bt k4 (rplaceG_79 - k4)) else 31)) (c111 : r109 = nI 31) (p115 : r114 = nI (if WT2.idxOf (p8 bt k4 (rplaceG_79 - k4)) < 11 then 20 + WT2.idxOf (p8 bt k4 (rplaceG_79 - k4)) else 31)) : RT bt rlength rmostBytes gq (nI 2) k4 rplaceG_79 r114 rnumberG_81 rlettersG_82 := by
  have q1 : ¬ (rmostBytes < rlength ∧ rmostBytes ≤ k4) := by
    have b_y15 := ia_b y15
    have b_y67 := ia_b y67
    have b_rnumberG_81 := ia_b rnumberG_81
    have b_r99 := ia_b r99
    have b_r109 := ia_b r109
    have b_r114 := ia_b r114
    have b_rlettersG_82 := Int64.toInt_lt rlettersG_82
    try have k_0 := ia_n (if WT0.idxOf (p8 bt k4 (rplaceG_79 - k4)) < 7 then 0 + WT0.idxOf (p8 bt k4 (rplaceG_79 - k4)) else 31) (by first | decide | omega)
    try have k_1 := ia_n 31 (by first | decide | omega)
    try have k_2 := ia_n (if WT1.idxOf (p8 bt k4 (rplaceG_79 - k4)) < 13 then 7 + WT1.idxOf (p8 bt k4 (rplaceG_79 - k4)) else 31) (by first | decide | omega)
    try have k_3 := ia_n (if WT2.idxOf (p8 bt k4 (rplaceG_79 - k4)) < 11 then 20 + WT2.idxOf (p8 bt k4 (rplaceG_79 - k4)) else 31) (by first | decide | omega)
    try simp only [ia_lt, ia_le, ia_eq, ia_m1, ia_0, ia_1, ne_eq, true_and, and_true, false_and, and_false, or_false, false_or, or_true, true_or, not_true_eq_false, not_false_eq_true] at *
    all_goals omega
  have q2 : k4 < rlength := by
    have b_y15 := ia_b y15
    have b_y67 := ia_b y67
    have b_rnumberG_81 := ia_b rnumberG_81
    have b_r99 := ia_b r99
    have b_r109 := ia_b r109
    have b_r114 := ia_b r114
    have b_rlettersG_82 := Int64.toInt_lt rlettersG_82
    try have k_0 := ia_n (if WT0.idxOf (p8 bt k4 (rplaceG_79 - k4)) < 7 then 0 + WT0.idxOf (p8 bt k4 (rplaceG_79 - k4)) else 31) (by first | decide | omega)
    try have k_1 := ia_n 31 (by first | decide | omega)
    try have k_2 := ia_n (if WT1.idxOf (p8 bt k4 (rplaceG_79 - k4)) < 13 then 7 + WT1.idxOf (p8 bt k4 (rplaceG_79 - k4)) else 31) (by first | decide | omega)
    try have k_3 := ia_n (if WT2.idxOf (p8 bt k4 (rplaceG_79 - k4)) < 11 then 20 + WT2.idxOf (p8 bt k4 (rplaceG_79 - k4)) else 31) (by first | decide | omega)
    try simp only [ia_lt, ia_le, ia_eq, ia_m1, ia_0, ia_1, ne_eq, true_and, and_true, false_and, and_false, or_false, false_or, or_true, true_or, not_true_eq_false, not_false_eq_true] at *
    all_goals omega
  have q3 : cAl (bt k4) := by
    have h8 := hTC k4 (by omega)
    unfold cAl cLe cDi
    have b_y15 := ia_b y15
    have b_y67 := ia_b y67
    have b_rnumberG_81 := ia_b rnumberG_81
    have b_r99 := ia_b r99
    have b_r109 := ia_b r109
    have b_r114 := ia_b r114
    have b_rlettersG_82 := Int64.toInt_lt rlettersG_82
    try have k_0 := ia_n (if WT0.idxOf (p8 bt k4 (rplaceG_79 - k4)) < 7 then 0 + WT0.idxOf (p8 bt k4 (rplaceG_79 - k4)) else 31) (by first | decide | omega)
    try have k_1 := ia_n 31 (by first | decide | omega)
    try have k_2 := ia_n (if WT1.idxOf (p8 bt k4 (rplaceG_79 - k4)) < 13 then 7 + WT1.idxOf (p8 bt k4 (rplaceG_79 - k4)) else 31) (by first | decide | omega)
    try have k_3 := ia_n (if WT2.idxOf (p8 bt k4 (rplaceG_79 - k4)) < 11 then 20 + WT2.idxOf (p8 bt k4 (rplaceG_79 - k4)) else 31) (by first | decide | omega)
    try simp only [ia_lt, ia_le, ia_eq, ia_m1, ia_0, ia_1, ne_eq, true_and, and_true, false_and, and_false, or_false, false_or, or_true, true_or, not_true_eq_false, not_false_eq_true] at *
    all_goals omega
  have q4 : rn bt rlength k4 = rplaceG_79 := by omega
  subst hgq
  exact RT_word jQ q1 q2 q3 q4 ‹_› ‹_› (by first | contradiction | exact wx_a ‹_› ‹_› | exact wx_b (wx_0 ‹_› ‹_›) ‹_› ‹_› | exact wx_c (wx_0 ‹_› ‹_›) (wx_1 ‹_› ‹_›) ‹_›) ‹_›
set_option maxRecDepth 20000 in
theorem lf_f_adv_31 (bt : Nat → Nat) (rlength : Nat) (rmostBytes : Nat) (rplace : Nat) (rtapeF : Nat → Int32) (gq : Nat) (k4 : Nat) (n8 : Nat) (y15 : Int32) (y67 : Int32) (rplaceG_79 : Nat) (rnumberG_81 : Int32) (rlettersG_82 : Int64) (iv_rreader_0 : rlength ≤ 940) (iv_rreader_1 : rplace ≤ rlength) (iv_rreader_2 : rmostBytes ≤ 900) (hTC : TC bt rtapeF) (hgq : rplace = gq) (j5 : k4 ≤ 940) (j6 : k4 ≤ rlength) (jSk : sk bt rlength rplace = sk bt rlength k4) (hm10 : 940 - k4 < n8 + 1) (jQ : sk bt rlength rplace = k4) (c13 : rlength ≤ rmostBytes) (c14 : k4 < rlength) (e16 : y15 = rtapeF k4) (t17 : bt k4 < 256) (t18 : y15.toInt = ((bt k4 : Nat) : Int) ∨ (128 ≤ bt k4 ∧ y15.toInt = ((bt k4 : Nat) : Int) - 256)) (t23 : ¬ (97 ≤ y15.toInt ∧ y15.toInt ≤ 122)) (e68 : y67 = rtapeF k4) (t69 : bt k4 < 256) (t70 : y67.toInt = ((bt k4 : Nat) : Int) ∨ (128 ≤ bt k4 ∧ y67.toInt = ((bt k4 : Nat) : Int) - 256)) (t73 : 48 ≤ y67.toInt) (t74 : y67.toInt ≤ 57) (p83 : rplaceG_79 ≤ rlength) (p84 : rplaceG_79 = rn bt rlength k4) (p85 : k4 < rplaceG_79) (v91 : dcn bt k4 (rplaceG_79 - k4) = (rplaceG_79 - k4)) (v92 : (rplaceG_79 - k4) ≤ 3) (v93 : rnumberG_81 = nI (nvn bt k4 (rplaceG_79 - k4))) : RT bt rlength rmostBytes gq (nI 3) k4 rplaceG_79 (-1 : Int32) rnumberG_81 rlettersG_82 := by
  have q1 : ¬ (rmostBytes < rlength ∧ rmostBytes ≤ k4) := by
    have b_y15 := ia_b y15
    have b_y67 := ia_b y67
    have b_rnumberG_81 := ia_b rnumberG_81
    have b_rlettersG_82 := Int64.toInt_lt rlettersG_82
    try have k_0 := ia_n (nvn bt k4 (rplaceG_79 - k4)) (by first | decide | omega)
    try simp only [ia_lt, ia_le, ia_eq, ia_m1, ia_0, ia_1, ne_eq, true_and, and_true, false_and, and_false, or_false, false_or, or_true, true_or, not_true_eq_false, not_false_eq_true] at *
    all_goals omega
  have q2 : k4 < rlength := by
    have b_y15 := ia_b y15
    have b_y67 := ia_b y67
    have b_rnumberG_81 := ia_b rnumberG_81
    have b_rlettersG_82 := Int64.toInt_lt rlettersG_82
    try have k_0 := ia_n (nvn bt k4 (rplaceG_79 - k4)) (by first | decide | omega)
    try simp only [ia_lt, ia_le, ia_eq, ia_m1, ia_0, ia_1, ne_eq, true_and, and_true, false_and, and_false, or_false, false_or, or_true, true_or, not_true_eq_false, not_false_eq_true] at *
    all_goals omega
  have q3 : cAl (bt k4) := by
    have h8 := hTC k4 (by omega)
    unfold cAl cLe cDi
    have b_y15 := ia_b y15
    have b_y67 := ia_b y67
    have b_rnumberG_81 := ia_b rnumberG_81
    have b_rlettersG_82 := Int64.toInt_lt rlettersG_82
    try have k_0 := ia_n (nvn bt k4 (rplaceG_79 - k4)) (by first | decide | omega)
    try simp only [ia_lt, ia_le, ia_eq, ia_m1, ia_0, ia_1, ne_eq, true_and, and_true, false_and, and_false, or_false, false_or, or_true, true_or, not_true_eq_false, not_false_eq_true] at *
    all_goals omega
  have q4 : rn bt rlength k4 = rplaceG_79 := by omega
  subst hgq
  exact RT_num jQ q1 q2 q3 q4 ‹_› ‹_› ‹_›
set_option maxRecDepth 20000 in
theorem lf_f_adv_32 (bt : Nat → Nat) (rlength : Nat) (rmostBytes : Nat) (rplace : Nat) (rtapeF : Nat → Int32) (gq : Nat) (k4 : Nat) (n8 : Nat) (y15 : Int32) (y67 : Int32) (rplaceG_79 : Nat) (rnumberG_81 : Int32) (rlettersG_82 : Int64) (iv_rreader_0 : rlength ≤ 940) (iv_rreader_1 : rplace ≤ rlength) (iv_rreader_2 : rmostBytes ≤ 900) (hTC : TC bt rtapeF) (hgq : rplace = gq) (j5 : k4 ≤ 940) (j6 : k4 ≤ rlength) (jSk : sk bt rlength rplace = sk bt rlength k4) (hm10 : 940 - k4 < n8 + 1) (jQ : sk bt rlength rplace = k4) (c13 : rlength ≤ rmostBytes) (c14 : k4 < rlength) (e16 : y15 = rtapeF k4) (t17 : bt k4 < 256) (t18 : y15.toInt = ((bt k4 : Nat) : Int) ∨ (128 ≤ bt k4 ∧ y15.toInt = ((bt k4 : Nat) : Int) - 256)) (t23 : ¬ (97 ≤ y15.toInt ∧ y15.toInt ≤ 122)) (e68 : y67 = rtapeF k4) (t69 : bt k4 < 256) (t70 : y67.toInt = ((bt k4 : Nat) : Int) ∨ (128 ≤ bt k4 ∧ y67.toInt = ((bt k4 : Nat) : Int) - 256)) (t73 : 48 ≤ y67.toInt) (t74 : y67.toInt ≤ 57) (p83 : rplaceG_79 ≤ rlength) (p84 : rplaceG_79 = rn bt rlength k4) (p85 : k4 < rplaceG_79) (v94 : ¬ (dcn bt k4 (rplaceG_79 - k4) = 0 ∧ (rplaceG_79 - k4) ≤ 7)) (v95 : ¬ (dcn bt k4 (rplaceG_79 - k4) = (rplaceG_79 - k4) ∧ (rplaceG_79 - k4) ≤ 3)) : RT bt rlength rmostBytes gq (nI 1) k4 rplaceG_79 (-1 : Int32) rnumberG_81 rlettersG_82 := by
  have q1 : ¬ (rmostBytes < rlength ∧ rmostBytes ≤ k4) := by
    have b_y15 := ia_b y15
    have b_y67 := ia_b y67
    have b_rnumberG_81 := ia_b rnumberG_81
    have b_rlettersG_82 := Int64.toInt_lt rlettersG_82
    try simp only [ia_lt, ia_le, ia_eq, ia_m1, ia_0, ia_1, ne_eq, true_and, and_true, false_and, and_false, or_false, false_or, or_true, true_or, not_true_eq_false, not_false_eq_true] at *
    all_goals omega
  have q2 : k4 < rlength := by
    have b_y15 := ia_b y15
    have b_y67 := ia_b y67
    have b_rnumberG_81 := ia_b rnumberG_81
    have b_rlettersG_82 := Int64.toInt_lt rlettersG_82
    try simp only [ia_lt, ia_le, ia_eq, ia_m1, ia_0, ia_1, ne_eq, true_and, and_true, false_and, and_false, or_false, false_or, or_true, true_or, not_true_eq_false, not_false_eq_true] at *
    all_goals omega
  have q3 : cAl (bt k4) := by
    have h8 := hTC k4 (by omega)
    unfold cAl cLe cDi
    have b_y15 := ia_b y15
    have b_y67 := ia_b y67
    have b_rnumberG_81 := ia_b rnumberG_81
    have b_rlettersG_82 := Int64.toInt_lt rlettersG_82
    try simp only [ia_lt, ia_le, ia_eq, ia_m1, ia_0, ia_1, ne_eq, true_and, and_true, false_and, and_false, or_false, false_or, or_true, true_or, not_true_eq_false, not_false_eq_true] at *
    all_goals omega
  have q4 : rn bt rlength k4 = rplaceG_79 := by omega
  subst hgq
  exact RT_bad jQ q1 q2 q3 q4 ‹_› ‹_›
set_option maxRecDepth 20000 in
theorem lf_f_adv_33 (bt : Nat → Nat) (rlength : Nat) (rmostBytes : Nat) (rplace : Nat) (rnumber : Int32) (rletters : Int64) (rtapeF : Nat → Int32) (gq : Nat) (k4 : Nat) (n8 : Nat) (y15 : Int32) (y67 : Int32) (rplaceG_121 : Nat) (rkindG_122 : Int32) (iv_rreader_0 : rlength ≤ 940) (iv_rreader_1 : rplace ≤ rlength) (iv_rreader_2 : rmostBytes ≤ 900) (hTC : TC bt rtapeF) (hgq : rplace = gq) (j5 : k4 ≤ 940) (j6 : k4 ≤ rlength) (jSk : sk bt rlength rplace = sk bt rlength k4) (hm10 : 940 - k4 < n8 + 1) (jQ : sk bt rlength rplace = k4) (c13 : rlength ≤ rmostBytes) (c14 : k4 < rlength) (e16 : y15 = rtapeF k4) (t17 : bt k4 < 256) (t18 : y15.toInt = ((bt k4 : Nat) : Int) ∨ (128 ≤ bt k4 ∧ y15.toInt = ((bt k4 : Nat) : Int) - 256)) (t23 : ¬ (97 ≤ y15.toInt ∧ y15.toInt ≤ 122)) (e68 : y67 = rtapeF k4) (t69 : bt k4 < 256) (t70 : y67.toInt = ((bt k4 : Nat) : Int) ∨ (128 ≤ bt k4 ∧ y67.toInt = ((bt k4 : Nat) : Int) - 256)) (t75 : ¬ (48 ≤ y67.toInt ∧ y67.toInt ≤ 57)) (p123 : rplaceG_121 ≤ rlength) (p124 : rplaceG_121 = k4 + 1) (p125 : rkindG_122 = nI (if cSg (bt k4) then bt k4 else 1)) : RT bt rlength rmostBytes gq rkindG_122 k4 rplaceG_121 (-1 : Int32) rnumber rletters := by
  have q1 : ¬ (rmostBytes < rlength ∧ rmostBytes ≤ k4) := by
    have b_rnumber := ia_b rnumber
    have b_y15 := ia_b y15
    have b_y67 := ia_b y67
    have b_rkindG_122 := ia_b rkindG_122
    have b_rletters := Int64.toInt_lt rletters
    try have k_0 := ia_n (if cSg (bt k4) then bt k4 else 1) (by first | decide | omega)
    try simp only [ia_lt, ia_le, ia_eq, ia_m1, ia_0, ia_1, ne_eq, true_and, and_true, false_and, and_false, or_false, false_or, or_true, true_or, not_true_eq_false, not_false_eq_true] at *
    all_goals omega
  have q2 : k4 < rlength := by
    have b_rnumber := ia_b rnumber
    have b_y15 := ia_b y15
    have b_y67 := ia_b y67
    have b_rkindG_122 := ia_b rkindG_122
    have b_rletters := Int64.toInt_lt rletters
    try have k_0 := ia_n (if cSg (bt k4) then bt k4 else 1) (by first | decide | omega)
    try simp only [ia_lt, ia_le, ia_eq, ia_m1, ia_0, ia_1, ne_eq, true_and, and_true, false_and, and_false, or_false, false_or, or_true, true_or, not_true_eq_false, not_false_eq_true] at *
    all_goals omega
  have q3 : ¬ cAl (bt k4) := by
    have h8 := hTC k4 (by omega)
    unfold cAl cLe cDi
    have b_rnumber := ia_b rnumber
    have b_y15 := ia_b y15
    have b_y67 := ia_b y67
    have b_rkindG_122 := ia_b rkindG_122
    have b_rletters := Int64.toInt_lt rletters
    try have k_0 := ia_n (if cSg (bt k4) then bt k4 else 1) (by first | decide | omega)
    try simp only [ia_lt, ia_le, ia_eq, ia_m1, ia_0, ia_1, ne_eq, true_and, and_true, false_and, and_false, or_false, false_or, or_true, true_or, not_true_eq_false, not_false_eq_true] at *
    all_goals omega
  have q4 : rplaceG_121 = k4 + 1 := by omega
  subst hgq
  rw [q4]
  exact RT_sgn jQ q1 q2 q3 ‹_›
set_option maxRecDepth 20000 in
theorem lf_f_adv_34 (bt : Nat → Nat) (rlength : Nat) (rmostBytes : Nat) (rplace : Nat) (rnumber : Int32) (rletters : Int64) (rtapeF : Nat → Int32) (gq : Nat) (k4 : Nat) (n8 : Nat) (iv_rreader_0 : rlength ≤ 940) (iv_rreader_1 : rplace ≤ rlength) (iv_rreader_2 : rmostBytes ≤ 900) (hTC : TC bt rtapeF) (hgq : rplace = gq) (j5 : k4 ≤ 940) (j6 : k4 ≤ rlength) (jSk : sk bt rlength rplace = sk bt rlength k4) (hm10 : 940 - k4 < n8 + 1) (jQ : sk bt rlength rplace = k4) (c13 : rlength ≤ rmostBytes) (c14 : rlength ≤ k4) : RT bt rlength rmostBytes gq (nI 0) k4 k4 (-1 : Int32) rnumber rletters := by
  have q1 : ¬ (rmostBytes < rlength ∧ rmostBytes ≤ k4) := by
    have b_rnumber := ia_b rnumber
    have b_rletters := Int64.toInt_lt rletters
    try simp only [ia_lt, ia_le, ia_eq, ia_m1, ia_0, ia_1, ne_eq, true_and, and_true, false_and, and_false, or_false, false_or, or_true, true_or, not_true_eq_false, not_false_eq_true] at *
    all_goals omega
  have q2 : rlength ≤ k4 := by
    have b_rnumber := ia_b rnumber
    have b_rletters := Int64.toInt_lt rletters
    try simp only [ia_lt, ia_le, ia_eq, ia_m1, ia_0, ia_1, ne_eq, true_and, and_true, false_and, and_false, or_false, false_or, or_true, true_or, not_true_eq_false, not_false_eq_true] at *
    all_goals omega
  subst hgq
  exact RT_end jQ q1 q2
set_option maxRecDepth 20000 in
theorem lf_f_adv_35 (bt : Nat → Nat) (rlength : Nat) (rmostBytes : Nat) (rplace : Nat) (rtapeF : Nat → Int32) (gq : Nat) (k4 : Nat) (n8 : Nat) (y130 : Int32) (iv_rreader_0 : rlength ≤ 940) (iv_rreader_1 : rplace ≤ rlength) (iv_rreader_2 : rmostBytes ≤ 900) (hTC : TC bt rtapeF) (hgq : rplace = gq) (j5 : k4 ≤ 940) (j6 : k4 ≤ rlength) (jSk : sk bt rlength rplace = sk bt rlength k4) (hm10 : 940 - k4 < n8 + 1) (jQ : sk bt rlength rplace = k4) (c13 : rmostBytes < rlength) (c128 : k4 < rmostBytes) (c129 : k4 < rlength) (e131 : y130 = rtapeF k4) (t132 : bt k4 < 256) (t133 : y130.toInt = ((bt k4 : Nat) : Int) ∨ (128 ≤ bt k4 ∧ y130.toInt = ((bt k4 : Nat) : Int) - 256)) (t136 : 97 ≤ y130.toInt) (t137 : y130.toInt ≤ 122) : k4 = k4 := by
  have b_y130 := ia_b y130
  try simp only [ia_lt, ia_le, ia_eq, ia_m1, ia_0, ia_1, ne_eq, true_and, and_true, false_and, and_false, or_false, false_or, or_true, true_or, not_true_eq_false, not_false_eq_true] at *
  all_goals omega
set_option maxRecDepth 20000 in
theorem lf_f_adv_36 (bt : Nat → Nat) (rlength : Nat) (rmostBytes : Nat) (rplace : Nat) (rtapeF : Nat → Int32) (gq : Nat) (k4 : Nat) (n8 : Nat) (y130 : Int32) (iv_rreader_0 : rlength ≤ 940) (iv_rreader_1 : rplace ≤ rlength) (iv_rreader_2 : rmostBytes ≤ 900) (hTC : TC bt rtapeF) (hgq : rplace = gq) (j5 : k4 ≤ 940) (j6 : k4 ≤ rlength) (jSk : sk bt rlength rplace = sk bt rlength k4) (hm10 : 940 - k4 < n8 + 1) (jQ : sk bt rlength rplace = k4) (c13 : rmostBytes < rlength) (c128 : k4 < rmostBytes) (c129 : k4 < rlength) (e131 : y130 = rtapeF k4) (t132 : bt k4 < 256) (t133 : y130.toInt = ((bt k4 : Nat) : Int) ∨ (128 ≤ bt k4 ∧ y130.toInt = ((bt k4 : Nat) : Int) - 256)) (t136 : 97 ≤ y130.toInt) (t137 : y130.toInt ≤ 122) : cAl (bt k4) := by
  have h8 := hTC k4 (by omega)
  unfold cAl cLe cDi
  have b_y130 := ia_b y130
  try simp only [ia_lt, ia_le, ia_eq, ia_m1, ia_0, ia_1, ne_eq, true_and, and_true, false_and, and_false, or_false, false_or, or_true, true_or, not_true_eq_false, not_false_eq_true] at *
  all_goals omega
set_option maxRecDepth 20000 in
theorem lf_f_adv_37 (bt : Nat → Nat) (rlength : Nat) (rmostBytes : Nat) (rplace : Nat) (rtapeF : Nat → Int32) (gq : Nat) (k4 : Nat) (n8 : Nat) (y130 : Int32) (rplaceG_142 : Nat) (rlettersG_145 : Int64) (iv_rreader_0 : rlength ≤ 940) (iv_rreader_1 : rplace ≤ rlength) (iv_rreader_2 : rmostBytes ≤ 900) (hTC : TC bt rtapeF) (hgq : rplace = gq) (j5 : k4 ≤ 940) (j6 : k4 ≤ rlength) (jSk : sk bt rlength rplace = sk bt rlength k4) (hm10 : 940 - k4 < n8 + 1) (jQ : sk bt rlength rplace = k4) (c13 : rmostBytes < rlength) (c128 : k4 < rmostBytes) (c129 : k4 < rlength) (e131 : y130 = rtapeF k4) (t132 : bt k4 < 256) (t133 : y130.toInt = ((bt k4 : Nat) : Int) ∨ (128 ≤ bt k4 ∧ y130.toInt = ((bt k4 : Nat) : Int) - 256)) (t136 : 97 ≤ y130.toInt) (t137 : y130.toInt ≤ 122) (p146 : rplaceG_142 ≤ rlength) (p147 : rplaceG_142 = rn bt rlength k4) (p148 : k4 < rplaceG_142) (v150 : dcn bt k4 (rplaceG_142 - k4) = 0) (v151 : (rplaceG_142 - k4) ≤ 7) (v152 : rlettersG_145 = Int64.ofNat (p8 bt k4 (rplaceG_142 - k4))) (v153 : LET bt k4 (rplaceG_142 - k4)) : k4 ≤ rplaceG_142 := by
  have b_y130 := ia_b y130
  have b_rlettersG_145 := Int64.toInt_lt rlettersG_145
  try simp only [ia_lt, ia_le, ia_eq, ia_m1, ia_0, ia_1, ne_eq, true_and, and_true, false_and, and_false, or_false, false_or, or_true, true_or, not_true_eq_false, not_false_eq_true] at *
  all_goals omega
set_option maxRecDepth 20000 in
theorem lf_f_adv_38 (bt : Nat → Nat) (rlength : Nat) (rmostBytes : Nat) (rplace : Nat) (rtapeF : Nat → Int32) (gq : Nat) (k4 : Nat) (n8 : Nat) (y130 : Int32) (rplaceG_142 : Nat) (rlettersG_145 : Int64) (iv_rreader_0 : rlength ≤ 940) (iv_rreader_1 : rplace ≤ rlength) (iv_rreader_2 : rmostBytes ≤ 900) (hTC : TC bt rtapeF) (hgq : rplace = gq) (j5 : k4 ≤ 940) (j6 : k4 ≤ rlength) (jSk : sk bt rlength rplace = sk bt rlength k4) (hm10 : 940 - k4 < n8 + 1) (jQ : sk bt rlength rplace = k4) (c13 : rmostBytes < rlength) (c128 : k4 < rmostBytes) (c129 : k4 < rlength) (e131 : y130 = rtapeF k4) (t132 : bt k4 < 256) (t133 : y130.toInt = ((bt k4 : Nat) : Int) ∨ (128 ≤ bt k4 ∧ y130.toInt = ((bt k4 : Nat) : Int) - 256)) (t136 : 97 ≤ y130.toInt) (t137 : y130.toInt ≤ 122) (p146 : rplaceG_142 ≤ rlength) (p147 : rplaceG_142 = rn bt rlength k4) (p148 : k4 < rplaceG_142) (v150 : dcn bt k4 (rplaceG_142 - k4) = 0) (v151 : (rplaceG_142 - k4) ≤ 7) (v152 : rlettersG_145 = Int64.ofNat (p8 bt k4 (rplaceG_142 - k4))) (v153 : LET bt k4 (rplaceG_142 - k4)) : rplaceG_142 - k4 ≤ 7 := by
  have b_y130 := ia_b y130
  have b_rlettersG_145 := Int64.toInt_lt rlettersG_145
  try simp only [ia_lt, ia_le, ia_eq, ia_m1, ia_0, ia_1, ne_eq, true_and, and_true, false_and, and_false, or_false, false_or, or_true, true_or, not_true_eq_false, not_false_eq_true] at *
  all_goals omega
set_option maxRecDepth 20000 in
theorem lf_f_adv_39 (bt : Nat → Nat) (rlength : Nat) (rmostBytes : Nat) (rplace : Nat) (rtapeF : Nat → Int32) (gq : Nat) (k4 : Nat) (n8 : Nat) (y130 : Int32) (rplaceG_142 : Nat) (rnumberG_144 : Int32) (rlettersG_145 : Int64) (r162 : Int32) (iv_rreader_0 : rlength ≤ 940) (iv_rreader_1 : rplace ≤ rlength) (iv_rreader_2 : rmostBytes ≤ 900) (hTC : TC bt rtapeF) (hgq : rplace = gq) (j5 : k4 ≤ 940) (j6 : k4 ≤ rlength) (jSk : sk bt rlength rplace = sk bt rlength k4) (hm10 : 940 - k4 < n8 + 1) (jQ : sk bt rlength rplace = k4) (c13 : rmostBytes < rlength) (c128 : k4 < rmostBytes) (c129 : k4 < rlength) (e131 : y130 = rtapeF k4) (t132 : bt k4 < 256) (t133 : y130.toInt = ((bt k4 : Nat) : Int) ∨ (128 ≤ bt k4 ∧ y130.toInt = ((bt k4 : Nat) : Int) - 256)) (t136 : 97 ≤ y130.toInt) (t137 : y130.toInt ≤ 122) (p146 : rplaceG_142 ≤ rlength) (p147 : rplaceG_142 = rn bt rlength k4) (p148 : k4 < rplaceG_142) (v150 : dcn bt k4 (rplaceG_142 - k4) = 0) (v151 : (rplaceG_142 - k4) ≤ 7) (v152 : rlettersG_145 = Int64.ofNat (p8 bt k4 (rplaceG_142 - k4))) (v153 : LET bt k4 (rplaceG_142 - k4)) (p163 : r162 = nI (if WT0.idxOf (p8 bt k4 (rplaceG_142 - k4)) < 7 then 0 + WT0.idxOf (p8 bt k4 (rplaceG_142 - k4)) else 31)) (c164 : r162 ≠ nI 31) (c165 : r162 ≠ nI 31) : RT bt rlength rmostBytes gq (nI 2) k4 rplaceG_142 r162 rnumberG_144 rlettersG_145 := by
  have q1 : ¬ (rmostBytes < rlength ∧ rmostBytes ≤ k4) := by
    have b_y130 := ia_b y130
    have b_rnumberG_144 := ia_b rnumberG_144
    have b_r162 := ia_b r162
    have b_rlettersG_145 := Int64.toInt_lt rlettersG_145
    try have k_0 := ia_n (if WT0.idxOf (p8 bt k4 (rplaceG_142 - k4)) < 7 then 0 + WT0.idxOf (p8 bt k4 (rplaceG_142 - k4)) else 31) (by first | decide | omega)
    try have k_1 := ia_n 31 (by first | decide | omega)
    try simp only [ia_lt, ia_le, ia_eq, ia_m1, ia_0, ia_1, ne_eq, true_and, and_true, false_and, and_false, or_false, false_or, or_true, true_or, not_true_eq_false, not_false_eq_true] at *
    all_goals omega
  have q2 : k4 < rlength := by
    have b_y130 := ia_b y130
    have b_rnumberG_144 := ia_b rnumberG_144
    have b_r162 := ia_b r162
    have b_rlettersG_145 := Int64.toInt_lt rlettersG_145
    try have k_0 := ia_n (if WT0.idxOf (p8 bt k4 (rplaceG_142 - k4)) < 7 then 0 + WT0.idxOf (p8 bt k4 (rplaceG_142 - k4)) else 31) (by first | decide | omega)
    try have k_1 := ia_n 31 (by first | decide | omega)
    try simp only [ia_lt, ia_le, ia_eq, ia_m1, ia_0, ia_1, ne_eq, true_and, and_true, false_and, and_false, or_false, false_or, or_true, true_or, not_true_eq_false, not_false_eq_true] at *
    all_goals omega
  have q3 : cAl (bt k4) := by
    have h8 := hTC k4 (by omega)
    unfold cAl cLe cDi
    have b_y130 := ia_b y130
    have b_rnumberG_144 := ia_b rnumberG_144
    have b_r162 := ia_b r162
    have b_rlettersG_145 := Int64.toInt_lt rlettersG_145
    try have k_0 := ia_n (if WT0.idxOf (p8 bt k4 (rplaceG_142 - k4)) < 7 then 0 + WT0.idxOf (p8 bt k4 (rplaceG_142 - k4)) else 31) (by first | decide | omega)
    try have k_1 := ia_n 31 (by first | decide | omega)
    try simp only [ia_lt, ia_le, ia_eq, ia_m1, ia_0, ia_1, ne_eq, true_and, and_true, false_and, and_false, or_false, false_or, or_true, true_or, not_true_eq_false, not_false_eq_true] at *
    all_goals omega
  have q4 : rn bt rlength k4 = rplaceG_142 := by omega
  subst hgq
  exact RT_word jQ q1 q2 q3 q4 ‹_› ‹_› (by first | contradiction | exact wx_a ‹_› ‹_› | exact wx_b (wx_0 ‹_› ‹_›) ‹_› ‹_› | exact wx_c (wx_0 ‹_› ‹_›) (wx_1 ‹_› ‹_›) ‹_›) ‹_›
set_option maxRecDepth 20000 in
theorem lf_f_adv_40 (bt : Nat → Nat) (rlength : Nat) (rmostBytes : Nat) (rplace : Nat) (rtapeF : Nat → Int32) (gq : Nat) (k4 : Nat) (n8 : Nat) (y130 : Int32) (rplaceG_142 : Nat) (rlettersG_145 : Int64) (r162 : Int32) (iv_rreader_0 : rlength ≤ 940) (iv_rreader_1 : rplace ≤ rlength) (iv_rreader_2 : rmostBytes ≤ 900) (hTC : TC bt rtapeF) (hgq : rplace = gq) (j5 : k4 ≤ 940) (j6 : k4 ≤ rlength) (jSk : sk bt rlength rplace = sk bt rlength k4) (hm10 : 940 - k4 < n8 + 1) (jQ : sk bt rlength rplace = k4) (c13 : rmostBytes < rlength) (c128 : k4 < rmostBytes) (c129 : k4 < rlength) (e131 : y130 = rtapeF k4) (t132 : bt k4 < 256) (t133 : y130.toInt = ((bt k4 : Nat) : Int) ∨ (128 ≤ bt k4 ∧ y130.toInt = ((bt k4 : Nat) : Int) - 256)) (t136 : 97 ≤ y130.toInt) (t137 : y130.toInt ≤ 122) (p146 : rplaceG_142 ≤ rlength) (p147 : rplaceG_142 = rn bt rlength k4) (p148 : k4 < rplaceG_142) (v150 : dcn bt k4 (rplaceG_142 - k4) = 0) (v151 : (rplaceG_142 - k4) ≤ 7) (v152 : rlettersG_145 = Int64.ofNat (p8 bt k4 (rplaceG_142 - k4))) (v153 : LET bt k4 (rplaceG_142 - k4)) (p163 : r162 = nI (if WT0.idxOf (p8 bt k4 (rplaceG_142 - k4)) < 7 then 0 + WT0.idxOf (p8 bt k4 (rplaceG_142 - k4)) else 31)) (c164 : r162 ≠ nI 31) (c165 : r162 = nI 31) : k4 ≤ rplaceG_142 := by
  have b_y130 := ia_b y130
  have b_r162 := ia_b r162
  have b_rlettersG_145 := Int64.toInt_lt rlettersG_145
  try have k_0 := ia_n (if WT0.idxOf (p8 bt k4 (rplaceG_142 - k4)) < 7 then 0 + WT0.idxOf (p8 bt k4 (rplaceG_142 - k4)) else 31) (by first | decide | omega)
  try have k_1 := ia_n 31 (by first | decide | omega)
  try simp only [ia_lt, ia_le, ia_eq, ia_m1, ia_0, ia_1, ne_eq, true_and, and_true, false_and, and_false, or_false, false_or, or_true, true_or, not_true_eq_false, not_false_eq_true] at *
  all_goals omega
set_option maxRecDepth 20000 in
theorem lf_f_adv_41 (bt : Nat → Nat) (rlength : Nat) (rmostBytes : Nat) (rplace : Nat) (rtapeF : Nat → Int32) (gq : Nat) (k4 : Nat) (n8 : Nat) (y130 : Int32) (rplaceG_142 : Nat) (rlettersG_145 : Int64) (r162 : Int32) (iv_rreader_0 : rlength ≤ 940) (iv_rreader_1 : rplace ≤ rlength) (iv_rreader_2 : rmostBytes ≤ 900) (hTC : TC bt rtapeF) (hgq : rplace = gq) (j5 : k4 ≤ 940) (j6 : k4 ≤ rlength) (jSk : sk bt rlength rplace = sk bt rlength k4) (hm10 : 940 - k4 < n8 + 1) (jQ : sk bt rlength rplace = k4) (c13 : rmostBytes < rlength) (c128 : k4 < rmostBytes) (c129 : k4 < rlength) (e131 : y130 = rtapeF k4) (t132 : bt k4 < 256) (t133 : y130.toInt = ((bt k4 : Nat) : Int) ∨ (128 ≤ bt k4 ∧ y130.toInt = ((bt k4 : Nat) : Int) - 256)) (t136 : 97 ≤ y130.toInt) (t137 : y130.toInt ≤ 122) (p146 : rplaceG_142 ≤ rlength) (p147 : rplaceG_142 = rn bt rlength k4) (p148 : k4 < rplaceG_142) (v150 : dcn bt k4 (rplaceG_142 - k4) = 0) (v151 : (rplaceG_142 - k4) ≤ 7) (v152 : rlettersG_145 = Int64.ofNat (p8 bt k4 (rplaceG_142 - k4))) (v153 : LET bt k4 (rplaceG_142 - k4)) (p163 : r162 = nI (if WT0.idxOf (p8 bt k4 (rplaceG_142 - k4)) < 7 then 0 + WT0.idxOf (p8 bt k4 (rplaceG_142 - k4)) else 31)) (c164 : r162 ≠ nI 31) (c165 : r162 = nI 31) : rplaceG_142 - k4 ≤ 7 := by
  have b_y130 := ia_b y130
  have b_r162 := ia_b r162
  have b_rlettersG_145 := Int64.toInt_lt rlettersG_145
  try have k_0 := ia_n (if WT0.idxOf (p8 bt k4 (rplaceG_142 - k4)) < 7 then 0 + WT0.idxOf (p8 bt k4 (rplaceG_142 - k4)) else 31) (by first | decide | omega)
  try have k_1 := ia_n 31 (by first | decide | omega)
  try simp only [ia_lt, ia_le, ia_eq, ia_m1, ia_0, ia_1, ne_eq, true_and, and_true, false_and, and_false, or_false, false_or, or_true, true_or, not_true_eq_false, not_false_eq_true] at *
  all_goals omega
set_option maxRecDepth 20000 in
theorem lf_f_adv_42 (bt : Nat → Nat) (rlength : Nat) (rmostBytes : Nat) (rplace : Nat) (rtapeF : Nat → Int32) (gq : Nat) (k4 : Nat) (n8 : Nat) (y130 : Int32) (rplaceG_142 : Nat) (rnumberG_144 : Int32) (rlettersG_145 : Int64) (r162 : Int32) (r168 : Int32) (iv_rreader_0 : rlength ≤ 940) (iv_rreader_1 : rplace ≤ rlength) (iv_rreader_2 : rmostBytes ≤ 900) (hTC : TC bt rtapeF) (hgq : rplace = gq) (j5 : k4 ≤ 940) (j6 : k4 ≤ rlength) (jSk : sk bt rlength rplace = sk bt rlength k4) (hm10 : 940 - k4 < n8 + 1) (jQ : sk bt rlength rplace = k4) (c13 : rmostBytes < rlength) (c128 : k4 < rmostBytes) (c129 : k4 < rlength) (e131 : y130 = rtapeF k4) (t132 : bt k4 < 256) (t133 : y130.toInt = ((bt k4 : Nat) : Int) ∨ (128 ≤ bt k4 ∧ y130.toInt = ((bt k4 : Nat) : Int) - 256)) (t136 : 97 ≤ y130.toInt) (t137 : y130.toInt ≤ 122) (p146 : rplaceG_142 ≤ rlength) (p147 : rplaceG_142 = rn bt rlength k4) (p148 : k4 < rplaceG_142) (v150 : dcn bt k4 (rplaceG_142 - k4) = 0) (v151 : (rplaceG_142 - k4) ≤ 7) (v152 : rlettersG_145 = Int64.ofNat (p8 bt k4 (rplaceG_142 - k4))) (v153 : LET bt k4 (rplaceG_142 - k4)) (p163 : r162 = nI (if WT0.idxOf (p8 bt k4 (rplaceG_142 - k4)) < 7 then 0 + WT0.idxOf (p8 bt k4 (rplaceG_142 - k4)) else 31)) (c164 : r162 ≠ nI 31) (c165 : r162 = nI 31) (p169 : r168 = nI (if WT2.idxOf (p8 bt k4 (rplaceG_142 - k4)) < 11 then 20 + WT2.idxOf (p8 bt k4 (rplaceG_142 - k4)) else 31)) : RT bt rlength rmostBytes gq (nI 2) k4 rplaceG_142 r168 rnumberG_144 rlettersG_145 := by
  have q1 : ¬ (rmostBytes < rlength ∧ rmostBytes ≤ k4) := by
    have b_y130 := ia_b y130
    have b_rnumberG_144 := ia_b rnumberG_144
    have b_r162 := ia_b r162
    have b_r168 := ia_b r168
    have b_rlettersG_145 := Int64.toInt_lt rlettersG_145
    try have k_0 := ia_n (if WT0.idxOf (p8 bt k4 (rplaceG_142 - k4)) < 7 then 0 + WT0.idxOf (p8 bt k4 (rplaceG_142 - k4)) else 31) (by first | decide | omega)
    try have k_1 := ia_n 31 (by first | decide | omega)
    try have k_2 := ia_n (if WT2.idxOf (p8 bt k4 (rplaceG_142 - k4)) < 11 then 20 + WT2.idxOf (p8 bt k4 (rplaceG_142 - k4)) else 31) (by first | decide | omega)
    try simp only [ia_lt, ia_le, ia_eq, ia_m1, ia_0, ia_1, ne_eq, true_and, and_true, false_and, and_false, or_false, false_or, or_true, true_or, not_true_eq_false, not_false_eq_true] at *
    all_goals omega
  have q2 : k4 < rlength := by
    have b_y130 := ia_b y130
    have b_rnumberG_144 := ia_b rnumberG_144
    have b_r162 := ia_b r162
    have b_r168 := ia_b r168
    have b_rlettersG_145 := Int64.toInt_lt rlettersG_145
    try have k_0 := ia_n (if WT0.idxOf (p8 bt k4 (rplaceG_142 - k4)) < 7 then 0 + WT0.idxOf (p8 bt k4 (rplaceG_142 - k4)) else 31) (by first | decide | omega)
    try have k_1 := ia_n 31 (by first | decide | omega)
    try have k_2 := ia_n (if WT2.idxOf (p8 bt k4 (rplaceG_142 - k4)) < 11 then 20 + WT2.idxOf (p8 bt k4 (rplaceG_142 - k4)) else 31) (by first | decide | omega)
    try simp only [ia_lt, ia_le, ia_eq, ia_m1, ia_0, ia_1, ne_eq, true_and, and_true, false_and, and_false, or_false, false_or, or_true, true_or, not_true_eq_false, not_false_eq_true] at *
    all_goals omega
  have q3 : cAl (bt k4) := by
    have h8 := hTC k4 (by omega)
    unfold cAl cLe cDi
    have b_y130 := ia_b y130
    have b_rnumberG_144 := ia_b rnumberG_144
    have b_r162 := ia_b r162
    have b_r168 := ia_b r168
    have b_rlettersG_145 := Int64.toInt_lt rlettersG_145
    try have k_0 := ia_n (if WT0.idxOf (p8 bt k4 (rplaceG_142 - k4)) < 7 then 0 + WT0.idxOf (p8 bt k4 (rplaceG_142 - k4)) else 31) (by first | decide | omega)
    try have k_1 := ia_n 31 (by first | decide | omega)
    try have k_2 := ia_n (if WT2.idxOf (p8 bt k4 (rplaceG_142 - k4)) < 11 then 20 + WT2.idxOf (p8 bt k4 (rplaceG_142 - k4)) else 31) (by first | decide | omega)
    try simp only [ia_lt, ia_le, ia_eq, ia_m1, ia_0, ia_1, ne_eq, true_and, and_true, false_and, and_false, or_false, false_or, or_true, true_or, not_true_eq_false, not_false_eq_true] at *
    all_goals omega
  have q4 : rn bt rlength k4 = rplaceG_142 := by omega
  subst hgq
  exact RT_word jQ q1 q2 q3 q4 ‹_› ‹_› (by first | contradiction | exact wx_a ‹_› ‹_› | exact wx_b (wx_0 ‹_› ‹_›) ‹_› ‹_› | exact wx_c (wx_0 ‹_› ‹_›) (wx_1 ‹_› ‹_›) ‹_›) ‹_›
set_option maxRecDepth 20000 in
theorem lf_f_adv_43 (bt : Nat → Nat) (rlength : Nat) (rmostBytes : Nat) (rplace : Nat) (rtapeF : Nat → Int32) (gq : Nat) (k4 : Nat) (n8 : Nat) (y130 : Int32) (rplaceG_142 : Nat) (rlettersG_145 : Int64) (r162 : Int32) (iv_rreader_0 : rlength ≤ 940) (iv_rreader_1 : rplace ≤ rlength) (iv_rreader_2 : rmostBytes ≤ 900) (hTC : TC bt rtapeF) (hgq : rplace = gq) (j5 : k4 ≤ 940) (j6 : k4 ≤ rlength) (jSk : sk bt rlength rplace = sk bt rlength k4) (hm10 : 940 - k4 < n8 + 1) (jQ : sk bt rlength rplace = k4) (c13 : rmostBytes < rlength) (c128 : k4 < rmostBytes) (c129 : k4 < rlength) (e131 : y130 = rtapeF k4) (t132 : bt k4 < 256) (t133 : y130.toInt = ((bt k4 : Nat) : Int) ∨ (128 ≤ bt k4 ∧ y130.toInt = ((bt k4 : Nat) : Int) - 256)) (t136 : 97 ≤ y130.toInt) (t137 : y130.toInt ≤ 122) (p146 : rplaceG_142 ≤ rlength) (p147 : rplaceG_142 = rn bt rlength k4) (p148 : k4 < rplaceG_142) (v150 : dcn bt k4 (rplaceG_142 - k4) = 0) (v151 : (rplaceG_142 - k4) ≤ 7) (v152 : rlettersG_145 = Int64.ofNat (p8 bt k4 (rplaceG_142 - k4))) (v153 : LET bt k4 (rplaceG_142 - k4)) (p163 : r162 = nI (if WT0.idxOf (p8 bt k4 (rplaceG_142 - k4)) < 7 then 0 + WT0.idxOf (p8 bt k4 (rplaceG_142 - k4)) else 31)) (c164 : r162 = nI 31) : k4 ≤ rplaceG_142 := by
  have b_y130 := ia_b y130
  have b_r162 := ia_b r162
  have b_rlettersG_145 := Int64.toInt_lt rlettersG_145
  try have k_0 := ia_n (if WT0.idxOf (p8 bt k4 (rplaceG_142 - k4)) < 7 then 0 + WT0.idxOf (p8 bt k4 (rplaceG_142 - k4)) else 31) (by first | decide | omega)
  try have k_1 := ia_n 31 (by first | decide | omega)
  try simp only [ia_lt, ia_le, ia_eq, ia_m1, ia_0, ia_1, ne_eq, true_and, and_true, false_and, and_false, or_false, false_or, or_true, true_or, not_true_eq_false, not_false_eq_true] at *
  all_goals omega
set_option maxRecDepth 20000 in
theorem lf_f_adv_44 (bt : Nat → Nat) (rlength : Nat) (rmostBytes : Nat) (rplace : Nat) (rtapeF : Nat → Int32) (gq : Nat) (k4 : Nat) (n8 : Nat) (y130 : Int32) (rplaceG_142 : Nat) (rlettersG_145 : Int64) (r162 : Int32) (iv_rreader_0 : rlength ≤ 940) (iv_rreader_1 : rplace ≤ rlength) (iv_rreader_2 : rmostBytes ≤ 900) (hTC : TC bt rtapeF) (hgq : rplace = gq) (j5 : k4 ≤ 940) (j6 : k4 ≤ rlength) (jSk : sk bt rlength rplace = sk bt rlength k4) (hm10 : 940 - k4 < n8 + 1) (jQ : sk bt rlength rplace = k4) (c13 : rmostBytes < rlength) (c128 : k4 < rmostBytes) (c129 : k4 < rlength) (e131 : y130 = rtapeF k4) (t132 : bt k4 < 256) (t133 : y130.toInt = ((bt k4 : Nat) : Int) ∨ (128 ≤ bt k4 ∧ y130.toInt = ((bt k4 : Nat) : Int) - 256)) (t136 : 97 ≤ y130.toInt) (t137 : y130.toInt ≤ 122) (p146 : rplaceG_142 ≤ rlength) (p147 : rplaceG_142 = rn bt rlength k4) (p148 : k4 < rplaceG_142) (v150 : dcn bt k4 (rplaceG_142 - k4) = 0) (v151 : (rplaceG_142 - k4) ≤ 7) (v152 : rlettersG_145 = Int64.ofNat (p8 bt k4 (rplaceG_142 - k4))) (v153 : LET bt k4 (rplaceG_142 - k4)) (p163 : r162 = nI (if WT0.idxOf (p8 bt k4 (rplaceG_142 - k4)) < 7 then 0 + WT0.idxOf (p8 bt k4 (rplaceG_142 - k4)) else 31)) (c164 : r162 = nI 31) : rplaceG_142 - k4 ≤ 7 := by
  have b_y130 := ia_b y130
  have b_r162 := ia_b r162
  have b_rlettersG_145 := Int64.toInt_lt rlettersG_145
  try have k_0 := ia_n (if WT0.idxOf (p8 bt k4 (rplaceG_142 - k4)) < 7 then 0 + WT0.idxOf (p8 bt k4 (rplaceG_142 - k4)) else 31) (by first | decide | omega)
  try have k_1 := ia_n 31 (by first | decide | omega)
  try simp only [ia_lt, ia_le, ia_eq, ia_m1, ia_0, ia_1, ne_eq, true_and, and_true, false_and, and_false, or_false, false_or, or_true, true_or, not_true_eq_false, not_false_eq_true] at *
  all_goals omega
set_option maxRecDepth 20000 in
theorem lf_f_adv_45 (bt : Nat → Nat) (rlength : Nat) (rmostBytes : Nat) (rplace : Nat) (rtapeF : Nat → Int32) (gq : Nat) (k4 : Nat) (n8 : Nat) (y130 : Int32) (rplaceG_142 : Nat) (rnumberG_144 : Int32) (rlettersG_145 : Int64) (r162 : Int32) (r172 : Int32) (iv_rreader_0 : rlength ≤ 940) (iv_rreader_1 : rplace ≤ rlength) (iv_rreader_2 : rmostBytes ≤ 900) (hTC : TC bt rtapeF) (hgq : rplace = gq) (j5 : k4 ≤ 940) (j6 : k4 ≤ rlength) (jSk : sk bt rlength rplace = sk bt rlength k4) (hm10 : 940 - k4 < n8 + 1) (jQ : sk bt rlength rplace = k4) (c13 : rmostBytes < rlength) (c128 : k4 < rmostBytes) (c129 : k4 < rlength) (e131 : y130 = rtapeF k4) (t132 : bt k4 < 256) (t133 : y130.toInt = ((bt k4 : Nat) : Int) ∨ (128 ≤ bt k4 ∧ y130.toInt = ((bt k4 : Nat) : Int) - 256)) (t136 : 97 ≤ y130.toInt) (t137 : y130.toInt ≤ 122) (p146 : rplaceG_142 ≤ rlength) (p147 : rplaceG_142 = rn bt rlength k4) (p148 : k4 < rplaceG_142) (v150 : dcn bt k4 (rplaceG_142 - k4) = 0) (v151 : (rplaceG_142 - k4) ≤ 7) (v152 : rlettersG_145 = Int64.ofNat (p8 bt k4 (rplaceG_142 - k4))) (v153 : LET bt k4 (rplaceG_142 - k4)) (p163 : r162 = nI (if WT0.idxOf (p8 bt k4 (rplaceG_142 - k4)) < 7 then 0 + WT0.idxOf (p8 bt k4 (rplaceG_142 - k4)) else 31)) (c164 : r162 = nI 31) (p173 : r172 = nI (if WT1.idxOf (p8 bt k4 (rplaceG_142 - k4)) < 13 then 7 + WT1.idxOf (p8 bt k4 (rplaceG_142 - k4)) else 31)) (c174 : r172 ≠ nI 31) : RT bt rlength rmostBytes gq (nI 2) k4 rplaceG_142 r172 rnumberG_144 rlettersG_145 := by
  have q1 : ¬ (rmostBytes < rlength ∧ rmostBytes ≤ k4) := by
    have b_y130 := ia_b y130
    have b_rnumberG_144 := ia_b rnumberG_144
    have b_r162 := ia_b r162
    have b_r172 := ia_b r172
    have b_rlettersG_145 := Int64.toInt_lt rlettersG_145
    try have k_0 := ia_n (if WT0.idxOf (p8 bt k4 (rplaceG_142 - k4)) < 7 then 0 + WT0.idxOf (p8 bt k4 (rplaceG_142 - k4)) else 31) (by first | decide | omega)
    try have k_1 := ia_n 31 (by first | decide | omega)
    try have k_2 := ia_n (if WT1.idxOf (p8 bt k4 (rplaceG_142 - k4)) < 13 then 7 + WT1.idxOf (p8 bt k4 (rplaceG_142 - k4)) else 31) (by first | decide | omega)
    try simp only [ia_lt, ia_le, ia_eq, ia_m1, ia_0, ia_1, ne_eq, true_and, and_true, false_and, and_false, or_false, false_or, or_true, true_or, not_true_eq_false, not_false_eq_true] at *
    all_goals omega
  have q2 : k4 < rlength := by
    have b_y130 := ia_b y130
    have b_rnumberG_144 := ia_b rnumberG_144
    have b_r162 := ia_b r162
    have b_r172 := ia_b r172
    have b_rlettersG_145 := Int64.toInt_lt rlettersG_145
    try have k_0 := ia_n (if WT0.idxOf (p8 bt k4 (rplaceG_142 - k4)) < 7 then 0 + WT0.idxOf (p8 bt k4 (rplaceG_142 - k4)) else 31) (by first | decide | omega)
    try have k_1 := ia_n 31 (by first | decide | omega)
    try have k_2 := ia_n (if WT1.idxOf (p8 bt k4 (rplaceG_142 - k4)) < 13 then 7 + WT1.idxOf (p8 bt k4 (rplaceG_142 - k4)) else 31) (by first | decide | omega)
    try simp only [ia_lt, ia_le, ia_eq, ia_m1, ia_0, ia_1, ne_eq, true_and, and_true, false_and, and_false, or_false, false_or, or_true, true_or, not_true_eq_false, not_false_eq_true] at *
    all_goals omega
  have q3 : cAl (bt k4) := by
    have h8 := hTC k4 (by omega)
    unfold cAl cLe cDi
    have b_y130 := ia_b y130
    have b_rnumberG_144 := ia_b rnumberG_144
    have b_r162 := ia_b r162
    have b_r172 := ia_b r172
    have b_rlettersG_145 := Int64.toInt_lt rlettersG_145
    try have k_0 := ia_n (if WT0.idxOf (p8 bt k4 (rplaceG_142 - k4)) < 7 then 0 + WT0.idxOf (p8 bt k4 (rplaceG_142 - k4)) else 31) (by first | decide | omega)
    try have k_1 := ia_n 31 (by first | decide | omega)
    try have k_2 := ia_n (if WT1.idxOf (p8 bt k4 (rplaceG_142 - k4)) < 13 then 7 + WT1.idxOf (p8 bt k4 (rplaceG_142 - k4)) else 31) (by first | decide | omega)
    try simp only [ia_lt, ia_le, ia_eq, ia_m1, ia_0, ia_1, ne_eq, true_and, and_true, false_and, and_false, or_false, false_or, or_true, true_or, not_true_eq_false, not_false_eq_true] at *
    all_goals omega
  have q4 : rn bt rlength k4 = rplaceG_142 := by omega
  subst hgq
  exact RT_word jQ q1 q2 q3 q4 ‹_› ‹_› (by first | contradiction | exact wx_a ‹_› ‹_› | exact wx_b (wx_0 ‹_› ‹_›) ‹_› ‹_› | exact wx_c (wx_0 ‹_› ‹_›) (wx_1 ‹_› ‹_›) ‹_›) ‹_›
set_option maxRecDepth 20000 in
theorem lf_f_adv_46 (bt : Nat → Nat) (rlength : Nat) (rmostBytes : Nat) (rplace : Nat) (rtapeF : Nat → Int32) (gq : Nat) (k4 : Nat) (n8 : Nat) (y130 : Int32) (rplaceG_142 : Nat) (rlettersG_145 : Int64) (r162 : Int32) (r172 : Int32) (iv_rreader_0 : rlength ≤ 940) (iv_rreader_1 : rplace ≤ rlength) (iv_rreader_2 : rmostBytes ≤ 900) (hTC : TC bt rtapeF) (hgq : rplace = gq) (j5 : k4 ≤ 940) (j6 : k4 ≤ rlength) (jSk : sk bt rlength rplace = sk bt rlength k4) (hm10 : 940 - k4 < n8 + 1) (jQ : sk bt rlength rplace = k4) (c13 : rmostBytes < rlength) (c128 : k4 < rmostBytes) (c129 : k4 < rlength) (e131 : y130 = rtapeF k4) (t132 : bt k4 < 256) (t133 : y130.toInt = ((bt k4 : Nat) : Int) ∨ (128 ≤ bt k4 ∧ y130.toInt = ((bt k4 : Nat) : Int) - 256)) (t136 : 97 ≤ y130.toInt) (t137 : y130.toInt ≤ 122) (p146 : rplaceG_142 ≤ rlength) (p147 : rplaceG_142 = rn bt rlength k4) (p148 : k4 < rplaceG_142) (v150 : dcn bt k4 (rplaceG_142 - k4) = 0) (v151 : (rplaceG_142 - k4) ≤ 7) (v152 : rlettersG_145 = Int64.ofNat (p8 bt k4 (rplaceG_142 - k4))) (v153 : LET bt k4 (rplaceG_142 - k4)) (p163 : r162 = nI (if WT0.idxOf (p8 bt k4 (rplaceG_142 - k4)) < 7 then 0 + WT0.idxOf (p8 bt k4 (rplaceG_142 - k4)) else 31)) (c164 : r162 = nI 31) (p173 : r172 = nI (if WT1.idxOf (p8 bt k4 (rplaceG_142 - k4)) < 13 then 7 + WT1.idxOf (p8 bt k4 (rplaceG_142 - k4)) else 31)) (c174 : r172 = nI 31) : k4 ≤ rplaceG_142 := by
  have b_y130 := ia_b y130
  have b_r162 := ia_b r162
  have b_r172 := ia_b r172
  have b_rlettersG_145 := Int64.toInt_lt rlettersG_145
  try have k_0 := ia_n (if WT0.idxOf (p8 bt k4 (rplaceG_142 - k4)) < 7 then 0 + WT0.idxOf (p8 bt k4 (rplaceG_142 - k4)) else 31) (by first | decide | omega)
  try have k_1 := ia_n 31 (by first | decide | omega)
  try have k_2 := ia_n (if WT1.idxOf (p8 bt k4 (rplaceG_142 - k4)) < 13 then 7 + WT1.idxOf (p8 bt k4 (rplaceG_142 - k4)) else 31) (by first | decide | omega)
  try simp only [ia_lt, ia_le, ia_eq, ia_m1, ia_0, ia_1, ne_eq, true_and, and_true, false_and, and_false, or_false, false_or, or_true, true_or, not_true_eq_false, not_false_eq_true] at *
  all_goals omega
set_option maxRecDepth 20000 in
theorem lf_f_adv_47 (bt : Nat → Nat) (rlength : Nat) (rmostBytes : Nat) (rplace : Nat) (rtapeF : Nat → Int32) (gq : Nat) (k4 : Nat) (n8 : Nat) (y130 : Int32) (rplaceG_142 : Nat) (rlettersG_145 : Int64) (r162 : Int32) (r172 : Int32) (iv_rreader_0 : rlength ≤ 940) (iv_rreader_1 : rplace ≤ rlength) (iv_rreader_2 : rmostBytes ≤ 900) (hTC : TC bt rtapeF) (hgq : rplace = gq) (j5 : k4 ≤ 940) (j6 : k4 ≤ rlength) (jSk : sk bt rlength rplace = sk bt rlength k4) (hm10 : 940 - k4 < n8 + 1) (jQ : sk bt rlength rplace = k4) (c13 : rmostBytes < rlength) (c128 : k4 < rmostBytes) (c129 : k4 < rlength) (e131 : y130 = rtapeF k4) (t132 : bt k4 < 256) (t133 : y130.toInt = ((bt k4 : Nat) : Int) ∨ (128 ≤ bt k4 ∧ y130.toInt = ((bt k4 : Nat) : Int) - 256)) (t136 : 97 ≤ y130.toInt) (t137 : y130.toInt ≤ 122) (p146 : rplaceG_142 ≤ rlength) (p147 : rplaceG_142 = rn bt rlength k4) (p148 : k4 < rplaceG_142) (v150 : dcn bt k4 (rplaceG_142 - k4) = 0) (v151 : (rplaceG_142 - k4) ≤ 7) (v152 : rlettersG_145 = Int64.ofNat (p8 bt k4 (rplaceG_142 - k4))) (v153 : LET bt k4 (rplaceG_142 - k4)) (p163 : r162 = nI (if WT0.idxOf (p8 bt k4 (rplaceG_142 - k4)) < 7 then 0 + WT0.idxOf (p8 bt k4 (rplaceG_142 - k4)) else 31)) (c164 : r162 = nI 31) (p173 : r172 = nI (if WT1.idxOf (p8 bt k4 (rplaceG_142 - k4)) < 13 then 7 + WT1.idxOf (p8 bt k4 (rplaceG_142 - k4)) else 31)) (c174 : r172 = nI 31) : rplaceG_142 - k4 ≤ 7 := by
  have b_y130 := ia_b y130
  have b_r162 := ia_b r162
  have b_r172 := ia_b r172
  have b_rlettersG_145 := Int64.toInt_lt rlettersG_145
  try have k_0 := ia_n (if WT0.idxOf (p8 bt k4 (rplaceG_142 - k4)) < 7 then 0 + WT0.idxOf (p8 bt k4 (rplaceG_142 - k4)) else 31) (by first | decide | omega)
  try have k_1 := ia_n 31 (by first | decide | omega)
  try have k_2 := ia_n (if WT1.idxOf (p8 bt k4 (rplaceG_142 - k4)) < 13 then 7 + WT1.idxOf (p8 bt k4 (rplaceG_142 - k4)) else 31) (by first | decide | omega)
  try simp only [ia_lt, ia_le, ia_eq, ia_m1, ia_0, ia_1, ne_eq, true_and, and_true, false_and, and_false, or_false, false_or, or_true, true_or, not_true_eq_false, not_false_eq_true] at *
  all_goals omega
set_option maxRecDepth 20000 in
theorem lf_f_adv_48 (bt : Nat → Nat) (rlength : Nat) (rmostBytes : Nat) (rplace : Nat) (rtapeF : Nat → Int32) (gq : Nat) (k4 : Nat) (n8 : Nat) (y130 : Int32) (rplaceG_142 : Nat) (rnumberG_144 : Int32) (rlettersG_145 : Int64) (r162 : Int32) (r172 : Int32) (r177 : Int32) (iv_rreader_0 : rlength ≤ 940) (iv_rreader_1 : rplace ≤ rlength) (iv_rreader_2 : rmostBytes ≤ 900) (hTC : TC bt rtapeF) (hgq : rplace = gq) (j5 : k4 ≤ 940) (j6 : k4 ≤ rlength) (jSk : sk bt rlength rplace = sk bt rlength k4) (hm10 : 940 - k4 < n8 + 1) (jQ : sk bt rlength rplace = k4) (c13 : rmostBytes < rlength) (c128 : k4 < rmostBytes) (c129 : k4 < rlength) (e131 : y130 = rtapeF k4) (t132 : bt k4 < 256) (t133 : y130.toInt = ((bt k4 : Nat) : Int) ∨ (128 ≤ bt k4 ∧ y130.toInt = ((bt k4 : Nat) : Int) - 256)) (t136 : 97 ≤ y130.toInt) (t137 : y130.toInt ≤ 122) (p146 : rplaceG_142 ≤ rlength) (p147 : rplaceG_142 = rn bt rlength k4) (p148 : k4 < rplaceG_142) (v150 : dcn bt k4 (rplaceG_142 - k4) = 0) (v151 : (rplaceG_142 - k4) ≤ 7) (v152 : rlettersG_145 = Int64.ofNat (p8 bt k4 (rplaceG_142 - k4))) (v153 : LET bt k4 (rplaceG_142 - k4)) (p163 : r162 = nI (if WT0.idxOf (p8 bt k4 (rplaceG_142 - k4)) < 7 then 0 + WT0.idxOf (p8 bt k4 (rplaceG_142 - k4)) else 31)) (c164 : r162 = nI 31) (p173 : r172 = nI (if WT1.idxOf (p8 bt k4 (rplaceG_142 - k4)) < 13 then 7 + WT1.idxOf (p8 bt k4 (rplaceG_142 - k4)) else 31)) (c174 : r172 = nI 31) (p178 : r177 = nI (if WT2.idxOf (p8 bt k4 (rplaceG_142 - k4)) < 11 then 20 + WT2.idxOf (p8 bt k4 (rplaceG_142 - k4)) else 31)) : RT bt rlength rmostBytes gq (nI 2) k4 rplaceG_142 r177 rnumberG_144 rlettersG_145 := by
  have q1 : ¬ (rmostBytes < rlength ∧ rmostBytes ≤ k4) := by
    have b_y130 := ia_b y130
    have b_rnumberG_144 := ia_b rnumberG_144
    have b_r162 := ia_b r162
    have b_r172 := ia_b r172
    have b_r177 := ia_b r177
    have b_rlettersG_145 := Int64.toInt_lt rlettersG_145
    try have k_0 := ia_n (if WT0.idxOf (p8 bt k4 (rplaceG_142 - k4)) < 7 then 0 + WT0.idxOf (p8 bt k4 (rplaceG_142 - k4)) else 31) (by first | decide | omega)
    try have k_1 := ia_n 31 (by first | decide | omega)
    try have k_2 := ia_n (if WT1.idxOf (p8 bt k4 (rplaceG_142 - k4)) < 13 then 7 + WT1.idxOf (p8 bt k4 (rplaceG_142 - k4)) else 31) (by first | decide | omega)
    try have k_3 := ia_n (if WT2.idxOf (p8 bt k4 (rplaceG_142 - k4)) < 11 then 20 + WT2.idxOf (p8 bt k4 (rplaceG_142 - k4)) else 31) (by first | decide | omega)
    try simp only [ia_lt, ia_le, ia_eq, ia_m1, ia_0, ia_1, ne_eq, true_and, and_true, false_and, and_false, or_false, false_or, or_true, true_or, not_true_eq_false, not_false_eq_true] at *
    all_goals omega
  have q2 : k4 < rlength := by
    have b_y130 := ia_b y130
    have b_rnumberG_144 := ia_b rnumberG_144
    have b_r162 := ia_b r162
    have b_r172 := ia_b r172
    have b_r177 := ia_b r177
    have b_rlettersG_145 := Int64.toInt_lt rlettersG_145
    try have k_0 := ia_n (if WT0.idxOf (p8 bt k4 (rplaceG_142 - k4)) < 7 then 0 + WT0.idxOf (p8 bt k4 (rplaceG_142 - k4)) else 31) (by first | decide | omega)
    try have k_1 := ia_n 31 (by first | decide | omega)
    try have k_2 := ia_n (if WT1.idxOf (p8 bt k4 (rplaceG_142 - k4)) < 13 then 7 + WT1.idxOf (p8 bt k4 (rplaceG_142 - k4)) else 31) (by first | decide | omega)
    try have k_3 := ia_n (if WT2.idxOf (p8 bt k4 (rplaceG_142 - k4)) < 11 then 20 + WT2.idxOf (p8 bt k4 (rplaceG_142 - k4)) else 31) (by first | decide | omega)
    try simp only [ia_lt, ia_le, ia_eq, ia_m1, ia_0, ia_1, ne_eq, true_and, and_true, false_and, and_false, or_false, false_or, or_true, true_or, not_true_eq_false, not_false_eq_true] at *
    all_goals omega
  have q3 : cAl (bt k4) := by
    have h8 := hTC k4 (by omega)
    unfold cAl cLe cDi
    have b_y130 := ia_b y130
    have b_rnumberG_144 := ia_b rnumberG_144
    have b_r162 := ia_b r162
    have b_r172 := ia_b r172
    have b_r177 := ia_b r177
    have b_rlettersG_145 := Int64.toInt_lt rlettersG_145
    try have k_0 := ia_n (if WT0.idxOf (p8 bt k4 (rplaceG_142 - k4)) < 7 then 0 + WT0.idxOf (p8 bt k4 (rplaceG_142 - k4)) else 31) (by first | decide | omega)
    try have k_1 := ia_n 31 (by first | decide | omega)
    try have k_2 := ia_n (if WT1.idxOf (p8 bt k4 (rplaceG_142 - k4)) < 13 then 7 + WT1.idxOf (p8 bt k4 (rplaceG_142 - k4)) else 31) (by first | decide | omega)
    try have k_3 := ia_n (if WT2.idxOf (p8 bt k4 (rplaceG_142 - k4)) < 11 then 20 + WT2.idxOf (p8 bt k4 (rplaceG_142 - k4)) else 31) (by first | decide | omega)
    try simp only [ia_lt, ia_le, ia_eq, ia_m1, ia_0, ia_1, ne_eq, true_and, and_true, false_and, and_false, or_false, false_or, or_true, true_or, not_true_eq_false, not_false_eq_true] at *
    all_goals omega
  have q4 : rn bt rlength k4 = rplaceG_142 := by omega
  subst hgq
  exact RT_word jQ q1 q2 q3 q4 ‹_› ‹_› (by first | contradiction | exact wx_a ‹_› ‹_› | exact wx_b (wx_0 ‹_› ‹_›) ‹_› ‹_› | exact wx_c (wx_0 ‹_› ‹_›) (wx_1 ‹_› ‹_›) ‹_›) ‹_›
set_option maxRecDepth 20000 in
theorem lf_f_adv_49 (bt : Nat → Nat) (rlength : Nat) (rmostBytes : Nat) (rplace : Nat) (rtapeF : Nat → Int32) (gq : Nat) (k4 : Nat) (n8 : Nat) (y130 : Int32) (rplaceG_142 : Nat) (rnumberG_144 : Int32) (rlettersG_145 : Int64) (iv_rreader_0 : rlength ≤ 940) (iv_rreader_1 : rplace ≤ rlength) (iv_rreader_2 : rmostBytes ≤ 900) (hTC : TC bt rtapeF) (hgq : rplace = gq) (j5 : k4 ≤ 940) (j6 : k4 ≤ rlength) (jSk : sk bt rlength rplace = sk bt rlength k4) (hm10 : 940 - k4 < n8 + 1) (jQ : sk bt rlength rplace = k4) (c13 : rmostBytes < rlength) (c128 : k4 < rmostBytes) (c129 : k4 < rlength) (e131 : y130 = rtapeF k4) (t132 : bt k4 < 256) (t133 : y130.toInt = ((bt k4 : Nat) : Int) ∨ (128 ≤ bt k4 ∧ y130.toInt = ((bt k4 : Nat) : Int) - 256)) (t136 : 97 ≤ y130.toInt) (t137 : y130.toInt ≤ 122) (p146 : rplaceG_142 ≤ rlength) (p147 : rplaceG_142 = rn bt rlength k4) (p148 : k4 < rplaceG_142) (v154 : dcn bt k4 (rplaceG_142 - k4) = (rplaceG_142 - k4)) (v155 : (rplaceG_142 - k4) ≤ 3) (v156 : rnumberG_144 = nI (nvn bt k4 (rplaceG_142 - k4))) : RT bt rlength rmostBytes gq (nI 3) k4 rplaceG_142 (-1 : Int32) rnumberG_144 rlettersG_145 := by
  have q1 : ¬ (rmostBytes < rlength ∧ rmostBytes ≤ k4) := by
    have b_y130 := ia_b y130
    have b_rnumberG_144 := ia_b rnumberG_144
    have b_rlettersG_145 := Int64.toInt_lt rlettersG_145
    try have k_0 := ia_n (nvn bt k4 (rplaceG_142 - k4)) (by first | decide | omega)
    try simp only [ia_lt, ia_le, ia_eq, ia_m1, ia_0, ia_1, ne_eq, true_and, and_true, false_and, and_false, or_false, false_or, or_true, true_or, not_true_eq_false, not_false_eq_true] at *
    all_goals omega
  have q2 : k4 < rlength := by
    have b_y130 := ia_b y130
    have b_rnumberG_144 := ia_b rnumberG_144
    have b_rlettersG_145 := Int64.toInt_lt rlettersG_145
    try have k_0 := ia_n (nvn bt k4 (rplaceG_142 - k4)) (by first | decide | omega)
    try simp only [ia_lt, ia_le, ia_eq, ia_m1, ia_0, ia_1, ne_eq, true_and, and_true, false_and, and_false, or_false, false_or, or_true, true_or, not_true_eq_false, not_false_eq_true] at *
    all_goals omega
  have q3 : cAl (bt k4) := by
    have h8 := hTC k4 (by omega)
    unfold cAl cLe cDi
    have b_y130 := ia_b y130
    have b_rnumberG_144 := ia_b rnumberG_144
    have b_rlettersG_145 := Int64.toInt_lt rlettersG_145
    try have k_0 := ia_n (nvn bt k4 (rplaceG_142 - k4)) (by first | decide | omega)
    try simp only [ia_lt, ia_le, ia_eq, ia_m1, ia_0, ia_1, ne_eq, true_and, and_true, false_and, and_false, or_false, false_or, or_true, true_or, not_true_eq_false, not_false_eq_true] at *
    all_goals omega
  have q4 : rn bt rlength k4 = rplaceG_142 := by omega
  subst hgq
  exact RT_num jQ q1 q2 q3 q4 ‹_› ‹_› ‹_›
set_option maxRecDepth 20000 in
theorem lf_f_adv_50 (bt : Nat → Nat) (rlength : Nat) (rmostBytes : Nat) (rplace : Nat) (rtapeF : Nat → Int32) (gq : Nat) (k4 : Nat) (n8 : Nat) (y130 : Int32) (rplaceG_142 : Nat) (rnumberG_144 : Int32) (rlettersG_145 : Int64) (iv_rreader_0 : rlength ≤ 940) (iv_rreader_1 : rplace ≤ rlength) (iv_rreader_2 : rmostBytes ≤ 900) (hTC : TC bt rtapeF) (hgq : rplace = gq) (j5 : k4 ≤ 940) (j6 : k4 ≤ rlength) (jSk : sk bt rlength rplace = sk bt rlength k4) (hm10 : 940 - k4 < n8 + 1) (jQ : sk bt rlength rplace = k4) (c13 : rmostBytes < rlength) (c128 : k4 < rmostBytes) (c129 : k4 < rlength) (e131 : y130 = rtapeF k4) (t132 : bt k4 < 256) (t133 : y130.toInt = ((bt k4 : Nat) : Int) ∨ (128 ≤ bt k4 ∧ y130.toInt = ((bt k4 : Nat) : Int) - 256)) (t136 : 97 ≤ y130.toInt) (t137 : y130.toInt ≤ 122) (p146 : rplaceG_142 ≤ rlength) (p147 : rplaceG_142 = rn bt rlength k4) (p148 : k4 < rplaceG_142) (v157 : ¬ (dcn bt k4 (rplaceG_142 - k4) = 0 ∧ (rplaceG_142 - k4) ≤ 7)) (v158 : ¬ (dcn bt k4 (rplaceG_142 - k4) = (rplaceG_142 - k4) ∧ (rplaceG_142 - k4) ≤ 3)) : RT bt rlength rmostBytes gq (nI 1) k4 rplaceG_142 (-1 : Int32) rnumberG_144 rlettersG_145 := by
  have q1 : ¬ (rmostBytes < rlength ∧ rmostBytes ≤ k4) := by
    have b_y130 := ia_b y130
    have b_rnumberG_144 := ia_b rnumberG_144
    have b_rlettersG_145 := Int64.toInt_lt rlettersG_145
    try simp only [ia_lt, ia_le, ia_eq, ia_m1, ia_0, ia_1, ne_eq, true_and, and_true, false_and, and_false, or_false, false_or, or_true, true_or, not_true_eq_false, not_false_eq_true] at *
    all_goals omega
  have q2 : k4 < rlength := by
    have b_y130 := ia_b y130
    have b_rnumberG_144 := ia_b rnumberG_144
    have b_rlettersG_145 := Int64.toInt_lt rlettersG_145
    try simp only [ia_lt, ia_le, ia_eq, ia_m1, ia_0, ia_1, ne_eq, true_and, and_true, false_and, and_false, or_false, false_or, or_true, true_or, not_true_eq_false, not_false_eq_true] at *
    all_goals omega
  have q3 : cAl (bt k4) := by
    have h8 := hTC k4 (by omega)
    unfold cAl cLe cDi
    have b_y130 := ia_b y130
    have b_rnumberG_144 := ia_b rnumberG_144
    have b_rlettersG_145 := Int64.toInt_lt rlettersG_145
    try simp only [ia_lt, ia_le, ia_eq, ia_m1, ia_0, ia_1, ne_eq, true_and, and_true, false_and, and_false, or_false, false_or, or_true, true_or, not_true_eq_false, not_false_eq_true] at *
    all_goals omega
  have q4 : rn bt rlength k4 = rplaceG_142 := by omega
  subst hgq
  exact RT_bad jQ q1 q2 q3 q4 ‹_› ‹_›
set_option maxRecDepth 20000 in
theorem lf_f_adv_51 (bt : Nat → Nat) (rlength : Nat) (rmostBytes : Nat) (rplace : Nat) (rtapeF : Nat → Int32) (gq : Nat) (k4 : Nat) (n8 : Nat) (y130 : Int32) (y182 : Int32) (iv_rreader_0 : rlength ≤ 940) (iv_rreader_1 : rplace ≤ rlength) (iv_rreader_2 : rmostBytes ≤ 900) (hTC : TC bt rtapeF) (hgq : rplace = gq) (j5 : k4 ≤ 940) (j6 : k4 ≤ rlength) (jSk : sk bt rlength rplace = sk bt rlength k4) (hm10 : 940 - k4 < n8 + 1) (jQ : sk bt rlength rplace = k4) (c13 : rmostBytes < rlength) (c128 : k4 < rmostBytes) (c129 : k4 < rlength) (e131 : y130 = rtapeF k4) (t132 : bt k4 < 256) (t133 : y130.toInt = ((bt k4 : Nat) : Int) ∨ (128 ≤ bt k4 ∧ y130.toInt = ((bt k4 : Nat) : Int) - 256)) (t138 : ¬ (97 ≤ y130.toInt ∧ y130.toInt ≤ 122)) (e183 : y182 = rtapeF k4) (t184 : bt k4 < 256) (t185 : y182.toInt = ((bt k4 : Nat) : Int) ∨ (128 ≤ bt k4 ∧ y182.toInt = ((bt k4 : Nat) : Int) - 256)) (t188 : 48 ≤ y182.toInt) (t189 : y182.toInt ≤ 57) : k4 = k4 := by
  have b_y130 := ia_b y130
  have b_y182 := ia_b y182
  try simp only [ia_lt, ia_le, ia_eq, ia_m1, ia_0, ia_1, ne_eq, true_and, and_true, false_and, and_false, or_false, false_or, or_true, true_or, not_true_eq_false, not_false_eq_true] at *
  all_goals omega
set_option maxRecDepth 20000 in
theorem lf_f_adv_52 (bt : Nat → Nat) (rlength : Nat) (rmostBytes : Nat) (rplace : Nat) (rtapeF : Nat → Int32) (gq : Nat) (k4 : Nat) (n8 : Nat) (y130 : Int32) (y182 : Int32) (iv_rreader_0 : rlength ≤ 940) (iv_rreader_1 : rplace ≤ rlength) (iv_rreader_2 : rmostBytes ≤ 900) (hTC : TC bt rtapeF) (hgq : rplace = gq) (j5 : k4 ≤ 940) (j6 : k4 ≤ rlength) (jSk : sk bt rlength rplace = sk bt rlength k4) (hm10 : 940 - k4 < n8 + 1) (jQ : sk bt rlength rplace = k4) (c13 : rmostBytes < rlength) (c128 : k4 < rmostBytes) (c129 : k4 < rlength) (e131 : y130 = rtapeF k4) (t132 : bt k4 < 256) (t133 : y130.toInt = ((bt k4 : Nat) : Int) ∨ (128 ≤ bt k4 ∧ y130.toInt = ((bt k4 : Nat) : Int) - 256)) (t138 : ¬ (97 ≤ y130.toInt ∧ y130.toInt ≤ 122)) (e183 : y182 = rtapeF k4) (t184 : bt k4 < 256) (t185 : y182.toInt = ((bt k4 : Nat) : Int) ∨ (128 ≤ bt k4 ∧ y182.toInt = ((bt k4 : Nat) : Int) - 256)) (t188 : 48 ≤ y182.toInt) (t189 : y182.toInt ≤ 57) : cAl (bt k4) := by
  have h8 := hTC k4 (by omega)
  unfold cAl cLe cDi
  have b_y130 := ia_b y130
  have b_y182 := ia_b y182
  try simp only [ia_lt, ia_le, ia_eq, ia_m1, ia_0, ia_1, ne_eq, true_and, and_true, false_and, and_false, or_false, false_or, or_true, true_or, not_true_eq_false, not_false_eq_true] at *
  all_goals omega
set_option maxRecDepth 20000 in
theorem lf_f_adv_53 (bt : Nat → Nat) (rlength : Nat) (rmostBytes : Nat) (rplace : Nat) (rtapeF : Nat → Int32) (gq : Nat) (k4 : Nat) (n8 : Nat) (y130 : Int32) (y182 : Int32) (rplaceG_194 : Nat) (rlettersG_197 : Int64) (iv_rreader_0 : rlength ≤ 940) (iv_rreader_1 : rplace ≤ rlength) (iv_rreader_2 : rmostBytes ≤ 900) (hTC : TC bt rtapeF) (hgq : rplace = gq) (j5 : k4 ≤ 940) (j6 : k4 ≤ rlength) (jSk : sk bt rlength rplace = sk bt rlength k4) (hm10 : 940 - k4 < n8 + 1) (jQ : sk bt rlength rplace = k4) (c13 : rmostBytes < rlength) (c128 : k4 < rmostBytes) (c129 : k4 < rlength) (e131 : y130 = rtapeF k4) (t132 : bt k4 < 256) (t133 : y130.toInt = ((bt k4 : Nat) : Int) ∨ (128 ≤ bt k4 ∧ y130.toInt = ((bt k4 : Nat) : Int) - 256)) (t138 : ¬ (97 ≤ y130.toInt ∧ y130.toInt ≤ 122)) (e183 : y182 = rtapeF k4) (t184 : bt k4 < 256) (t185 : y182.toInt = ((bt k4 : Nat) : Int) ∨ (128 ≤ bt k4 ∧ y182.toInt = ((bt k4 : Nat) : Int) - 256)) (t188 : 48 ≤ y182.toInt) (t189 : y182.toInt ≤ 57) (p198 : rplaceG_194 ≤ rlength) (p199 : rplaceG_194 = rn bt rlength k4) (p200 : k4 < rplaceG_194) (v202 : dcn bt k4 (rplaceG_194 - k4) = 0) (v203 : (rplaceG_194 - k4) ≤ 7) (v204 : rlettersG_197 = Int64.ofNat (p8 bt k4 (rplaceG_194 - k4))) (v205 : LET bt k4 (rplaceG_194 - k4)) : k4 ≤ rplaceG_194 := by
  have b_y130 := ia_b y130
  have b_y182 := ia_b y182
  have b_rlettersG_197 := Int64.toInt_lt rlettersG_197
  try simp only [ia_lt, ia_le, ia_eq, ia_m1, ia_0, ia_1, ne_eq, true_and, and_true, false_and, and_false, or_false, false_or, or_true, true_or, not_true_eq_false, not_false_eq_true] at *
  all_goals omega
set_option maxRecDepth 20000 in
theorem lf_f_adv_54 (bt : Nat → Nat) (rlength : Nat) (rmostBytes : Nat) (rplace : Nat) (rtapeF : Nat → Int32) (gq : Nat) (k4 : Nat) (n8 : Nat) (y130 : Int32) (y182 : Int32) (rplaceG_194 : Nat) (rlettersG_197 : Int64) (iv_rreader_0 : rlength ≤ 940) (iv_rreader_1 : rplace ≤ rlength) (iv_rreader_2 : rmostBytes ≤ 900) (hTC : TC bt rtapeF) (hgq : rplace = gq) (j5 : k4 ≤ 940) (j6 : k4 ≤ rlength) (jSk : sk bt rlength rplace = sk bt rlength k4) (hm10 : 940 - k4 < n8 + 1) (jQ : sk bt rlength rplace = k4) (c13 : rmostBytes < rlength) (c128 : k4 < rmostBytes) (c129 : k4 < rlength) (e131 : y130 = rtapeF k4) (t132 : bt k4 < 256) (t133 : y130.toInt = ((bt k4 : Nat) : Int) ∨ (128 ≤ bt k4 ∧ y130.toInt = ((bt k4 : Nat) : Int) - 256)) (t138 : ¬ (97 ≤ y130.toInt ∧ y130.toInt ≤ 122)) (e183 : y182 = rtapeF k4) (t184 : bt k4 < 256) (t185 : y182.toInt = ((bt k4 : Nat) : Int) ∨ (128 ≤ bt k4 ∧ y182.toInt = ((bt k4 : Nat) : Int) - 256)) (t188 : 48 ≤ y182.toInt) (t189 : y182.toInt ≤ 57) (p198 : rplaceG_194 ≤ rlength) (p199 : rplaceG_194 = rn bt rlength k4) (p200 : k4 < rplaceG_194) (v202 : dcn bt k4 (rplaceG_194 - k4) = 0) (v203 : (rplaceG_194 - k4) ≤ 7) (v204 : rlettersG_197 = Int64.ofNat (p8 bt k4 (rplaceG_194 - k4))) (v205 : LET bt k4 (rplaceG_194 - k4)) : rplaceG_194 - k4 ≤ 7 := by
  have b_y130 := ia_b y130
  have b_y182 := ia_b y182
  have b_rlettersG_197 := Int64.toInt_lt rlettersG_197
  try simp only [ia_lt, ia_le, ia_eq, ia_m1, ia_0, ia_1, ne_eq, true_and, and_true, false_and, and_false, or_false, false_or, or_true, true_or, not_true_eq_false, not_false_eq_true] at *
  all_goals omega
set_option maxRecDepth 20000 in
theorem lf_f_adv_55 (bt : Nat → Nat) (rlength : Nat) (rmostBytes : Nat) (rplace : Nat) (rtapeF : Nat → Int32) (gq : Nat) (k4 : Nat) (n8 : Nat) (y130 : Int32) (y182 : Int32) (rplaceG_194 : Nat) (rnumberG_196 : Int32) (rlettersG_197 : Int64) (r214 : Int32) (iv_rreader_0 : rlength ≤ 940) (iv_rreader_1 : rplace ≤ rlength) (iv_rreader_2 : rmostBytes ≤ 900) (hTC : TC bt rtapeF) (hgq : rplace = gq) (j5 : k4 ≤ 940) (j6 : k4 ≤ rlength) (jSk : sk bt rlength rplace = sk bt rlength k4) (hm10 : 940 - k4 < n8 + 1) (jQ : sk bt rlength rplace = k4) (c13 : rmostBytes < rlength) (c128 : k4 < rmostBytes) (c129 : k4 < rlength) (e131 : y130 = rtapeF k4) (t132 : bt k4 < 256) (t133 : y130.toInt = ((bt k4 : Nat) : Int) ∨ (128 ≤ bt k4 ∧ y130.toInt = ((bt k4 : Nat) : Int) - 256)) (t138 : ¬ (97 ≤ y130.toInt ∧ y130.toInt ≤ 122)) (e183 : y182 = rtapeF k4) (t184 : bt k4 < 256) (t185 : y182.toInt = ((bt k4 : Nat) : Int) ∨ (128 ≤ bt k4 ∧ y182.toInt = ((bt k4 : Nat) : Int) - 256)) (t188 : 48 ≤ y182.toInt) (t189 : y182.toInt ≤ 57) (p198 : rplaceG_194 ≤ rlength) (p199 : rplaceG_194 = rn bt rlength k4) (p200 : k4 < rplaceG_194) (v202 : dcn bt k4 (rplaceG_194 - k4) = 0) (v203 : (rplaceG_194 - k4) ≤ 7) (v204 : rlettersG_197 = Int64.ofNat (p8 bt k4 (rplaceG_194 - k4))) (v205 : LET bt k4 (rplaceG_194 - k4)) (p215 : r214 = nI (if WT0.idxOf (p8 bt k4 (rplaceG_194 - k4)) < 7 then 0 + WT0.idxOf (p8 bt k4 (rplaceG_194 - k4)) else 31)) (c216 : r214 ≠ nI 31) (c217 : r214 ≠ nI 31) : RT bt rlength rmostBytes gq (nI 2) k4 rplaceG_194 r214 rnumberG_196 rlettersG_197 := by
  have q1 : ¬ (rmostBytes < rlength ∧ rmostBytes ≤ k4) := by
    have b_y130 := ia_b y130
    have b_y182 := ia_b y182
    have b_rnumberG_196 := ia_b rnumberG_196
    have b_r214 := ia_b r214
    have b_rlettersG_197 := Int64.toInt_lt rlettersG_197
    try have k_0 := ia_n (if WT0.idxOf (p8 bt k4 (rplaceG_194 - k4)) < 7 then 0 + WT0.idxOf (p8 bt k4 (rplaceG_194 - k4)) else 31) (by first | decide | omega)
    try have k_1 := ia_n 31 (by first | decide | omega)
    try simp only [ia_lt, ia_le, ia_eq, ia_m1, ia_0, ia_1, ne_eq, true_and, and_true, false_and, and_false, or_false, false_or, or_true, true_or, not_true_eq_false, not_false_eq_true] at *
    all_goals omega
  have q2 : k4 < rlength := by
    have b_y130 := ia_b y130
    have b_y182 := ia_b y182
    have b_rnumberG_196 := ia_b rnumberG_196
    have b_r214 := ia_b r214
    have b_rlettersG_197 := Int64.toInt_lt rlettersG_197
    try have k_0 := ia_n (if WT0.idxOf (p8 bt k4 (rplaceG_194 - k4)) < 7 then 0 + WT0.idxOf (p8 bt k4 (rplaceG_194 - k4)) else 31) (by first | decide | omega)
    try have k_1 := ia_n 31 (by first | decide | omega)
    try simp only [ia_lt, ia_le, ia_eq, ia_m1, ia_0, ia_1, ne_eq, true_and, and_true, false_and, and_false, or_false, false_or, or_true, true_or, not_true_eq_false, not_false_eq_true] at *
    all_goals omega
  have q3 : cAl (bt k4) := by
    have h8 := hTC k4 (by omega)
    unfold cAl cLe cDi
    have b_y130 := ia_b y130
    have b_y182 := ia_b y182
    have b_rnumberG_196 := ia_b rnumberG_196
    have b_r214 := ia_b r214
    have b_rlettersG_197 := Int64.toInt_lt rlettersG_197
    try have k_0 := ia_n (if WT0.idxOf (p8 bt k4 (rplaceG_194 - k4)) < 7 then 0 + WT0.idxOf (p8 bt k4 (rplaceG_194 - k4)) else 31) (by first | decide | omega)
    try have k_1 := ia_n 31 (by first | decide | omega)
    try simp only [ia_lt, ia_le, ia_eq, ia_m1, ia_0, ia_1, ne_eq, true_and, and_true, false_and, and_false, or_false, false_or, or_true, true_or, not_true_eq_false, not_false_eq_true] at *
    all_goals omega
  have q4 : rn bt rlength k4 = rplaceG_194 := by omega
  subst hgq
  exact RT_word jQ q1 q2 q3 q4 ‹_› ‹_› (by first | contradiction | exact wx_a ‹_› ‹_› | exact wx_b (wx_0 ‹_› ‹_›) ‹_› ‹_› | exact wx_c (wx_0 ‹_› ‹_›) (wx_1 ‹_› ‹_›) ‹_›) ‹_›
set_option maxRecDepth 20000 in
theorem lf_f_adv_56 (bt : Nat → Nat) (rlength : Nat) (rmostBytes : Nat) (rplace : Nat) (rtapeF : Nat → Int32) (gq : Nat) (k4 : Nat) (n8 : Nat) (y130 : Int32) (y182 : Int32) (rplaceG_194 : Nat) (rlettersG_197 : Int64) (r214 : Int32) (iv_rreader_0 : rlength ≤ 940) (iv_rreader_1 : rplace ≤ rlength) (iv_rreader_2 : rmostBytes ≤ 900) (hTC : TC bt rtapeF) (hgq : rplace = gq) (j5 : k4 ≤ 940) (j6 : k4 ≤ rlength) (jSk : sk bt rlength rplace = sk bt rlength k4) (hm10 : 940 - k4 < n8 + 1) (jQ : sk bt rlength rplace = k4) (c13 : rmostBytes < rlength) (c128 : k4 < rmostBytes) (c129 : k4 < rlength) (e131 : y130 = rtapeF k4) (t132 : bt k4 < 256) (t133 : y130.toInt = ((bt k4 : Nat) : Int) ∨ (128 ≤ bt k4 ∧ y130.toInt = ((bt k4 : Nat) : Int) - 256)) (t138 : ¬ (97 ≤ y130.toInt ∧ y130.toInt ≤ 122)) (e183 : y182 = rtapeF k4) (t184 : bt k4 < 256) (t185 : y182.toInt = ((bt k4 : Nat) : Int) ∨ (128 ≤ bt k4 ∧ y182.toInt = ((bt k4 : Nat) : Int) - 256)) (t188 : 48 ≤ y182.toInt) (t189 : y182.toInt ≤ 57) (p198 : rplaceG_194 ≤ rlength) (p199 : rplaceG_194 = rn bt rlength k4) (p200 : k4 < rplaceG_194) (v202 : dcn bt k4 (rplaceG_194 - k4) = 0) (v203 : (rplaceG_194 - k4) ≤ 7) (v204 : rlettersG_197 = Int64.ofNat (p8 bt k4 (rplaceG_194 - k4))) (v205 : LET bt k4 (rplaceG_194 - k4)) (p215 : r214 = nI (if WT0.idxOf (p8 bt k4 (rplaceG_194 - k4)) < 7 then 0 + WT0.idxOf (p8 bt k4 (rplaceG_194 - k4)) else 31)) (c216 : r214 ≠ nI 31) (c217 : r214 = nI 31) : k4 ≤ rplaceG_194 := by
  have b_y130 := ia_b y130
  have b_y182 := ia_b y182
  have b_r214 := ia_b r214
  have b_rlettersG_197 := Int64.toInt_lt rlettersG_197
  try have k_0 := ia_n (if WT0.idxOf (p8 bt k4 (rplaceG_194 - k4)) < 7 then 0 + WT0.idxOf (p8 bt k4 (rplaceG_194 - k4)) else 31) (by first | decide | omega)
  try have k_1 := ia_n 31 (by first | decide | omega)
  try simp only [ia_lt, ia_le, ia_eq, ia_m1, ia_0, ia_1, ne_eq, true_and, and_true, false_and, and_false, or_false, false_or, or_true, true_or, not_true_eq_false, not_false_eq_true] at *
  all_goals omega
set_option maxRecDepth 20000 in
theorem lf_f_adv_57 (bt : Nat → Nat) (rlength : Nat) (rmostBytes : Nat) (rplace : Nat) (rtapeF : Nat → Int32) (gq : Nat) (k4 : Nat) (n8 : Nat) (y130 : Int32) (y182 : Int32) (rplaceG_194 : Nat) (rlettersG_197 : Int64) (r214 : Int32) (iv_rreader_0 : rlength ≤ 940) (iv_rreader_1 : rplace ≤ rlength) (iv_rreader_2 : rmostBytes ≤ 900) (hTC : TC bt rtapeF) (hgq : rplace = gq) (j5 : k4 ≤ 940) (j6 : k4 ≤ rlength) (jSk : sk bt rlength rplace = sk bt rlength k4) (hm10 : 940 - k4 < n8 + 1) (jQ : sk bt rlength rplace = k4) (c13 : rmostBytes < rlength) (c128 : k4 < rmostBytes) (c129 : k4 < rlength) (e131 : y130 = rtapeF k4) (t132 : bt k4 < 256) (t133 : y130.toInt = ((bt k4 : Nat) : Int) ∨ (128 ≤ bt k4 ∧ y130.toInt = ((bt k4 : Nat) : Int) - 256)) (t138 : ¬ (97 ≤ y130.toInt ∧ y130.toInt ≤ 122)) (e183 : y182 = rtapeF k4) (t184 : bt k4 < 256) (t185 : y182.toInt = ((bt k4 : Nat) : Int) ∨ (128 ≤ bt k4 ∧ y182.toInt = ((bt k4 : Nat) : Int) - 256)) (t188 : 48 ≤ y182.toInt) (t189 : y182.toInt ≤ 57) (p198 : rplaceG_194 ≤ rlength) (p199 : rplaceG_194 = rn bt rlength k4) (p200 : k4 < rplaceG_194) (v202 : dcn bt k4 (rplaceG_194 - k4) = 0) (v203 : (rplaceG_194 - k4) ≤ 7) (v204 : rlettersG_197 = Int64.ofNat (p8 bt k4 (rplaceG_194 - k4))) (v205 : LET bt k4 (rplaceG_194 - k4)) (p215 : r214 = nI (if WT0.idxOf (p8 bt k4 (rplaceG_194 - k4)) < 7 then 0 + WT0.idxOf (p8 bt k4 (rplaceG_194 - k4)) else 31)) (c216 : r214 ≠ nI 31) (c217 : r214 = nI 31) : rplaceG_194 - k4 ≤ 7 := by
  have b_y130 := ia_b y130
  have b_y182 := ia_b y182
  have b_r214 := ia_b r214
  have b_rlettersG_197 := Int64.toInt_lt rlettersG_197
  try have k_0 := ia_n (if WT0.idxOf (p8 bt k4 (rplaceG_194 - k4)) < 7 then 0 + WT0.idxOf (p8 bt k4 (rplaceG_194 - k4)) else 31) (by first | decide | omega)
  try have k_1 := ia_n 31 (by first | decide | omega)
  try simp only [ia_lt, ia_le, ia_eq, ia_m1, ia_0, ia_1, ne_eq, true_and, and_true, false_and, and_false, or_false, false_or, or_true, true_or, not_true_eq_false, not_false_eq_true] at *
  all_goals omega
set_option maxRecDepth 20000 in
theorem lf_f_adv_58 (bt : Nat → Nat) (rlength : Nat) (rmostBytes : Nat) (rplace : Nat) (rtapeF : Nat → Int32) (gq : Nat) (k4 : Nat) (n8 : Nat) (y130 : Int32) (y182 : Int32) (rplaceG_194 : Nat) (rnumberG_196 : Int32) (rlettersG_197 : Int64) (r214 : Int32) (r220 : Int32) (iv_rreader_0 : rlength ≤ 940) (iv_rreader_1 : rplace ≤ rlength) (iv_rreader_2 : rmostBytes ≤ 900) (hTC : TC bt rtapeF) (hgq : rplace = gq) (j5 : k4 ≤ 940) (j6 : k4 ≤ rlength) (jSk : sk bt rlength rplace = sk bt rlength k4) (hm10 : 940 - k4 < n8 + 1) (jQ : sk bt rlength rplace = k4) (c13 : rmostBytes < rlength) (c128 : k4 < rmostBytes) (c129 : k4 < rlength) (e131 : y130 = rtapeF k4) (t132 : bt k4 < 256) (t133 : y130.toInt = ((bt k4 : Nat) : Int) ∨ (128 ≤ bt k4 ∧ y130.toInt = ((bt k4 : Nat) : Int) - 256)) (t138 : ¬ (97 ≤ y130.toInt ∧ y130.toInt ≤ 122)) (e183 : y182 = rtapeF k4) (t184 : bt k4 < 256) (t185 : y182.toInt = ((bt k4 : Nat) : Int) ∨ (128 ≤ bt k4 ∧ y182.toInt = ((bt k4 : Nat) : Int) - 256)) (t188 : 48 ≤ y182.toInt) (t189 : y182.toInt ≤ 57) (p198 : rplaceG_194 ≤ rlength) (p199 : rplaceG_194 = rn bt rlength k4) (p200 : k4 < rplaceG_194) (v202 : dcn bt k4 (rplaceG_194 - k4) = 0) (v203 : (rplaceG_194 - k4) ≤ 7) (v204 : rlettersG_197 = Int64.ofNat (p8 bt k4 (rplaceG_194 - k4))) (v205 : LET bt k4 (rplaceG_194 - k4)) (p215 : r214 = nI (if WT0.idxOf (p8 bt k4 (rplaceG_194 - k4)) < 7 then 0 + WT0.idxOf (p8 bt k4 (rplaceG_194 - k4)) else 31)) (c216 : r214 ≠ nI 31) (c217 : r214 = nI 31) (p221 : r220 = nI (if WT2.idxOf (p8 bt k4 (rplaceG_194 - k4)) < 11 then 20 + WT2.idxOf (p8 bt k4 (rplaceG_194 - k4)) else 31)) : RT bt rlength rmostBytes gq (nI 2) k4 rplaceG_194 r220 rnumberG_196 rlettersG_197 := by
  have q1 : ¬ (rmostBytes < rlength ∧ rmostBytes ≤ k4) := by
    have b_y130 := ia_b y130
    have b_y182 := ia_b y182
    have b_rnumberG_196 := ia_b rnumberG_196
    have b_r214 := ia_b r214
    have b_r220 := ia_b r220
    have b_rlettersG_197 := Int64.toInt_lt rlettersG_197
    try have k_0 := ia_n (if WT0.idxOf (p8 bt k4 (rplaceG_194 - k4)) < 7 then 0 + WT0.idxOf (p8 bt k4 (rplaceG_194 - k4)) else 31) (by first | decide | omega)
    try have k_1 := ia_n 31 (by first | decide | omega)
    try have k_2 := ia_n (if WT2.idxOf (p8 bt k4 (rplaceG_194 - k4)) < 11 then 20 + WT2.idxOf (p8 bt k4 (rplaceG_194 - k4)) else 31) (by first | decide | omega)
    try simp only [ia_lt, ia_le, ia_eq, ia_m1, ia_0, ia_1, ne_eq, true_and, and_true, false_and, and_false, or_false, false_or, or_true, true_or, not_true_eq_false, not_false_eq_true] at *
    all_goals omega
  have q2 : k4 < rlength := by
    have b_y130 := ia_b y130
    have b_y182 := ia_b y182
    have b_rnumberG_196 := ia_b rnumberG_196
    have b_r214 := ia_b r214
    have b_r220 := ia_b r220
    have b_rlettersG_197 := Int64.toInt_lt rlettersG_197
    try have k_0 := ia_n (if WT0.idxOf (p8 bt k4 (rplaceG_194 - k4)) < 7 then 0 + WT0.idxOf (p8 bt k4 (rplaceG_194 - k4)) else 31) (by first | decide | omega)
    try have k_1 := ia_n 31 (by first | decide | omega)
    try have k_2 := ia_n (if WT2.idxOf (p8 bt k4 (rplaceG_194 - k4)) < 11 then 20 + WT2.idxOf (p8 bt k4 (rplaceG_194 - k4)) else 31) (by first | decide | omega)
    try simp only [ia_lt, ia_le, ia_eq, ia_m1, ia_0, ia_1, ne_eq, true_and, and_true, false_and, and_false, or_false, false_or, or_true, true_or, not_true_eq_false, not_false_eq_true] at *
    all_goals omega
  have q3 : cAl (bt k4) := by
    have h8 := hTC k4 (by omega)
    unfold cAl cLe cDi
    have b_y130 := ia_b y130
    have b_y182 := ia_b y182
    have b_rnumberG_196 := ia_b rnumberG_196
    have b_r214 := ia_b r214
    have b_r220 := ia_b r220
    have b_rlettersG_197 := Int64.toInt_lt rlettersG_197
    try have k_0 := ia_n (if WT0.idxOf (p8 bt k4 (rplaceG_194 - k4)) < 7 then 0 + WT0.idxOf (p8 bt k4 (rplaceG_194 - k4)) else 31) (by first | decide | omega)
    try have k_1 := ia_n 31 (by first | decide | omega)
    try have k_2 := ia_n (if WT2.idxOf (p8 bt k4 (rplaceG_194 - k4)) < 11 then 20 + WT2.idxOf (p8 bt k4 (rplaceG_194 - k4)) else 31) (by first | decide | omega)
    try simp only [ia_lt, ia_le, ia_eq, ia_m1, ia_0, ia_1, ne_eq, true_and, and_true, false_and, and_false, or_false, false_or, or_true, true_or, not_true_eq_false, not_false_eq_true] at *
    all_goals omega
  have q4 : rn bt rlength k4 = rplaceG_194 := by omega
  subst hgq
  exact RT_word jQ q1 q2 q3 q4 ‹_› ‹_› (by first | contradiction | exact wx_a ‹_› ‹_› | exact wx_b (wx_0 ‹_› ‹_›) ‹_› ‹_› | exact wx_c (wx_0 ‹_› ‹_›) (wx_1 ‹_› ‹_›) ‹_›) ‹_›
set_option maxRecDepth 20000 in
theorem lf_f_adv_59 (bt : Nat → Nat) (rlength : Nat) (rmostBytes : Nat) (rplace : Nat) (rtapeF : Nat → Int32) (gq : Nat) (k4 : Nat) (n8 : Nat) (y130 : Int32) (y182 : Int32) (rplaceG_194 : Nat) (rlettersG_197 : Int64) (r214 : Int32) (iv_rreader_0 : rlength ≤ 940) (iv_rreader_1 : rplace ≤ rlength) (iv_rreader_2 : rmostBytes ≤ 900) (hTC : TC bt rtapeF) (hgq : rplace = gq) (j5 : k4 ≤ 940) (j6 : k4 ≤ rlength) (jSk : sk bt rlength rplace = sk bt rlength k4) (hm10 : 940 - k4 < n8 + 1) (jQ : sk bt rlength rplace = k4) (c13 : rmostBytes < rlength) (c128 : k4 < rmostBytes) (c129 : k4 < rlength) (e131 : y130 = rtapeF k4) (t132 : bt k4 < 256) (t133 : y130.toInt = ((bt k4 : Nat) : Int) ∨ (128 ≤ bt k4 ∧ y130.toInt = ((bt k4 : Nat) : Int) - 256)) (t138 : ¬ (97 ≤ y130.toInt ∧ y130.toInt ≤ 122)) (e183 : y182 = rtapeF k4) (t184 : bt k4 < 256) (t185 : y182.toInt = ((bt k4 : Nat) : Int) ∨ (128 ≤ bt k4 ∧ y182.toInt = ((bt k4 : Nat) : Int) - 256)) (t188 : 48 ≤ y182.toInt) (t189 : y182.toInt ≤ 57) (p198 : rplaceG_194 ≤ rlength) (p199 : rplaceG_194 = rn bt rlength k4) (p200 : k4 < rplaceG_194) (v202 : dcn bt k4 (rplaceG_194 - k4) = 0) (v203 : (rplaceG_194 - k4) ≤ 7) (v204 : rlettersG_197 = Int64.ofNat (p8 bt k4 (rplaceG_194 - k4))) (v205 : LET bt k4 (rplaceG_194 - k4)) (p215 : r214 = nI (if WT0.idxOf (p8 bt k4 (rplaceG_194 - k4)) < 7 then 0 + WT0.idxOf (p8 bt k4 (rplaceG_194 - k4)) else 31)) (c216 : r214 = nI 31) : k4 ≤ rplaceG_194 := by
  have b_y130 := ia_b y130
  have b_y182 := ia_b y182
  have b_r214 := ia_b r214
  have b_rlettersG_197 := Int64.toInt_lt rlettersG_197
  try have k_0 := ia_n (if WT0.idxOf (p8 bt k4 (rplaceG_194 - k4)) < 7 then 0 + WT0.idxOf (p8 bt k4 (rplaceG_194 - k4)) else 31) (by first | decide | omega)
  try have k_1 := ia_n 31 (by first | decide | omega)
  try simp only [ia_lt, ia_le, ia_eq, ia_m1, ia_0, ia_1, ne_eq, true_and, and_true, false_and, and_false, or_false, false_or, or_true, true_or, not_true_eq_false, not_false_eq_true] at *
  all_goals omega
set_option maxRecDepth 20000 in
theorem lf_f_adv_60 (bt : Nat → Nat) (rlength : Nat) (rmostBytes : Nat) (rplace : Nat) (rtapeF : Nat → Int32) (gq : Nat) (k4 : Nat) (n8 : Nat) (y130 : Int32) (y182 : Int32) (rplaceG_194 : Nat) (rlettersG_197 : Int64) (r214 : Int32) (iv_rreader_0 : rlength ≤ 940) (iv_rreader_1 : rplace ≤ rlength) (iv_rreader_2 : rmostBytes ≤ 900) (hTC : TC bt rtapeF) (hgq : rplace = gq) (j5 : k4 ≤ 940) (j6 : k4 ≤ rlength) (jSk : sk bt rlength rplace = sk bt rlength k4) (hm10 : 940 - k4 < n8 + 1) (jQ : sk bt rlength rplace = k4) (c13 : rmostBytes < rlength) (c128 : k4 < rmostBytes) (c129 : k4 < rlength) (e131 : y130 = rtapeF k4) (t132 : bt k4 < 256) (t133 : y130.toInt = ((bt k4 : Nat) : Int) ∨ (128 ≤ bt k4 ∧ y130.toInt = ((bt k4 : Nat) : Int) - 256)) (t138 : ¬ (97 ≤ y130.toInt ∧ y130.toInt ≤ 122)) (e183 : y182 = rtapeF k4) (t184 : bt k4 < 256) (t185 : y182.toInt = ((bt k4 : Nat) : Int) ∨ (128 ≤ bt k4 ∧ y182.toInt = ((bt k4 : Nat) : Int) - 256)) (t188 : 48 ≤ y182.toInt) (t189 : y182.toInt ≤ 57) (p198 : rplaceG_194 ≤ rlength) (p199 : rplaceG_194 = rn bt rlength k4) (p200 : k4 < rplaceG_194) (v202 : dcn bt k4 (rplaceG_194 - k4) = 0) (v203 : (rplaceG_194 - k4) ≤ 7) (v204 : rlettersG_197 = Int64.ofNat (p8 bt k4 (rplaceG_194 - k4))) (v205 : LET bt k4 (rplaceG_194 - k4)) (p215 : r214 = nI (if WT0.idxOf (p8 bt k4 (rplaceG_194 - k4)) < 7 then 0 + WT0.idxOf (p8 bt k4 (rplaceG_194 - k4)) else 31)) (c216 : r214 = nI 31) : rplaceG_194 - k4 ≤ 7 := by
  have b_y130 := ia_b y130
  have b_y182 := ia_b y182
  have b_r214 := ia_b r214
  have b_rlettersG_197 := Int64.toInt_lt rlettersG_197
  try have k_0 := ia_n (if WT0.idxOf (p8 bt k4 (rplaceG_194 - k4)) < 7 then 0 + WT0.idxOf (p8 bt k4 (rplaceG_194 - k4)) else 31) (by first | decide | omega)
  try have k_1 := ia_n 31 (by first | decide | omega)
  try simp only [ia_lt, ia_le, ia_eq, ia_m1, ia_0, ia_1, ne_eq, true_and, and_true, false_and, and_false, or_false, false_or, or_true, true_or, not_true_eq_false, not_false_eq_true] at *
  all_goals omega
set_option maxRecDepth 20000 in
theorem lf_f_adv_61 (bt : Nat → Nat) (rlength : Nat) (rmostBytes : Nat) (rplace : Nat) (rtapeF : Nat → Int32) (gq : Nat) (k4 : Nat) (n8 : Nat) (y130 : Int32) (y182 : Int32) (rplaceG_194 : Nat) (rnumberG_196 : Int32) (rlettersG_197 : Int64) (r214 : Int32) (r224 : Int32) (iv_rreader_0 : rlength ≤ 940) (iv_rreader_1 : rplace ≤ rlength) (iv_rreader_2 : rmostBytes ≤ 900) (hTC : TC bt rtapeF) (hgq : rplace = gq) (j5 : k4 ≤ 940) (j6 : k4 ≤ rlength) (jSk : sk bt rlength rplace = sk bt rlength k4) (hm10 : 940 - k4 < n8 + 1) (jQ : sk bt rlength rplace = k4) (c13 : rmostBytes < rlength) (c128 : k4 < rmostBytes) (c129 : k4 < rlength) (e131 : y130 = rtapeF k4) (t132 : bt k4 < 256) (t133 : y130.toInt = ((bt k4 : Nat) : Int) ∨ (128 ≤ bt k4 ∧ y130.toInt = ((bt k4 : Nat) : Int) - 256)) (t138 : ¬ (97 ≤ y130.toInt ∧ y130.toInt ≤ 122)) (e183 : y182 = rtapeF k4) (t184 : bt k4 < 256) (t185 : y182.toInt = ((bt k4 : Nat) : Int) ∨ (128 ≤ bt k4 ∧ y182.toInt = ((bt k4 : Nat) : Int) - 256)) (t188 : 48 ≤ y182.toInt) (t189 : y182.toInt ≤ 57) (p198 : rplaceG_194 ≤ rlength) (p199 : rplaceG_194 = rn bt rlength k4) (p200 : k4 < rplaceG_194) (v202 : dcn bt k4 (rplaceG_194 - k4) = 0) (v203 : (rplaceG_194 - k4) ≤ 7) (v204 : rlettersG_197 = Int64.ofNat (p8 bt k4 (rplaceG_194 - k4))) (v205 : LET bt k4 (rplaceG_194 - k4)) (p215 : r214 = nI (if WT0.idxOf (p8 bt k4 (rplaceG_194 - k4)) < 7 then 0 + WT0.idxOf (p8 bt k4 (rplaceG_194 - k4)) else 31)) (c216 : r214 = nI 31) (p225 : r224 = nI (if WT1.idxOf (p8 bt k4 (rplaceG_194 - k4)) < 13 then 7 + WT1.idxOf (p8 bt k4 (rplaceG_194 - k4)) else 31)) (c226 : r224 ≠ nI 31) : RT bt rlength rmostBytes gq (nI 2) k4 rplaceG_194 r224 rnumberG_196 rlettersG_197 := by
  have q1 : ¬ (rmostBytes < rlength ∧ rmostBytes ≤ k4) := by
    have b_y130 := ia_b y130
    have b_y182 := ia_b y182
    have b_rnumberG_196 := ia_b rnumberG_196
    have b_r214 := ia_b r214
    have b_r224 := ia_b r224
    have b_rlettersG_197 := Int64.toInt_lt rlettersG_197
    try have k_0 := ia_n (if WT0.idxOf (p8 bt k4 (rplaceG_194 - k4)) < 7 then 0 + WT0.idxOf (p8 bt k4 (rplaceG_194 - k4)) else 31) (by first | decide | omega)
    try have k_1 := ia_n 31 (by first | decide | omega)
    try have k_2 := ia_n (if WT1.idxOf (p8 bt k4 (rplaceG_194 - k4)) < 13 then 7 + WT1.idxOf (p8 bt k4 (rplaceG_194 - k4)) else 31) (by first | decide | omega)
    try simp only [ia_lt, ia_le, ia_eq, ia_m1, ia_0, ia_1, ne_eq, true_and, and_true, false_and, and_false, or_false, false_or, or_true, true_or, not_true_eq_false, not_false_eq_true] at *
    all_goals omega
  have q2 : k4 < rlength := by
    have b_y130 := ia_b y130
    have b_y182 := ia_b y182
    have b_rnumberG_196 := ia_b rnumberG_196
    have b_r214 := ia_b r214
    have b_r224 := ia_b r224
    have b_rlettersG_197 := Int64.toInt_lt rlettersG_197
    try have k_0 := ia_n (if WT0.idxOf (p8 bt k4 (rplaceG_194 - k4)) < 7 then 0 + WT0.idxOf (p8 bt k4 (rplaceG_194 - k4)) else 31) (by first | decide | omega)
    try have k_1 := ia_n 31 (by first | decide | omega)
    try have k_2 := ia_n (if WT1.idxOf (p8 bt k4 (rplaceG_194 - k4)) < 13 then 7 + WT1.idxOf (p8 bt k4 (rplaceG_194 - k4)) else 31) (by first | decide | omega)
    try simp only [ia_lt, ia_le, ia_eq, ia_m1, ia_0, ia_1, ne_eq, true_and, and_true, false_and, and_false, or_false, false_or, or_true, true_or, not_true_eq_false, not_false_eq_true] at *
    all_goals omega
  have q3 : cAl (bt k4) := by
    have h8 := hTC k4 (by omega)
    unfold cAl cLe cDi
    have b_y130 := ia_b y130
    have b_y182 := ia_b y182
    have b_rnumberG_196 := ia_b rnumberG_196
    have b_r214 := ia_b r214
    have b_r224 := ia_b r224
    have b_rlettersG_197 := Int64.toInt_lt rlettersG_197
    try have k_0 := ia_n (if WT0.idxOf (p8 bt k4 (rplaceG_194 - k4)) < 7 then 0 + WT0.idxOf (p8 bt k4 (rplaceG_194 - k4)) else 31) (by first | decide | omega)
    try have k_1 := ia_n 31 (by first | decide | omega)
    try have k_2 := ia_n (if WT1.idxOf (p8 bt k4 (rplaceG_194 - k4)) < 13 then 7 + WT1.idxOf (p8 bt k4 (rplaceG_194 - k4)) else 31) (by first | decide | omega)
    try simp only [ia_lt, ia_le, ia_eq, ia_m1, ia_0, ia_1, ne_eq, true_and, and_true, false_and, and_false, or_false, false_or, or_true, true_or, not_true_eq_false, not_false_eq_true] at *
    all_goals omega
  have q4 : rn bt rlength k4 = rplaceG_194 := by omega
  subst hgq
  exact RT_word jQ q1 q2 q3 q4 ‹_› ‹_› (by first | contradiction | exact wx_a ‹_› ‹_› | exact wx_b (wx_0 ‹_› ‹_›) ‹_› ‹_› | exact wx_c (wx_0 ‹_› ‹_›) (wx_1 ‹_› ‹_›) ‹_›) ‹_›
set_option maxRecDepth 20000 in
theorem lf_f_adv_62 (bt : Nat → Nat) (rlength : Nat) (rmostBytes : Nat) (rplace : Nat) (rtapeF : Nat → Int32) (gq : Nat) (k4 : Nat) (n8 : Nat) (y130 : Int32) (y182 : Int32) (rplaceG_194 : Nat) (rlettersG_197 : Int64) (r214 : Int32) (r224 : Int32) (iv_rreader_0 : rlength ≤ 940) (iv_rreader_1 : rplace ≤ rlength) (iv_rreader_2 : rmostBytes ≤ 900) (hTC : TC bt rtapeF) (hgq : rplace = gq) (j5 : k4 ≤ 940) (j6 : k4 ≤ rlength) (jSk : sk bt rlength rplace = sk bt rlength k4) (hm10 : 940 - k4 < n8 + 1) (jQ : sk bt rlength rplace = k4) (c13 : rmostBytes < rlength) (c128 : k4 < rmostBytes) (c129 : k4 < rlength) (e131 : y130 = rtapeF k4) (t132 : bt k4 < 256) (t133 : y130.toInt = ((bt k4 : Nat) : Int) ∨ (128 ≤ bt k4 ∧ y130.toInt = ((bt k4 : Nat) : Int) - 256)) (t138 : ¬ (97 ≤ y130.toInt ∧ y130.toInt ≤ 122)) (e183 : y182 = rtapeF k4) (t184 : bt k4 < 256) (t185 : y182.toInt = ((bt k4 : Nat) : Int) ∨ (128 ≤ bt k4 ∧ y182.toInt = ((bt k4 : Nat) : Int) - 256)) (t188 : 48 ≤ y182.toInt) (t189 : y182.toInt ≤ 57) (p198 : rplaceG_194 ≤ rlength) (p199 : rplaceG_194 = rn bt rlength k4) (p200 : k4 < rplaceG_194) (v202 : dcn bt k4 (rplaceG_194 - k4) = 0) (v203 : (rplaceG_194 - k4) ≤ 7) (v204 : rlettersG_197 = Int64.ofNat (p8 bt k4 (rplaceG_194 - k4))) (v205 : LET bt k4 (rplaceG_194 - k4)) (p215 : r214 = nI (if WT0.idxOf (p8 bt k4 (rplaceG_194 - k4)) < 7 then 0 + WT0.idxOf (p8 bt k4 (rplaceG_194 - k4)) else 31)) (c216 : r214 = nI 31) (p225 : r224 = nI (if WT1.idxOf (p8 bt k4 (rplaceG_194 - k4)) < 13 then 7 + WT1.idxOf (p8 bt k4 (rplaceG_194 - k4)) else 31)) (c226 : r224 = nI 31) : k4 ≤ rplaceG_194 := by
  have b_y130 := ia_b y130
  have b_y182 := ia_b y182
  have b_r214 := ia_b r214
  have b_r224 := ia_b r224
  have b_rlettersG_197 := Int64.toInt_lt rlettersG_197
  try have k_0 := ia_n (if WT0.idxOf (p8 bt k4 (rplaceG_194 - k4)) < 7 then 0 + WT0.idxOf (p8 bt k4 (rplaceG_194 - k4)) else 31) (by first | decide | omega)
  try have k_1 := ia_n 31 (by first | decide | omega)
  try have k_2 := ia_n (if WT1.idxOf (p8 bt k4 (rplaceG_194 - k4)) < 13 then 7 + WT1.idxOf (p8 bt k4 (rplaceG_194 - k4)) else 31) (by first | decide | omega)
  try simp only [ia_lt, ia_le, ia_eq, ia_m1, ia_0, ia_1, ne_eq, true_and, and_true, false_and, and_false, or_false, false_or, or_true, true_or, not_true_eq_false, not_false_eq_true] at *
  all_goals omega
set_option maxRecDepth 20000 in
theorem lf_f_adv_63 (bt : Nat → Nat) (rlength : Nat) (rmostBytes : Nat) (rplace : Nat) (rtapeF : Nat → Int32) (gq : Nat) (k4 : Nat) (n8 : Nat) (y130 : Int32) (y182 : Int32) (rplaceG_194 : Nat) (rlettersG_197 : Int64) (r214 : Int32) (r224 : Int32) (iv_rreader_0 : rlength ≤ 940) (iv_rreader_1 : rplace ≤ rlength) (iv_rreader_2 : rmostBytes ≤ 900) (hTC : TC bt rtapeF) (hgq : rplace = gq) (j5 : k4 ≤ 940) (j6 : k4 ≤ rlength) (jSk : sk bt rlength rplace = sk bt rlength k4) (hm10 : 940 - k4 < n8 + 1) (jQ : sk bt rlength rplace = k4) (c13 : rmostBytes < rlength) (c128 : k4 < rmostBytes) (c129 : k4 < rlength) (e131 : y130 = rtapeF k4) (t132 : bt k4 < 256) (t133 : y130.toInt = ((bt k4 : Nat) : Int) ∨ (128 ≤ bt k4 ∧ y130.toInt = ((bt k4 : Nat) : Int) - 256)) (t138 : ¬ (97 ≤ y130.toInt ∧ y130.toInt ≤ 122)) (e183 : y182 = rtapeF k4) (t184 : bt k4 < 256) (t185 : y182.toInt = ((bt k4 : Nat) : Int) ∨ (128 ≤ bt k4 ∧ y182.toInt = ((bt k4 : Nat) : Int) - 256)) (t188 : 48 ≤ y182.toInt) (t189 : y182.toInt ≤ 57) (p198 : rplaceG_194 ≤ rlength) (p199 : rplaceG_194 = rn bt rlength k4) (p200 : k4 < rplaceG_194) (v202 : dcn bt k4 (rplaceG_194 - k4) = 0) (v203 : (rplaceG_194 - k4) ≤ 7) (v204 : rlettersG_197 = Int64.ofNat (p8 bt k4 (rplaceG_194 - k4))) (v205 : LET bt k4 (rplaceG_194 - k4)) (p215 : r214 = nI (if WT0.idxOf (p8 bt k4 (rplaceG_194 - k4)) < 7 then 0 + WT0.idxOf (p8 bt k4 (rplaceG_194 - k4)) else 31)) (c216 : r214 = nI 31) (p225 : r224 = nI (if WT1.idxOf (p8 bt k4 (rplaceG_194 - k4)) < 13 then 7 + WT1.idxOf (p8 bt k4 (rplaceG_194 - k4)) else 31)) (c226 : r224 = nI 31) : rplaceG_194 - k4 ≤ 7 := by
  have b_y130 := ia_b y130
  have b_y182 := ia_b y182
  have b_r214 := ia_b r214
  have b_r224 := ia_b r224
  have b_rlettersG_197 := Int64.toInt_lt rlettersG_197
  try have k_0 := ia_n (if WT0.idxOf (p8 bt k4 (rplaceG_194 - k4)) < 7 then 0 + WT0.idxOf (p8 bt k4 (rplaceG_194 - k4)) else 31) (by first | decide | omega)
  try have k_1 := ia_n 31 (by first | decide | omega)
  try have k_2 := ia_n (if WT1.idxOf (p8 bt k4 (rplaceG_194 - k4)) < 13 then 7 + WT1.idxOf (p8 bt k4 (rplaceG_194 - k4)) else 31) (by first | decide | omega)
  try simp only [ia_lt, ia_le, ia_eq, ia_m1, ia_0, ia_1, ne_eq, true_and, and_true, false_and, and_false, or_false, false_or, or_true, true_or, not_true_eq_false, not_false_eq_true] at *
  all_goals omega
set_option maxRecDepth 20000 in
theorem lf_f_adv_64 (bt : Nat → Nat) (rlength : Nat) (rmostBytes : Nat) (rplace : Nat) (rtapeF : Nat → Int32) (gq : Nat) (k4 : Nat) (n8 : Nat) (y130 : Int32) (y182 : Int32) (rplaceG_194 : Nat) (rnumberG_196 : Int32) (rlettersG_197 : Int64) (r214 : Int32) (r224 : Int32) (r229 : Int32) (iv_rreader_0 : rlength ≤ 940) (iv_rreader_1 : rplace ≤ rlength) (iv_rreader_2 : rmostBytes ≤ 900) (hTC : TC bt rtapeF) (hgq : rplace = gq) (j5 : k4 ≤ 940) (j6 : k4 ≤ rlength) (jSk : sk bt rlength rplace = sk bt rlength k4) (hm10 : 940 - k4 < n8 + 1) (jQ : sk bt rlength rplace = k4) (c13 : rmostBytes < rlength) (c128 : k4 < rmostBytes) (c129 : k4 < rlength) (e131 : y130 = rtapeF k4) (t132 : bt k4 < 256) (t133 : y130.toInt = ((bt k4 : Nat) : Int) ∨ (128 ≤ bt k4 ∧ y130.toInt = ((bt k4 : Nat) : Int) - 256)) (t138 : ¬ (97 ≤ y130.toInt ∧ y130.toInt ≤ 122)) (e183 : y182 = rtapeF k4) (t184 : bt k4 < 256) (t185 : y182.toInt = ((bt k4 : Nat) : Int) ∨ (128 ≤ bt k4 ∧ y182.toInt = ((bt k4 : Nat) : Int) - 256)) (t188 : 48 ≤ y182.toInt) (t189 : y182.toInt ≤ 57) (p198 : rplaceG_194 ≤ rlength) (p199 : rplaceG_194 = rn bt rlength k4) (p200 : k4 < rplaceG_194) (v202 : dcn bt k4 (rplaceG_194 - k4) = 0) (v203 : (rplaceG_194 - k4) ≤ 7) (v204 : rlettersG_197 = Int64.ofNat (p8 bt k4 (rplaceG_194 - k4))) (v205 : LET bt k4 (rplaceG_194 - k4)) (p215 : r214 = nI (if WT0.idxOf (p8 bt k4 (rplaceG_194 - k4)) < 7 then 0 + WT0.idxOf (p8 bt k4 (rplaceG_194 - k4)) else 31)) (c216 : r214 = nI 31) (p225 : r224 = nI (if WT1.idxOf (p8 bt k4 (rplaceG_194 - k4)) < 13 then 7 + WT1.idxOf (p8 bt k4 (rplaceG_194 - k4)) else 31)) (c226 : r224 = nI 31) (p230 : r229 = nI (if WT2.idxOf (p8 bt k4 (rplaceG_194 - k4)) < 11 then 20 + WT2.idxOf (p8 bt k4 (rplaceG_194 - k4)) else 31)) : RT bt rlength rmostBytes gq (nI 2) k4 rplaceG_194 r229 rnumberG_196 rlettersG_197 := by
  have q1 : ¬ (rmostBytes < rlength ∧ rmostBytes ≤ k4) := by
    have b_y130 := ia_b y130
    have b_y182 := ia_b y182
    have b_rnumberG_196 := ia_b rnumberG_196
    have b_r214 := ia_b r214
    have b_r224 := ia_b r224
    have b_r229 := ia_b r229
    have b_rlettersG_197 := Int64.toInt_lt rlettersG_197
    try have k_0 := ia_n (if WT0.idxOf (p8 bt k4 (rplaceG_194 - k4)) < 7 then 0 + WT0.idxOf (p8 bt k4 (rplaceG_194 - k4)) else 31) (by first | decide | omega)
    try have k_1 := ia_n 31 (by first | decide | omega)
    try have k_2 := ia_n (if WT1.idxOf (p8 bt k4 (rplaceG_194 - k4)) < 13 then 7 + WT1.idxOf (p8 bt k4 (rplaceG_194 - k4)) else 31) (by first | decide | omega)
    try have k_3 := ia_n (if WT2.idxOf (p8 bt k4 (rplaceG_194 - k4)) < 11 then 20 + WT2.idxOf (p8 bt k4 (rplaceG_194 - k4)) else 31) (by first | decide | omega)
    try simp only [ia_lt, ia_le, ia_eq, ia_m1, ia_0, ia_1, ne_eq, true_and, and_true, false_and, and_false, or_false, false_or, or_true, true_or, not_true_eq_false, not_false_eq_true] at *
    all_goals omega
  have q2 : k4 < rlength := by
    have b_y130 := ia_b y130
    have b_y182 := ia_b y182
    have b_rnumberG_196 := ia_b rnumberG_196
    have b_r214 := ia_b r214
    have b_r224 := ia_b r224
    have b_r229 := ia_b r229
    have b_rlettersG_197 := Int64.toInt_lt rlettersG_197
    try have k_0 := ia_n (if WT0.idxOf (p8 bt k4 (rplaceG_194 - k4)) < 7 then 0 + WT0.idxOf (p8 bt k4 (rplaceG_194 - k4)) else 31) (by first | decide | omega)
    try have k_1 := ia_n 31 (by first | decide | omega)
    try have k_2 := ia_n (if WT1.idxOf (p8 bt k4 (rplaceG_194 - k4)) < 13 then 7 + WT1.idxOf (p8 bt k4 (rplaceG_194 - k4)) else 31) (by first | decide | omega)
    try have k_3 := ia_n (if WT2.idxOf (p8 bt k4 (rplaceG_194 - k4)) < 11 then 20 + WT2.idxOf (p8 bt k4 (rplaceG_194 - k4)) else 31) (by first | decide | omega)
    try simp only [ia_lt, ia_le, ia_eq, ia_m1, ia_0, ia_1, ne_eq, true_and, and_true, false_and, and_false, or_false, false_or, or_true, true_or, not_true_eq_false, not_false_eq_true] at *
    all_goals omega
  have q3 : cAl (bt k4) := by
    have h8 := hTC k4 (by omega)
    unfold cAl cLe cDi
    have b_y130 := ia_b y130
    have b_y182 := ia_b y182
    have b_rnumberG_196 := ia_b rnumberG_196
    have b_r214 := ia_b r214
    have b_r224 := ia_b r224
    have b_r229 := ia_b r229
    have b_rlettersG_197 := Int64.toInt_lt rlettersG_197
    try have k_0 := ia_n (if WT0.idxOf (p8 bt k4 (rplaceG_194 - k4)) < 7 then 0 + WT0.idxOf (p8 bt k4 (rplaceG_194 - k4)) else 31) (by first | decide | omega)
    try have k_1 := ia_n 31 (by first | decide | omega)
    try have k_2 := ia_n (if WT1.idxOf (p8 bt k4 (rplaceG_194 - k4)) < 13 then 7 + WT1.idxOf (p8 bt k4 (rplaceG_194 - k4)) else 31) (by first | decide | omega)
    try have k_3 := ia_n (if WT2.idxOf (p8 bt k4 (rplaceG_194 - k4)) < 11 then 20 + WT2.idxOf (p8 bt k4 (rplaceG_194 - k4)) else 31) (by first | decide | omega)
    try simp only [ia_lt, ia_le, ia_eq, ia_m1, ia_0, ia_1, ne_eq, true_and, and_true, false_and, and_false, or_false, false_or, or_true, true_or, not_true_eq_false, not_false_eq_true] at *
    all_goals omega
  have q4 : rn bt rlength k4 = rplaceG_194 := by omega
  subst hgq
  exact RT_word jQ q1 q2 q3 q4 ‹_› ‹_› (by first | contradiction | exact wx_a ‹_› ‹_› | exact wx_b (wx_0 ‹_› ‹_›) ‹_› ‹_› | exact wx_c (wx_0 ‹_› ‹_›) (wx_1 ‹_› ‹_›) ‹_›) ‹_›
set_option maxRecDepth 20000 in
theorem lf_f_adv_65 (bt : Nat → Nat) (rlength : Nat) (rmostBytes : Nat) (rplace : Nat) (rtapeF : Nat → Int32) (gq : Nat) (k4 : Nat) (n8 : Nat) (y130 : Int32) (y182 : Int32) (rplaceG_194 : Nat) (rnumberG_196 : Int32) (rlettersG_197 : Int64) (iv_rreader_0 : rlength ≤ 940) (iv_rreader_1 : rplace ≤ rlength) (iv_rreader_2 : rmostBytes ≤ 900) (hTC : TC bt rtapeF) (hgq : rplace = gq) (j5 : k4 ≤ 940) (j6 : k4 ≤ rlength) (jSk : sk bt rlength rplace = sk bt rlength k4) (hm10 : 940 - k4 < n8 + 1) (jQ : sk bt rlength rplace = k4) (c13 : rmostBytes < rlength) (c128 : k4 < rmostBytes) (c129 : k4 < rlength) (e131 : y130 = rtapeF k4) (t132 : bt k4 < 256) (t133 : y130.toInt = ((bt k4 : Nat) : Int) ∨ (128 ≤ bt k4 ∧ y130.toInt = ((bt k4 : Nat) : Int) - 256)) (t138 : ¬ (97 ≤ y130.toInt ∧ y130.toInt ≤ 122)) (e183 : y182 = rtapeF k4) (t184 : bt k4 < 256) (t185 : y182.toInt = ((bt k4 : Nat) : Int) ∨ (128 ≤ bt k4 ∧ y182.toInt = ((bt k4 : Nat) : Int) - 256)) (t188 : 48 ≤ y182.toInt) (t189 : y182.toInt ≤ 57) (p198 : rplaceG_194 ≤ rlength) (p199 : rplaceG_194 = rn bt rlength k4) (p200 : k4 < rplaceG_194) (v206 : dcn bt k4 (rplaceG_194 - k4) = (rplaceG_194 - k4)) (v207 : (rplaceG_194 - k4) ≤ 3) (v208 : rnumberG_196 = nI (nvn bt k4 (rplaceG_194 - k4))) : RT bt rlength rmostBytes gq (nI 3) k4 rplaceG_194 (-1 : Int32) rnumberG_196 rlettersG_197 := by
  have q1 : ¬ (rmostBytes < rlength ∧ rmostBytes ≤ k4) := by
    have b_y130 := ia_b y130
    have b_y182 := ia_b y182
    have b_rnumberG_196 := ia_b rnumberG_196
    have b_rlettersG_197 := Int64.toInt_lt rlettersG_197
    try have k_0 := ia_n (nvn bt k4 (rplaceG_194 - k4)) (by first | decide | omega)
    try simp only [ia_lt, ia_le, ia_eq, ia_m1, ia_0, ia_1, ne_eq, true_and, and_true, false_and, and_false, or_false, false_or, or_true, true_or, not_true_eq_false, not_false_eq_true] at *
    all_goals omega
  have q2 : k4 < rlength := by
    have b_y130 := ia_b y130
    have b_y182 := ia_b y182
    have b_rnumberG_196 := ia_b rnumberG_196
    have b_rlettersG_197 := Int64.toInt_lt rlettersG_197
    try have k_0 := ia_n (nvn bt k4 (rplaceG_194 - k4)) (by first | decide | omega)
    try simp only [ia_lt, ia_le, ia_eq, ia_m1, ia_0, ia_1, ne_eq, true_and, and_true, false_and, and_false, or_false, false_or, or_true, true_or, not_true_eq_false, not_false_eq_true] at *
    all_goals omega
  have q3 : cAl (bt k4) := by
    have h8 := hTC k4 (by omega)
    unfold cAl cLe cDi
    have b_y130 := ia_b y130
    have b_y182 := ia_b y182
    have b_rnumberG_196 := ia_b rnumberG_196
    have b_rlettersG_197 := Int64.toInt_lt rlettersG_197
    try have k_0 := ia_n (nvn bt k4 (rplaceG_194 - k4)) (by first | decide | omega)
    try simp only [ia_lt, ia_le, ia_eq, ia_m1, ia_0, ia_1, ne_eq, true_and, and_true, false_and, and_false, or_false, false_or, or_true, true_or, not_true_eq_false, not_false_eq_true] at *
    all_goals omega
  have q4 : rn bt rlength k4 = rplaceG_194 := by omega
  subst hgq
  exact RT_num jQ q1 q2 q3 q4 ‹_› ‹_› ‹_›
set_option maxRecDepth 20000 in
theorem lf_f_adv_66 (bt : Nat → Nat) (rlength : Nat) (rmostBytes : Nat) (rplace : Nat) (rtapeF : Nat → Int32) (gq : Nat) (k4 : Nat) (n8 : Nat) (y130 : Int32) (y182 : Int32) (rplaceG_194 : Nat) (rnumberG_196 : Int32) (rlettersG_197 : Int64) (iv_rreader_0 : rlength ≤ 940) (iv_rreader_1 : rplace ≤ rlength) (iv_rreader_2 : rmostBytes ≤ 900) (hTC : TC bt rtapeF) (hgq : rplace = gq) (j5 : k4 ≤ 940) (j6 : k4 ≤ rlength) (jSk : sk bt rlength rplace = sk bt rlength k4) (hm10 : 940 - k4 < n8 + 1) (jQ : sk bt rlength rplace = k4) (c13 : rmostBytes < rlength) (c128 : k4 < rmostBytes) (c129 : k4 < rlength) (e131 : y130 = rtapeF k4) (t132 : bt k4 < 256) (t133 : y130.toInt = ((bt k4 : Nat) : Int) ∨ (128 ≤ bt k4 ∧ y130.toInt = ((bt k4 : Nat) : Int) - 256)) (t138 : ¬ (97 ≤ y130.toInt ∧ y130.toInt ≤ 122)) (e183 : y182 = rtapeF k4) (t184 : bt k4 < 256) (t185 : y182.toInt = ((bt k4 : Nat) : Int) ∨ (128 ≤ bt k4 ∧ y182.toInt = ((bt k4 : Nat) : Int) - 256)) (t188 : 48 ≤ y182.toInt) (t189 : y182.toInt ≤ 57) (p198 : rplaceG_194 ≤ rlength) (p199 : rplaceG_194 = rn bt rlength k4) (p200 : k4 < rplaceG_194) (v209 : ¬ (dcn bt k4 (rplaceG_194 - k4) = 0 ∧ (rplaceG_194 - k4) ≤ 7)) (v210 : ¬ (dcn bt k4 (rplaceG_194 - k4) = (rplaceG_194 - k4) ∧ (rplaceG_194 - k4) ≤ 3)) : RT bt rlength rmostBytes gq (nI 1) k4 rplaceG_194 (-1 : Int32) rnumberG_196 rlettersG_197 := by
  have q1 : ¬ (rmostBytes < rlength ∧ rmostBytes ≤ k4) := by
    have b_y130 := ia_b y130
    have b_y182 := ia_b y182
    have b_rnumberG_196 := ia_b rnumberG_196
    have b_rlettersG_197 := Int64.toInt_lt rlettersG_197
    try simp only [ia_lt, ia_le, ia_eq, ia_m1, ia_0, ia_1, ne_eq, true_and, and_true, false_and, and_false, or_false, false_or, or_true, true_or, not_true_eq_false, not_false_eq_true] at *
    all_goals omega
  have q2 : k4 < rlength := by
    have b_y130 := ia_b y130
    have b_y182 := ia_b y182
    have b_rnumberG_196 := ia_b rnumberG_196
    have b_rlettersG_197 := Int64.toInt_lt rlettersG_197
    try simp only [ia_lt, ia_le, ia_eq, ia_m1, ia_0, ia_1, ne_eq, true_and, and_true, false_and, and_false, or_false, false_or, or_true, true_or, not_true_eq_false, not_false_eq_true] at *
    all_goals omega
  have q3 : cAl (bt k4) := by
    have h8 := hTC k4 (by omega)
    unfold cAl cLe cDi
    have b_y130 := ia_b y130
    have b_y182 := ia_b y182
    have b_rnumberG_196 := ia_b rnumberG_196
    have b_rlettersG_197 := Int64.toInt_lt rlettersG_197
    try simp only [ia_lt, ia_le, ia_eq, ia_m1, ia_0, ia_1, ne_eq, true_and, and_true, false_and, and_false, or_false, false_or, or_true, true_or, not_true_eq_false, not_false_eq_true] at *
    all_goals omega
  have q4 : rn bt rlength k4 = rplaceG_194 := by omega
  subst hgq
  exact RT_bad jQ q1 q2 q3 q4 ‹_› ‹_›
set_option maxRecDepth 20000 in
theorem lf_f_adv_67 (bt : Nat → Nat) (rlength : Nat) (rmostBytes : Nat) (rplace : Nat) (rnumber : Int32) (rletters : Int64) (rtapeF : Nat → Int32) (gq : Nat) (k4 : Nat) (n8 : Nat) (y130 : Int32) (y182 : Int32) (rplaceG_236 : Nat) (rkindG_237 : Int32) (iv_rreader_0 : rlength ≤ 940) (iv_rreader_1 : rplace ≤ rlength) (iv_rreader_2 : rmostBytes ≤ 900) (hTC : TC bt rtapeF) (hgq : rplace = gq) (j5 : k4 ≤ 940) (j6 : k4 ≤ rlength) (jSk : sk bt rlength rplace = sk bt rlength k4) (hm10 : 940 - k4 < n8 + 1) (jQ : sk bt rlength rplace = k4) (c13 : rmostBytes < rlength) (c128 : k4 < rmostBytes) (c129 : k4 < rlength) (e131 : y130 = rtapeF k4) (t132 : bt k4 < 256) (t133 : y130.toInt = ((bt k4 : Nat) : Int) ∨ (128 ≤ bt k4 ∧ y130.toInt = ((bt k4 : Nat) : Int) - 256)) (t138 : ¬ (97 ≤ y130.toInt ∧ y130.toInt ≤ 122)) (e183 : y182 = rtapeF k4) (t184 : bt k4 < 256) (t185 : y182.toInt = ((bt k4 : Nat) : Int) ∨ (128 ≤ bt k4 ∧ y182.toInt = ((bt k4 : Nat) : Int) - 256)) (t190 : ¬ (48 ≤ y182.toInt ∧ y182.toInt ≤ 57)) (p238 : rplaceG_236 ≤ rlength) (p239 : rplaceG_236 = k4 + 1) (p240 : rkindG_237 = nI (if cSg (bt k4) then bt k4 else 1)) : RT bt rlength rmostBytes gq rkindG_237 k4 rplaceG_236 (-1 : Int32) rnumber rletters := by
  have q1 : ¬ (rmostBytes < rlength ∧ rmostBytes ≤ k4) := by
    have b_rnumber := ia_b rnumber
    have b_y130 := ia_b y130
    have b_y182 := ia_b y182
    have b_rkindG_237 := ia_b rkindG_237
    have b_rletters := Int64.toInt_lt rletters
    try have k_0 := ia_n (if cSg (bt k4) then bt k4 else 1) (by first | decide | omega)
    try simp only [ia_lt, ia_le, ia_eq, ia_m1, ia_0, ia_1, ne_eq, true_and, and_true, false_and, and_false, or_false, false_or, or_true, true_or, not_true_eq_false, not_false_eq_true] at *
    all_goals omega
  have q2 : k4 < rlength := by
    have b_rnumber := ia_b rnumber
    have b_y130 := ia_b y130
    have b_y182 := ia_b y182
    have b_rkindG_237 := ia_b rkindG_237
    have b_rletters := Int64.toInt_lt rletters
    try have k_0 := ia_n (if cSg (bt k4) then bt k4 else 1) (by first | decide | omega)
    try simp only [ia_lt, ia_le, ia_eq, ia_m1, ia_0, ia_1, ne_eq, true_and, and_true, false_and, and_false, or_false, false_or, or_true, true_or, not_true_eq_false, not_false_eq_true] at *
    all_goals omega
  have q3 : ¬ cAl (bt k4) := by
    have h8 := hTC k4 (by omega)
    unfold cAl cLe cDi
    have b_rnumber := ia_b rnumber
    have b_y130 := ia_b y130
    have b_y182 := ia_b y182
    have b_rkindG_237 := ia_b rkindG_237
    have b_rletters := Int64.toInt_lt rletters
    try have k_0 := ia_n (if cSg (bt k4) then bt k4 else 1) (by first | decide | omega)
    try simp only [ia_lt, ia_le, ia_eq, ia_m1, ia_0, ia_1, ne_eq, true_and, and_true, false_and, and_false, or_false, false_or, or_true, true_or, not_true_eq_false, not_false_eq_true] at *
    all_goals omega
  have q4 : rplaceG_236 = k4 + 1 := by omega
  subst hgq
  rw [q4]
  exact RT_sgn jQ q1 q2 q3 ‹_›
set_option maxRecDepth 20000 in
theorem lf_f_adv_68 (bt : Nat → Nat) (rlength : Nat) (rmostBytes : Nat) (rplace : Nat) (rnumber : Int32) (rletters : Int64) (rtapeF : Nat → Int32) (gq : Nat) (k4 : Nat) (n8 : Nat) (iv_rreader_0 : rlength ≤ 940) (iv_rreader_1 : rplace ≤ rlength) (iv_rreader_2 : rmostBytes ≤ 900) (hTC : TC bt rtapeF) (hgq : rplace = gq) (j5 : k4 ≤ 940) (j6 : k4 ≤ rlength) (jSk : sk bt rlength rplace = sk bt rlength k4) (hm10 : 940 - k4 < n8 + 1) (jQ : sk bt rlength rplace = k4) (c13 : rmostBytes < rlength) (c128 : k4 < rmostBytes) (c129 : rlength ≤ k4) : RT bt rlength rmostBytes gq (nI 0) k4 k4 (-1 : Int32) rnumber rletters := by
  have q1 : ¬ (rmostBytes < rlength ∧ rmostBytes ≤ k4) := by
    have b_rnumber := ia_b rnumber
    have b_rletters := Int64.toInt_lt rletters
    try simp only [ia_lt, ia_le, ia_eq, ia_m1, ia_0, ia_1, ne_eq, true_and, and_true, false_and, and_false, or_false, false_or, or_true, true_or, not_true_eq_false, not_false_eq_true] at *
    all_goals omega
  have q2 : rlength ≤ k4 := by
    have b_rnumber := ia_b rnumber
    have b_rletters := Int64.toInt_lt rletters
    try simp only [ia_lt, ia_le, ia_eq, ia_m1, ia_0, ia_1, ne_eq, true_and, and_true, false_and, and_false, or_false, false_or, or_true, true_or, not_true_eq_false, not_false_eq_true] at *
    all_goals omega
  subst hgq
  exact RT_end jQ q1 q2
set_option maxRecDepth 20000 in
theorem lf_f_adv_69 (bt : Nat → Nat) (rlength : Nat) (rmostBytes : Nat) (rplace : Nat) (rtapeF : Nat → Int32) (gq : Nat) (k4 : Nat) (n8 : Nat) (iv_rreader_0 : rlength ≤ 940) (iv_rreader_1 : rplace ≤ rlength) (iv_rreader_2 : rmostBytes ≤ 900) (hTC : TC bt rtapeF) (hgq : rplace = gq) (j5 : k4 ≤ 940) (j6 : k4 ≤ rlength) (jSk : sk bt rlength rplace = sk bt rlength k4) (hm10 : 940 - k4 < n8 + 1) (jQ : sk bt rlength rplace = k4) (c13 : rmostBytes < rlength) (c128 : rmostBytes ≤ k4) : rmostBytes ≤ 940 := by
  try simp only [ia_lt, ia_le, ia_eq, ia_m1, ia_0, ia_1, ne_eq, true_and, and_true, false_and, and_false, or_false, false_or, or_true, true_or, not_true_eq_false, not_false_eq_true] at *
  all_goals omega
set_option maxRecDepth 20000 in
theorem lf_f_adv_70 (bt : Nat → Nat) (rlength : Nat) (rmostBytes : Nat) (rplace : Nat) (rnumber : Int32) (rletters : Int64) (rtapeF : Nat → Int32) (gq : Nat) (k4 : Nat) (n8 : Nat) (iv_rreader_0 : rlength ≤ 940) (iv_rreader_1 : rplace ≤ rlength) (iv_rreader_2 : rmostBytes ≤ 900) (hTC : TC bt rtapeF) (hgq : rplace = gq) (j5 : k4 ≤ 940) (j6 : k4 ≤ rlength) (jSk : sk bt rlength rplace = sk bt rlength k4) (hm10 : 940 - k4 < n8 + 1) (jQ : sk bt rlength rplace = k4) (c13 : rmostBytes < rlength) (c128 : rmostBytes ≤ k4) : RT bt rlength rmostBytes gq (nI 1) rmostBytes k4 (-1 : Int32) rnumber rletters := by
  have q1 : rmostBytes < rlength ∧ rmostBytes ≤ k4 := by
    have b_rnumber := ia_b rnumber
    have b_rletters := Int64.toInt_lt rletters
    try simp only [ia_lt, ia_le, ia_eq, ia_m1, ia_0, ia_1, ne_eq, true_and, and_true, false_and, and_false, or_false, false_or, or_true, true_or, not_true_eq_false, not_false_eq_true] at *
    all_goals omega
  subst hgq
  exact RT_lim jQ q1.1 q1.2
set_option maxRecDepth 20000 in
theorem lf_f_adv_71 (bt : Nat → Nat) (rlength : Nat) (rplace : Nat) (rtapeF : Nat → Int32) (gq : Nat) (k4 : Nat) (n8 : Nat) (iv_rreader_0 : rlength ≤ 940) (iv_rreader_1 : rplace ≤ rlength) (hTC : TC bt rtapeF) (hgq : rplace = gq) (j5 : k4 ≤ 940) (j6 : k4 ≤ rlength) (jSk : sk bt rlength rplace = sk bt rlength k4) (hm10 : 940 - k4 < n8 + 1) (c11 : rlength ≤ k4) : sk bt rlength rplace = k4 := by
  rw [jSk]
  refine sk_stop (fun h9 => ?_)
  obtain ⟨h8, h9⟩ := h9
  unfold cBl at h9
  have h7 := hTC k4 (by omega)
  try simp only [ia_lt, ia_le, ia_eq, ia_m1, ia_0, ia_1, ne_eq, true_and, and_true, false_and, and_false, or_false, false_or, or_true, true_or, not_true_eq_false, not_false_eq_true] at *
  all_goals omega
set_option maxRecDepth 20000 in
theorem lf_f_adv_72 (bt : Nat → Nat) (rlength : Nat) (rplace : Nat) (rtapeF : Nat → Int32) (gq : Nat) (k4 : Nat) (n8 : Nat) (y244 : Int32) (iv_rreader_0 : rlength ≤ 940) (iv_rreader_1 : rplace ≤ rlength) (hTC : TC bt rtapeF) (hgq : rplace = gq) (j5 : k4 ≤ 940) (j6 : k4 ≤ rlength) (jSk : sk bt rlength rplace = sk bt rlength k4) (hm10 : 940 - k4 < n8 + 1) (c11 : k4 < rlength) (e245 : y244 = rtapeF k4) (t246 : bt k4 < 256) (t247 : y244.toInt = ((bt k4 : Nat) : Int) ∨ (128 ≤ bt k4 ∧ y244.toInt = ((bt k4 : Nat) : Int) - 256)) (c248 : y244 = nI 32) : (k4 + 1) ≤ 940 := by
  have b_y244 := ia_b y244
  try have k_0 := ia_n 32 (by first | decide | omega)
  try simp only [ia_lt, ia_le, ia_eq, ia_m1, ia_0, ia_1, ne_eq, true_and, and_true, false_and, and_false, or_false, false_or, or_true, true_or, not_true_eq_false, not_false_eq_true] at *
  all_goals omega
set_option maxRecDepth 20000 in
theorem lf_f_adv_73 (bt : Nat → Nat) (rlength : Nat) (rplace : Nat) (rtapeF : Nat → Int32) (gq : Nat) (k4 : Nat) (n8 : Nat) (y244 : Int32) (iv_rreader_0 : rlength ≤ 940) (iv_rreader_1 : rplace ≤ rlength) (hTC : TC bt rtapeF) (hgq : rplace = gq) (j5 : k4 ≤ 940) (j6 : k4 ≤ rlength) (jSk : sk bt rlength rplace = sk bt rlength k4) (hm10 : 940 - k4 < n8 + 1) (c11 : k4 < rlength) (e245 : y244 = rtapeF k4) (t246 : bt k4 < 256) (t247 : y244.toInt = ((bt k4 : Nat) : Int) ∨ (128 ≤ bt k4 ∧ y244.toInt = ((bt k4 : Nat) : Int) - 256)) (c248 : y244 = nI 32) : (k4 + 1) ≤ rlength := by
  have b_y244 := ia_b y244
  try have k_0 := ia_n 32 (by first | decide | omega)
  try simp only [ia_lt, ia_le, ia_eq, ia_m1, ia_0, ia_1, ne_eq, true_and, and_true, false_and, and_false, or_false, false_or, or_true, true_or, not_true_eq_false, not_false_eq_true] at *
  all_goals omega
set_option maxRecDepth 20000 in
theorem lf_f_adv_74 (bt : Nat → Nat) (rlength : Nat) (rplace : Nat) (rtapeF : Nat → Int32) (gq : Nat) (k4 : Nat) (n8 : Nat) (y244 : Int32) (iv_rreader_0 : rlength ≤ 940) (iv_rreader_1 : rplace ≤ rlength) (hTC : TC bt rtapeF) (hgq : rplace = gq) (j5 : k4 ≤ 940) (j6 : k4 ≤ rlength) (jSk : sk bt rlength rplace = sk bt rlength k4) (hm10 : 940 - k4 < n8 + 1) (c11 : k4 < rlength) (e245 : y244 = rtapeF k4) (t246 : bt k4 < 256) (t247 : y244.toInt = ((bt k4 : Nat) : Int) ∨ (128 ≤ bt k4 ∧ y244.toInt = ((bt k4 : Nat) : Int) - 256)) (c248 : y244 = nI 32) : sk bt rlength rplace = sk bt rlength (k4 + 1) := by
  rw [jSk]
  refine sk_step (by omega) ?_
  unfold cBl
  have h7 := hTC k4 (by omega)
  have b_y244 := ia_b y244
  try have k_0 := ia_n 32 (by first | decide | omega)
  try simp only [ia_lt, ia_le, ia_eq, ia_m1, ia_0, ia_1, ne_eq, true_and, and_true, false_and, and_false, or_false, false_or, or_true, true_or, not_true_eq_false, not_false_eq_true] at *
  all_goals omega
set_option maxRecDepth 20000 in
theorem lf_f_adv_75 (bt : Nat → Nat) (rlength : Nat) (rplace : Nat) (rtapeF : Nat → Int32) (gq : Nat) (k4 : Nat) (n8 : Nat) (y244 : Int32) (iv_rreader_0 : rlength ≤ 940) (iv_rreader_1 : rplace ≤ rlength) (hTC : TC bt rtapeF) (hgq : rplace = gq) (j5 : k4 ≤ 940) (j6 : k4 ≤ rlength) (jSk : sk bt rlength rplace = sk bt rlength k4) (hm10 : 940 - k4 < n8 + 1) (c11 : k4 < rlength) (e245 : y244 = rtapeF k4) (t246 : bt k4 < 256) (t247 : y244.toInt = ((bt k4 : Nat) : Int) ∨ (128 ≤ bt k4 ∧ y244.toInt = ((bt k4 : Nat) : Int) - 256)) (c248 : y244 = nI 32) : 940 - (k4 + 1) < n8 := by
  have b_y244 := ia_b y244
  try have k_0 := ia_n 32 (by first | decide | omega)
  try simp only [ia_lt, ia_le, ia_eq, ia_m1, ia_0, ia_1, ne_eq, true_and, and_true, false_and, and_false, or_false, false_or, or_true, true_or, not_true_eq_false, not_false_eq_true] at *
  all_goals omega
set_option maxRecDepth 20000 in
theorem lf_f_adv_76 (bt : Nat → Nat) (rlength : Nat) (rplace : Nat) (rtapeF : Nat → Int32) (gq : Nat) (k4 : Nat) (n8 : Nat) (y244 : Int32) (y249 : Int32) (iv_rreader_0 : rlength ≤ 940) (iv_rreader_1 : rplace ≤ rlength) (hTC : TC bt rtapeF) (hgq : rplace = gq) (j5 : k4 ≤ 940) (j6 : k4 ≤ rlength) (jSk : sk bt rlength rplace = sk bt rlength k4) (hm10 : 940 - k4 < n8 + 1) (c11 : k4 < rlength) (e245 : y244 = rtapeF k4) (t246 : bt k4 < 256) (t247 : y244.toInt = ((bt k4 : Nat) : Int) ∨ (128 ≤ bt k4 ∧ y244.toInt = ((bt k4 : Nat) : Int) - 256)) (c248 : ¬ y244 = nI 32) (e250 : y249 = rtapeF k4) (t251 : bt k4 < 256) (t252 : y249.toInt = ((bt k4 : Nat) : Int) ∨ (128 ≤ bt k4 ∧ y249.toInt = ((bt k4 : Nat) : Int) - 256)) (c253 : y249 ≠ nI 10) : sk bt rlength rplace = k4 := by
  rw [jSk]
  refine sk_stop (fun h9 => ?_)
  obtain ⟨h8, h9⟩ := h9
  unfold cBl at h9
  have h7 := hTC k4 (by omega)
  have b_y244 := ia_b y244
  have b_y249 := ia_b y249
  try have k_0 := ia_n 32 (by first | decide | omega)
  try have k_1 := ia_n 10 (by first | decide | omega)
  try simp only [ia_lt, ia_le, ia_eq, ia_m1, ia_0, ia_1, ne_eq, true_and, and_true, false_and, and_false, or_false, false_or, or_true, true_or, not_true_eq_false, not_false_eq_true] at *
  all_goals omega
set_option maxRecDepth 20000 in
theorem lf_f_adv_77 (bt : Nat → Nat) (rlength : Nat) (rplace : Nat) (rtapeF : Nat → Int32) (gq : Nat) (k4 : Nat) (n8 : Nat) (y244 : Int32) (y249 : Int32) (iv_rreader_0 : rlength ≤ 940) (iv_rreader_1 : rplace ≤ rlength) (hTC : TC bt rtapeF) (hgq : rplace = gq) (j5 : k4 ≤ 940) (j6 : k4 ≤ rlength) (jSk : sk bt rlength rplace = sk bt rlength k4) (hm10 : 940 - k4 < n8 + 1) (c11 : k4 < rlength) (e245 : y244 = rtapeF k4) (t246 : bt k4 < 256) (t247 : y244.toInt = ((bt k4 : Nat) : Int) ∨ (128 ≤ bt k4 ∧ y244.toInt = ((bt k4 : Nat) : Int) - 256)) (c248 : ¬ y244 = nI 32) (e250 : y249 = rtapeF k4) (t251 : bt k4 < 256) (t252 : y249.toInt = ((bt k4 : Nat) : Int) ∨ (128 ≤ bt k4 ∧ y249.toInt = ((bt k4 : Nat) : Int) - 256)) (c253 : y249 = nI 10) : (k4 + 1) ≤ 940 := by
  have b_y244 := ia_b y244
  have b_y249 := ia_b y249
  try have k_0 := ia_n 32 (by first | decide | omega)
  try have k_1 := ia_n 10 (by first | decide | omega)
  try simp only [ia_lt, ia_le, ia_eq, ia_m1, ia_0, ia_1, ne_eq, true_and, and_true, false_and, and_false, or_false, false_or, or_true, true_or, not_true_eq_false, not_false_eq_true] at *
  all_goals omega
set_option maxRecDepth 20000 in
theorem lf_f_adv_78 (bt : Nat → Nat) (rlength : Nat) (rplace : Nat) (rtapeF : Nat → Int32) (gq : Nat) (k4 : Nat) (n8 : Nat) (y244 : Int32) (y249 : Int32) (iv_rreader_0 : rlength ≤ 940) (iv_rreader_1 : rplace ≤ rlength) (hTC : TC bt rtapeF) (hgq : rplace = gq) (j5 : k4 ≤ 940) (j6 : k4 ≤ rlength) (jSk : sk bt rlength rplace = sk bt rlength k4) (hm10 : 940 - k4 < n8 + 1) (c11 : k4 < rlength) (e245 : y244 = rtapeF k4) (t246 : bt k4 < 256) (t247 : y244.toInt = ((bt k4 : Nat) : Int) ∨ (128 ≤ bt k4 ∧ y244.toInt = ((bt k4 : Nat) : Int) - 256)) (c248 : ¬ y244 = nI 32) (e250 : y249 = rtapeF k4) (t251 : bt k4 < 256) (t252 : y249.toInt = ((bt k4 : Nat) : Int) ∨ (128 ≤ bt k4 ∧ y249.toInt = ((bt k4 : Nat) : Int) - 256)) (c253 : y249 = nI 10) : (k4 + 1) ≤ rlength := by
  have b_y244 := ia_b y244
  have b_y249 := ia_b y249
  try have k_0 := ia_n 32 (by first | decide | omega)
  try have k_1 := ia_n 10 (by first | decide | omega)
  try simp only [ia_lt, ia_le, ia_eq, ia_m1, ia_0, ia_1, ne_eq, true_and, and_true, false_and, and_false, or_false, false_or, or_true, true_or, not_true_eq_false, not_false_eq_true] at *
  all_goals omega
set_option maxRecDepth 20000 in
theorem lf_f_adv_79 (bt : Nat → Nat) (rlength : Nat) (rplace : Nat) (rtapeF : Nat → Int32) (gq : Nat) (k4 : Nat) (n8 : Nat) (y244 : Int32) (y249 : Int32) (iv_rreader_0 : rlength ≤ 940) (iv_rreader_1 : rplace ≤ rlength) (hTC : TC bt rtapeF) (hgq : rplace = gq) (j5 : k4 ≤ 940) (j6 : k4 ≤ rlength) (jSk : sk bt rlength rplace = sk bt rlength k4) (hm10 : 940 - k4 < n8 + 1) (c11 : k4 < rlength) (e245 : y244 = rtapeF k4) (t246 : bt k4 < 256) (t247 : y244.toInt = ((bt k4 : Nat) : Int) ∨ (128 ≤ bt k4 ∧ y244.toInt = ((bt k4 : Nat) : Int) - 256)) (c248 : ¬ y244 = nI 32) (e250 : y249 = rtapeF k4) (t251 : bt k4 < 256) (t252 : y249.toInt = ((bt k4 : Nat) : Int) ∨ (128 ≤ bt k4 ∧ y249.toInt = ((bt k4 : Nat) : Int) - 256)) (c253 : y249 = nI 10) : sk bt rlength rplace = sk bt rlength (k4 + 1) := by
  rw [jSk]
  refine sk_step (by omega) ?_
  unfold cBl
  have h7 := hTC k4 (by omega)
  have b_y244 := ia_b y244
  have b_y249 := ia_b y249
  try have k_0 := ia_n 32 (by first | decide | omega)
  try have k_1 := ia_n 10 (by first | decide | omega)
  try simp only [ia_lt, ia_le, ia_eq, ia_m1, ia_0, ia_1, ne_eq, true_and, and_true, false_and, and_false, or_false, false_or, or_true, true_or, not_true_eq_false, not_false_eq_true] at *
  all_goals omega
set_option maxRecDepth 20000 in
theorem lf_f_adv_80 (bt : Nat → Nat) (rlength : Nat) (rplace : Nat) (rtapeF : Nat → Int32) (gq : Nat) (k4 : Nat) (n8 : Nat) (y244 : Int32) (y249 : Int32) (iv_rreader_0 : rlength ≤ 940) (iv_rreader_1 : rplace ≤ rlength) (hTC : TC bt rtapeF) (hgq : rplace = gq) (j5 : k4 ≤ 940) (j6 : k4 ≤ rlength) (jSk : sk bt rlength rplace = sk bt rlength k4) (hm10 : 940 - k4 < n8 + 1) (c11 : k4 < rlength) (e245 : y244 = rtapeF k4) (t246 : bt k4 < 256) (t247 : y244.toInt = ((bt k4 : Nat) : Int) ∨ (128 ≤ bt k4 ∧ y244.toInt = ((bt k4 : Nat) : Int) - 256)) (c248 : ¬ y244 = nI 32) (e250 : y249 = rtapeF k4) (t251 : bt k4 < 256) (t252 : y249.toInt = ((bt k4 : Nat) : Int) ∨ (128 ≤ bt k4 ∧ y249.toInt = ((bt k4 : Nat) : Int) - 256)) (c253 : y249 = nI 10) : 940 - (k4 + 1) < n8 := by
  have b_y244 := ia_b y244
  have b_y249 := ia_b y249
  try have k_0 := ia_n 32 (by first | decide | omega)
  try have k_1 := ia_n 10 (by first | decide | omega)
  try simp only [ia_lt, ia_le, ia_eq, ia_m1, ia_0, ia_1, ne_eq, true_and, and_true, false_and, and_false, or_false, false_or, or_true, true_or, not_true_eq_false, not_false_eq_true] at *
  all_goals omega
set_option maxRecDepth 20000 in
theorem lf_f_adv_81 (rlength : Nat) (rplace : Nat) (gq : Nat) (iv_rreader_0 : rlength ≤ 940) (iv_rreader_1 : rplace ≤ rlength) (hgq : rplace = gq) : rplace ≤ 940 := by
  try simp only [ia_lt, ia_le, ia_eq, ia_m1, ia_0, ia_1, ne_eq, true_and, and_true, false_and, and_false, or_false, false_or, or_true, true_or, not_true_eq_false, not_false_eq_true] at *
  all_goals omega
set_option maxRecDepth 20000 in
theorem lf_f_adv_82 (bt : Nat → Nat) (rlength : Nat) (rplace : Nat) (rtapeF : Nat → Int32) (gq : Nat) (iv_rreader_0 : rlength ≤ 940) (iv_rreader_1 : rplace ≤ rlength) (hTC : TC bt rtapeF) (hgq : rplace = gq) : sk bt rlength rplace = sk bt rlength rplace := by
  rfl
set_option maxHeartbeats 4000000 in
set_option maxRecDepth 100000 in
theorem c_f_adv (l : Launch) (dC : Nat → ClassId) (dI : Nat → Nat → Nat) (ky : Nat → ClassId) (sz : Nat) (adK : Nat → Nat) (adV : Nat → Nat) (bt : Nat → Nat) (reader : Nat) (rtape : Nat) (rlength : Nat) (rmostBytes : Nat) (rplace : Nat) (rkind : Int32) (rbegin : Nat) (rword : Int32) (rnumber : Int32) (rletters : Int64) (rfaultKind : Int32) (rfaultPlace : Int32) (rtapeF : Nat → Int32) (gq : Nat) (iv_rreader_0 : rlength ≤ 940) (iv_rreader_1 : rplace ≤ rlength) (iv_rreader_2 : rmostBytes ≤ 900) (iv_rreader_3 : rbegin ≤ 940) (hTC : TC bt rtapeF) (hgq : rplace = gq) : Met l yX5_advance wsX5_advance ({ frames := 5, cells := 0, slots := 0, locals := 111 }) (PcUE dC dI ky adK adV [.ref reader] [(reader, .inr (5, [.ref rtape, .int (nI rlength), .int (nI rmostBytes), .int (nI rplace), .int rkind, .int (nI rbegin), .int rword, .int rnumber, .long rletters, .int rfaultKind, .int rfaultPlace])), (rtape, .inl (ky 2, 940, .inl rtapeF))] sz) (va_Qv (fun (u : Nat × Int32 × Nat × Int32 × Int32 × Int64) => match u with | (rplaceG, rkindG, rbeginG, rwordG, rnumberG, rlettersG) => (rplaceG ≤ rlength) ∧ (rbeginG ≤ 940) ∧ (RT bt rlength rmostBytes gq rkindG rbeginG rplaceG rwordG rnumberG rlettersG)) (BU dC dI ky (fun (u : Nat × Int32 × Nat × Int32 × Int32 × Int64) => match u with | (rplaceG, rkindG, rbeginG, rwordG, rnumberG, rlettersG) => [(reader, .inr (5, [.ref rtape, .int (nI rlength), .int (nI rmostBytes), .int (nI rplaceG), .int rkindG, .int (nI rbeginG), .int rwordG, .int rnumberG, .long rlettersG, .int rfaultKind, .int rfaultPlace])), (rtape, .inl (ky 2, 940, .inl rtapeF))]) (va_A [(reader, .inr (5, [.ref rtape, .int (nI rlength), .int (nI rmostBytes), .int (nI rplace), .int rkind, .int (nI rbegin), .int rword, .int rnumber, .long rletters, .int rfaultKind, .int rfaultPlace])), (rtape, .inl (ky 2, 940, .inl rtapeF))] sz)) (va_A [(reader, .inr (5, [.ref rtape, .int (nI rlength), .int (nI rmostBytes), .int (nI rplace), .int rkind, .int (nI rbegin), .int rword, .int rnumber, .long rletters, .int rfaultKind, .int rfaultPlace])), (rtape, .inl (ky 2, 940, .inl rtapeF))] sz)) 0 0 (va_A [(reader, .inr (5, [.ref rtape, .int (nI rlength), .int (nI rmostBytes), .int (nI rplace), .int rkind, .int (nI rbegin), .int rword, .int rnumber, .long rletters, .int rfaultKind, .int rfaultPlace])), (rtape, .inl (ky 2, 940, .inl rtapeF))] sz) := by
  refine Met.ofW (cc := cX5_advance) (maxL := 1) (ret := none) (by decide) rfl ?_
  intro p e s m args below meth c s₁ B hml hv
  obtain ⟨rfl, hsz, hP, hK, hD0, hE⟩ := hv
  have hx := B.exec
  have hb := B.bytes
  have hr := B.returns
  have hts := atoms_spec (ws := wsX5_advance) B.pre
  have hown : s.vm.findClass RX5 = some m.cls := findClass_of_methodNamed B.named
  have hlocks := B.notSynchronized
  have hin5 : ∀ w ∈ u_ws RX5 TX5 11, w ∈ wsX5_advance := by decide +kernel
  subst hsz
  have hD := hD0.self (sz := s.heap.size)
  generalize hAe : va_A [(reader, .inr (5, [.ref rtape, .int (nI rlength), .int (nI rmostBytes), .int (nI rplace), .int rkind, .int (nI rbegin), .int rword, .int rnumber, .long rletters, .int rfaultKind, .int rfaultPlace])), (rtape, .inl (ky 2, 940, .inl rtapeF))] s.heap.size = A at hD hE ⊢
  have hA : ∀ q : Nat, s.heap.size ≤ q → A q := fun q h => by rw [← hAe]; exact Or.inr h
  have hS : va_S A s.heap s.heap [] := va_S.rf
  have hl := lv_entry ([.ref reader]) (n := 1) (Nat.le_of_ble_eq_true rfl)
  rw [lg_entry_eq]
  generalize (lg_sl ([.ref reader]) ++ List.replicate (1 - (lg_sl ([.ref reader])).length) Slot.unset).toArray = ls at hl ⊢
  have hl : lv_has ls 1 [(0, .ref reader)] := hl
  refine q_name (fun Q hQ => ?_)
  generalize ([.ref reader] : List Value).toArray = args at hts hQ ⊢
  have hL7 : ∀ (n8 : Nat) (k4 : Nat), (k4 ≤ 940) → (k4 ≤ rlength) → (sk bt rlength rplace = sk bt rlength k4) → 940 - k4 < n8 → ∀ (H : Heap) (locs : List Loc) (ls : Array Slot), va_P (dC, dI) vwCl [(reader, .inr (5, [.ref rtape, .int (nI rlength), .int (nI rmostBytes), .int (nI k4), .int rkind, .int (nI rbegin), .int rword, .int rnumber, .long rletters, .int rfaultKind, .int rfaultPlace])), (rtape, .inl (ky 2, 940, .inl rtapeF))] H → va_D A [(reader, .inr (5, [.ref rtape, .int (nI rlength), .int (nI rmostBytes), .int (nI k4), .int rkind, .int (nI rbegin), .int rword, .int rnumber, .long rletters, .int rfaultKind, .int rfaultPlace])), (rtape, .inl (ky 2, 940, .inl rtapeF))] → va_S A s.heap H locs → lv_has ls 1 [(0, .ref reader)] → W p l e (headSpec wsX5_advance ({ frames := 5, cells := 0, slots := 0, locals := 111 })).room s m args below meth c H locs 0 0 Q (F0 m 0 ls []) := by
    intro n8
    induction n8 with
    | zero => intro k4 _ _ _ h9; exact absurd h9 (Nat.not_lt_zero _)
    | succ n8 ih9 =>
      intro k4 j5 j6 jSk hm10 H locs ls hP hD hS hl
      refine lv_aload_n hx hb dX5_advance_0 rfl (lv_at hl 0 rfl) ?_
      refine va_get (D := (dC, dI)) (ci := 5) (v := .int (nI k4)) (C := RX5) (T := TX5) (N := 11) hx hb hts hin5 hown hK hP 0 rfl rfl 3 (by decide) (hts (.fieldLink RX5 28 "PorridgeSea$Reader" "place" "I") (List.mem_of_getElem? (i := 1) rfl)) (fun _ h9 => h9) rfl dX5_advance_1 ?_
      refine lv_aload_n hx hb dX5_advance_4 rfl (lv_at hl 0 rfl) ?_
      refine va_get (D := (dC, dI)) (ci := 5) (v := .int (nI rlength)) (C := RX5) (T := TX5) (N := 11) hx hb hts hin5 hown hK hP 0 rfl rfl 1 (by decide) (hts (.fieldLink RX5 21 "PorridgeSea$Reader" "length" "I") (List.mem_of_getElem? (i := 2) rfl)) (fun _ h9 => h9) rfl dX5_advance_5 ?_
      have hJ12 : (sk bt rlength rplace = k4) → ∀ (H : Heap) (locs : List Loc) (ls : Array Slot), va_P (dC, dI) vwCl [(reader, .inr (5, [.ref rtape, .int (nI rlength), .int (nI rmostBytes), .int (nI k4), .int rkind, .int (nI rbegin), .int rword, .int rnumber, .long rletters, .int rfaultKind, .int rfaultPlace])), (rtape, .inl (ky 2, 940, .inl rtapeF))] H → va_D A [(reader, .inr (5, [.ref rtape, .int (nI rlength), .int (nI rmostBytes), .int (nI k4), .int rkind, .int (nI rbegin), .int rword, .int rnumber, .long rletters, .int rfaultKind, .int rfaultPlace])), (rtape, .inl (ky 2, 940, .inl rtapeF))] → va_S A s.heap H locs → lv_has ls 1 [(0, .ref reader)] → W p l e (headSpec wsX5_advance ({ frames := 5, cells := 0, slots := 0, locals := 111 })).room s m args below meth c H locs 0 0 Q (F0 m 52 ls []) := by
        intro jQ H locs ls hP hD hS hl
        refine lv_aload_n hx hb dX5_advance_52 rfl (lv_at hl 0 rfl) ?_
        refine lv_aload_n hx hb dX5_advance_53 rfl (lv_at hl 0 rfl) ?_
        refine va_get (D := (dC, dI)) (ci := 5) (v := .int (nI k4)) (C := RX5) (T := TX5) (N := 11) hx hb hts hin5 hown hK hP 0 rfl rfl 3 (by decide) (hts (.fieldLink RX5 28 "PorridgeSea$Reader" "place" "I") (List.mem_of_getElem? (i := 1) rfl)) (fun _ h9 => h9) rfl dX5_advance_54 ?_
        refine va_put (D := (dC, dI)) (ci := 5) (v := .int (nI k4)) (ty := .int) (C := RX5) (T := TX5) (N := 11) hx hb hts hin5 tyX5 tyX5_ok nmX5 hown hK hP hD hS 0 rfl rfl 5 (by decide) (hts (.fieldLink RX5 40 "PorridgeSea$Reader" "begin" "I") (List.mem_of_getElem? (i := 4) rfl)) (fun _ h9 => h9) rfl (by decide +kernel) rfl rfl (Nat.le_of_ble_eq_true rfl) dX5_advance_57 (fun H locs hP hD hS => ?_)
        have hP : va_P (dC, dI) vwCl [(reader, .inr (5, [.ref rtape, .int (nI rlength), .int (nI rmostBytes), .int (nI k4), .int rkind, .int (nI k4), .int rword, .int rnumber, .long rletters, .int rfaultKind, .int rfaultPlace])), (rtape, .inl (ky 2, 940, .inl rtapeF))] H := hP
        have hD : va_D A [(reader, .inr (5, [.ref rtape, .int (nI rlength), .int (nI rmostBytes), .int (nI k4), .int rkind, .int (nI k4), .int rword, .int rnumber, .long rletters, .int rfaultKind, .int rfaultPlace])), (rtape, .inl (ky 2, 940, .inl rtapeF))] := hD
        refine lv_aload_n hx hb dX5_advance_60 rfl (lv_at hl 0 rfl) ?_
        refine lv_iconst (v := (-1 : Int32)) hx hb dX5_advance_61 (by decide) ?_
        refine va_put (D := (dC, dI)) (ci := 5) (v := .int (-1 : Int32)) (ty := .int) (C := RX5) (T := TX5) (N := 11) hx hb hts hin5 tyX5 tyX5_ok nmX5 hown hK hP hD hS 0 rfl rfl 6 (by decide) (hts (.fieldLink RX5 43 "PorridgeSea$Reader" "word" "I") (List.mem_of_getElem? (i := 5) rfl)) (fun _ h9 => h9) rfl (by decide +kernel) rfl rfl (Nat.le_of_ble_eq_true rfl) dX5_advance_62 (fun H locs hP hD hS => ?_)
        have hP : va_P (dC, dI) vwCl [(reader, .inr (5, [.ref rtape, .int (nI rlength), .int (nI rmostBytes), .int (nI k4), .int rkind, .int (nI k4), .int (-1 : Int32), .int rnumber, .long rletters, .int rfaultKind, .int rfaultPlace])), (rtape, .inl (ky 2, 940, .inl rtapeF))] H := hP
        have hD : va_D A [(reader, .inr (5, [.ref rtape, .int (nI rlength), .int (nI rmostBytes), .int (nI k4), .int rkind, .int (nI k4), .int (-1 : Int32), .int rnumber, .long rletters, .int rfaultKind, .int rfaultPlace])), (rtape, .inl (ky 2, 940, .inl rtapeF))] := hD
        refine lv_aload_n hx hb dX5_advance_65 rfl (lv_at hl 0 rfl) ?_
        refine va_get (D := (dC, dI)) (ci := 5) (v := .int (nI rlength)) (C := RX5) (T := TX5) (N := 11) hx hb hts hin5 hown hK hP 0 rfl rfl 1 (by decide) (hts (.fieldLink RX5 21 "PorridgeSea$Reader" "length" "I") (List.mem_of_getElem? (i := 2) rfl)) (fun _ h9 => h9) rfl dX5_advance_66 ?_
        refine lv_aload_n hx hb dX5_advance_69 rfl (lv_at hl 0 rfl) ?_
        refine va_get (D := (dC, dI)) (ci := 5) (v := .int (nI rmostBytes)) (C := RX5) (T := TX5) (N := 11) hx hb hts hin5 hown hK hP 0 rfl rfl 2 (by decide) (hts (.fieldLink RX5 25 "PorridgeSea$Reader" "mostBytes" "I") (List.mem_of_getElem? (i := 6) rfl)) (fun _ h9 => h9) rfl dX5_advance_70 ?_
        refine n_icmp_le (x := rlength) (y := rmostBytes) (tgt := 103) hx hb (by omega) (by omega) dX5_advance_73 (by decide) (fun c13 => ?_) (fun c13 => ?_)
        · refine lv_aload_n hx hb dX5_advance_103 rfl (lv_at hl 0 rfl) ?_
          refine va_get (D := (dC, dI)) (ci := 5) (v := .int (nI k4)) (C := RX5) (T := TX5) (N := 11) hx hb hts hin5 hown hK hP 0 rfl rfl 3 (by decide) (hts (.fieldLink RX5 28 "PorridgeSea$Reader" "place" "I") (List.mem_of_getElem? (i := 1) rfl)) (fun _ h9 => h9) rfl dX5_advance_104 ?_
          refine lv_aload_n hx hb dX5_advance_107 rfl (lv_at hl 0 rfl) ?_
          refine va_get (D := (dC, dI)) (ci := 5) (v := .int (nI rlength)) (C := RX5) (T := TX5) (N := 11) hx hb hts hin5 hown hK hP 0 rfl rfl 1 (by decide) (hts (.fieldLink RX5 21 "PorridgeSea$Reader" "length" "I") (List.mem_of_getElem? (i := 2) rfl)) (fun _ h9 => h9) rfl dX5_advance_108 ?_
          refine n_icmp_lt (x := k4) (y := rlength) (tgt := 122) hx hb (by omega) (by omega) dX5_advance_111 (by decide) (fun c14 => ?_) (fun c14 => ?_)
          · refine lv_aload_n hx hb dX5_advance_122 rfl (lv_at hl 0 rfl) ?_
            refine va_get (D := (dC, dI)) (ci := 5) (v := .ref rtape) (C := RX5) (T := TX5) (N := 11) hx hb hts hin5 hown hK hP 0 rfl rfl 0 (by decide) (hts (.fieldLink RX5 9 "PorridgeSea$Reader" "tape" "[B") (List.mem_of_getElem? (i := 3) rfl)) (fun _ h9 => h9) rfl dX5_advance_123 ?_
            refine lv_aload_n hx hb dX5_advance_126 rfl (lv_at hl 0 rfl) ?_
            refine va_get (D := (dC, dI)) (ci := 5) (v := .int (nI k4)) (C := RX5) (T := TX5) (N := 11) hx hb hts hin5 hown hK hP 0 rfl rfl 3 (by decide) (hts (.fieldLink RX5 28 "PorridgeSea$Reader" "place" "I") (List.mem_of_getElem? (i := 1) rfl)) (fun _ h9 => h9) rfl dX5_advance_127 ?_
            obtain ⟨y15, e16⟩ : ∃ z9, z9 = rtapeF k4 := ⟨_, rfl⟩
            refine r_bald hx hb hK hP 1 rfl k4 (by omega) (by decide) y15 e16.symm dX5_advance_130 ?_
            obtain ⟨t17, t18⟩ : bt k4 < 256 ∧ (y15.toInt = ((bt k4 : Nat) : Int) ∨ (128 ≤ bt k4 ∧ y15.toInt = ((bt k4 : Nat) : Int) - 256)) := by rw [e16]; exact hTC k4 (by omega)
            refine vp_callSi (W.runS (As := [.int y15]) (rest := []) ⟨hx, hb, hml, hown, hts⟩ (c_f_isLetter l dC dI ky y15) (va_cwS 1 hts gX5_advance_X5_isLetter rfl rfl rfl (by decide +kernel) ⟨(Nat.le_of_ble_eq_true rfl), (Nat.le_of_ble_eq_true rfl)⟩) (pre_PS hK hP [] rfl) rfl rfl hl.1 rfl (lv_room (Nat.le_of_ble_eq_true rfl)) dX5_advance_131 ⟨(Nat.le_of_ble_eq_true rfl), (Nat.le_of_ble_eq_true rfl)⟩) (fun r19 p20 => ?_)
            rcases p20 with ⟨rfl, t21, t22⟩ | ⟨rfl, t23⟩
            · refine lv_if_ne (tgt := 152) hx hb dX5_advance_134 (by decide) (fun c24 => ?_) (fun c24 => absurd c24 (by decide))
              refine lv_aload_n hx hb dX5_advance_152 rfl (lv_at hl 0 rfl) ?_
              refine r_call_v (wr := []) (va_runV (As := []) (rest := []) ⟨hx, hb, hml, hown, hts⟩ (c_f_readRun l dC dI ky H.size bt reader rtape rlength rmostBytes k4 rkind k4 (-1 : Int32) rnumber rletters rfaultKind rfaultPlace rtapeF iv_rreader_0 j6 iv_rreader_2 j5 hTC (lf_f_adv_1 bt rlength rmostBytes rplace rtapeF gq k4 n8 y15 iv_rreader_0 iv_rreader_1 iv_rreader_2 hTC hgq j5 j6 jSk hm10 jQ c13 c14 e16 t17 t18 t21 t22) c14 (lf_f_adv_2 bt rlength rmostBytes rplace rtapeF gq k4 n8 y15 iv_rreader_0 iv_rreader_1 iv_rreader_2 hTC hgq j5 j6 jSk hm10 jQ c13 c14 e16 t17 t18 t21 t22)) (cwV 0 hts gX5_advance_X5_readRun rfl rfl rfl (by decide +kernel) ⟨(Nat.le_of_ble_eq_true rfl), (Nat.le_of_ble_eq_true rfl)⟩) (pre_UV hK hP hD [0, 1] (by decide) rfl (ci := 5) (q0 := 0) rfl rfl) rfl rfl hl.1 rfl (lv_room (Nat.le_of_ble_eq_true rfl)) dX5_advance_153 ⟨(Nat.le_of_ble_eq_true rfl), (Nat.le_of_ble_eq_true rfl)⟩) hP hD hS hA [0, 1] [] rfl rfl (by decide) (by decide) (fun  u25 H locs p26 hP hD hS => ?_)
              obtain ⟨rplaceG_27, rkindG_28, rnumberG_29, rlettersG_30⟩ := u25
              try dsimp only at p26
              obtain ⟨p31, p32, p33, p34⟩ := p26
              refine W.widen (k := 0) (n := 0) (Nat.le_of_ble_eq_true rfl) (Nat.le_of_ble_eq_true rfl) ?_
              have hP : va_P (dC, dI) vwCl [(reader, .inr (5, [.ref rtape, .int (nI rlength), .int (nI rmostBytes), .int (nI rplaceG_27), .int rkindG_28, .int (nI k4), .int (-1 : Int32), .int rnumberG_29, .long rlettersG_30, .int rfaultKind, .int rfaultPlace])), (rtape, .inl (ky 2, 940, .inl rtapeF))] H := hP
              have hD : va_D A [(reader, .inr (5, [.ref rtape, .int (nI rlength), .int (nI rmostBytes), .int (nI rplaceG_27), .int rkindG_28, .int (nI k4), .int (-1 : Int32), .int rnumberG_29, .long rlettersG_30, .int rfaultKind, .int rfaultPlace])), (rtape, .inl (ky 2, 940, .inl rtapeF))] := hD
              rcases p34 with ⟨rfl, v35, v36, v37, v38⟩ | ⟨rfl, v39, v40, v41⟩ | ⟨rfl, v42, v43⟩
              · refine lv_goto (tgt := 163) hx hb dX5_advance_156 (by decide) ?_
                refine lv_aload_n hx hb dX5_advance_163 rfl (lv_at hl 0 rfl) ?_
                refine va_get (D := (dC, dI)) (ci := 5) (v := .int (nI 2)) (C := RX5) (T := TX5) (N := 11) hx hb hts hin5 hown hK hP 0 rfl rfl 4 (by decide) (hts (.fieldLink RX5 46 "PorridgeSea$Reader" "kind" "I") (List.mem_of_getElem? (i := 7) rfl)) (fun _ h9 => h9) rfl dX5_advance_164 ?_
                refine lv_iconst (v := nI 2) hx hb dX5_advance_167 (by decide) ?_
                refine lv_icmp_ne (tgt := 238) hx hb dX5_advance_168 (by decide) (fun c44 => absurd c44 (by decide)) (fun c44 => ?_)
                refine lv_aload_n hx hb dX5_advance_171 rfl (lv_at hl 0 rfl) ?_
                refine lv_aload_n hx hb dX5_advance_172 rfl (lv_at hl 0 rfl) ?_
                refine va_ldcS hx hb hown (hE.2.2.2.1) dX5_advance_173 ?_
                refine lv_iconst (v := nI 0) hx hb dX5_advance_175 (by decide) ?_
                refine r_call_i (wr := []) (va_runV (As := [.ref (adK 0), .int (nI 0)]) (rest := [.ref reader]) ⟨hx, hb, hml, hown, hts⟩ (c_f_wordIn0 l dC dI ky H.size adK adV bt reader rtape rlength rmostBytes rplaceG_27 (nI 2) k4 (-1 : Int32) rnumberG_29 rlettersG_30 rfaultKind rfaultPlace rtapeF iv_rreader_0 p31 iv_rreader_2 j5 hTC (lf_f_adv_3 bt rlength rmostBytes rplace rtapeF gq k4 n8 y15 rplaceG_27 rlettersG_30 iv_rreader_0 iv_rreader_1 iv_rreader_2 hTC hgq j5 j6 jSk hm10 jQ c13 c14 e16 t17 t18 t21 t22 p31 p32 p33 v35 v36 v37 v38) (lf_f_adv_4 bt rlength rmostBytes rplace rtapeF gq k4 n8 y15 rplaceG_27 rlettersG_30 iv_rreader_0 iv_rreader_1 iv_rreader_2 hTC hgq j5 j6 jSk hm10 jQ c13 c14 e16 t17 t18 t21 t22 p31 p32 p33 v35 v36 v37 v38) v38) (cwV 2 hts gX5_advance_X5_wordIn rfl rfl rfl (by decide +kernel) ⟨(Nat.le_of_ble_eq_true rfl), (Nat.le_of_ble_eq_true rfl)⟩) (pre_UEV hE hS hA hK hP hD [0, 1] (by decide) rfl (va_recv hK hP (ci := 5) (q0 := 0) rfl rfl)) rfl rfl hl.1 rfl (lv_room (Nat.le_of_ble_eq_true rfl)) dX5_advance_176 ⟨(Nat.le_of_ble_eq_true rfl), (Nat.le_of_ble_eq_true rfl)⟩) hP hD hS hA [0, 1] [] rfl rfl (by decide) (by decide) (fun r47 u45 H locs p46 hP hD hS => ?_)
                try dsimp only at p46
                have p48 := p46
                refine W.widen (k := 0) (n := 0) (Nat.le_of_ble_eq_true rfl) (Nat.le_of_ble_eq_true rfl) ?_
                have hP : va_P (dC, dI) vwCl [(reader, .inr (5, [.ref rtape, .int (nI rlength), .int (nI rmostBytes), .int (nI rplaceG_27), .int (nI 2), .int (nI k4), .int (-1 : Int32), .int rnumberG_29, .long rlettersG_30, .int rfaultKind, .int rfaultPlace])), (rtape, .inl (ky 2, 940, .inl rtapeF))] H := hP
                have hD : va_D A [(reader, .inr (5, [.ref rtape, .int (nI rlength), .int (nI rmostBytes), .int (nI rplaceG_27), .int (nI 2), .int (nI k4), .int (-1 : Int32), .int rnumberG_29, .long rlettersG_30, .int rfaultKind, .int rfaultPlace])), (rtape, .inl (ky 2, 940, .inl rtapeF))] := hD
                refine va_put (D := (dC, dI)) (ci := 5) (v := .int r47) (ty := .int) (C := RX5) (T := TX5) (N := 11) hx hb hts hin5 tyX5 tyX5_ok nmX5 hown hK hP hD hS 0 rfl rfl 6 (by decide) (hts (.fieldLink RX5 43 "PorridgeSea$Reader" "word" "I") (List.mem_of_getElem? (i := 5) rfl)) (fun _ h9 => h9) rfl (by decide +kernel) rfl rfl (Nat.le_of_ble_eq_true rfl) dX5_advance_179 (fun H locs hP hD hS => ?_)
                have hP : va_P (dC, dI) vwCl [(reader, .inr (5, [.ref rtape, .int (nI rlength), .int (nI rmostBytes), .int (nI rplaceG_27), .int (nI 2), .int (nI k4), .int r47, .int rnumberG_29, .long rlettersG_30, .int rfaultKind, .int rfaultPlace])), (rtape, .inl (ky 2, 940, .inl rtapeF))] H := hP
                have hD : va_D A [(reader, .inr (5, [.ref rtape, .int (nI rlength), .int (nI rmostBytes), .int (nI rplaceG_27), .int (nI 2), .int (nI k4), .int r47, .int rnumberG_29, .long rlettersG_30, .int rfaultKind, .int rfaultPlace])), (rtape, .inl (ky 2, 940, .inl rtapeF))] := hD
                refine lv_aload_n hx hb dX5_advance_182 rfl (lv_at hl 0 rfl) ?_
                refine lv_aload_n hx hb dX5_advance_183 rfl (lv_at hl 0 rfl) ?_
                refine va_get (D := (dC, dI)) (ci := 5) (v := .int r47) (C := RX5) (T := TX5) (N := 11) hx hb hts hin5 hown hK hP 0 rfl rfl 6 (by decide) (hts (.fieldLink RX5 43 "PorridgeSea$Reader" "word" "I") (List.mem_of_getElem? (i := 5) rfl)) (fun _ h9 => h9) rfl dX5_advance_184 ?_
                refine lv_bipush (v := nI 31) hx hb dX5_advance_187 (by decide) ?_
                refine lv_icmp_ne (tgt := 203) hx hb dX5_advance_189 (by decide) (fun c49 => ?_) (fun c49 => ?_)
                · refine lv_aload_n hx hb dX5_advance_203 rfl (lv_at hl 0 rfl) ?_
                  refine va_get (D := (dC, dI)) (ci := 5) (v := .int r47) (C := RX5) (T := TX5) (N := 11) hx hb hts hin5 hown hK hP 0 rfl rfl 6 (by decide) (hts (.fieldLink RX5 43 "PorridgeSea$Reader" "word" "I") (List.mem_of_getElem? (i := 5) rfl)) (fun _ h9 => h9) rfl dX5_advance_204 ?_
                  refine va_put (D := (dC, dI)) (ci := 5) (v := .int r47) (ty := .int) (C := RX5) (T := TX5) (N := 11) hx hb hts hin5 tyX5 tyX5_ok nmX5 hown hK hP hD hS 0 rfl rfl 6 (by decide) (hts (.fieldLink RX5 43 "PorridgeSea$Reader" "word" "I") (List.mem_of_getElem? (i := 5) rfl)) (fun _ h9 => h9) rfl (by decide +kernel) rfl rfl (Nat.le_of_ble_eq_true rfl) dX5_advance_207 (fun H locs hP hD hS => ?_)
                  have hP : va_P (dC, dI) vwCl [(reader, .inr (5, [.ref rtape, .int (nI rlength), .int (nI rmostBytes), .int (nI rplaceG_27), .int (nI 2), .int (nI k4), .int r47, .int rnumberG_29, .long rlettersG_30, .int rfaultKind, .int rfaultPlace])), (rtape, .inl (ky 2, 940, .inl rtapeF))] H := hP
                  have hD : va_D A [(reader, .inr (5, [.ref rtape, .int (nI rlength), .int (nI rmostBytes), .int (nI rplaceG_27), .int (nI 2), .int (nI k4), .int r47, .int rnumberG_29, .long rlettersG_30, .int rfaultKind, .int rfaultPlace])), (rtape, .inl (ky 2, 940, .inl rtapeF))] := hD
                  refine lv_aload_n hx hb dX5_advance_210 rfl (lv_at hl 0 rfl) ?_
                  refine lv_aload_n hx hb dX5_advance_211 rfl (lv_at hl 0 rfl) ?_
                  refine va_get (D := (dC, dI)) (ci := 5) (v := .int r47) (C := RX5) (T := TX5) (N := 11) hx hb hts hin5 hown hK hP 0 rfl rfl 6 (by decide) (hts (.fieldLink RX5 43 "PorridgeSea$Reader" "word" "I") (List.mem_of_getElem? (i := 5) rfl)) (fun _ h9 => h9) rfl dX5_advance_212 ?_
                  refine lv_bipush (v := nI 31) hx hb dX5_advance_215 (by decide) ?_
                  refine lv_icmp_ne (tgt := 231) hx hb dX5_advance_217 (by decide) (fun c50 => ?_) (fun c50 => ?_)
                  · refine lv_aload_n hx hb dX5_advance_231 rfl (lv_at hl 0 rfl) ?_
                    refine va_get (D := (dC, dI)) (ci := 5) (v := .int r47) (C := RX5) (T := TX5) (N := 11) hx hb hts hin5 hown hK hP 0 rfl rfl 6 (by decide) (hts (.fieldLink RX5 43 "PorridgeSea$Reader" "word" "I") (List.mem_of_getElem? (i := 5) rfl)) (fun _ h9 => h9) rfl dX5_advance_232 ?_
                    refine va_put (D := (dC, dI)) (ci := 5) (v := .int r47) (ty := .int) (C := RX5) (T := TX5) (N := 11) hx hb hts hin5 tyX5 tyX5_ok nmX5 hown hK hP hD hS 0 rfl rfl 6 (by decide) (hts (.fieldLink RX5 43 "PorridgeSea$Reader" "word" "I") (List.mem_of_getElem? (i := 5) rfl)) (fun _ h9 => h9) rfl (by decide +kernel) rfl rfl (Nat.le_of_ble_eq_true rfl) dX5_advance_235 (fun H locs hP hD hS => ?_)
                    have hP : va_P (dC, dI) vwCl [(reader, .inr (5, [.ref rtape, .int (nI rlength), .int (nI rmostBytes), .int (nI rplaceG_27), .int (nI 2), .int (nI k4), .int r47, .int rnumberG_29, .long rlettersG_30, .int rfaultKind, .int rfaultPlace])), (rtape, .inl (ky 2, 940, .inl rtapeF))] H := hP
                    have hD : va_D A [(reader, .inr (5, [.ref rtape, .int (nI rlength), .int (nI rmostBytes), .int (nI rplaceG_27), .int (nI 2), .int (nI k4), .int r47, .int rnumberG_29, .long rlettersG_30, .int rfaultKind, .int rfaultPlace])), (rtape, .inl (ky 2, 940, .inl rtapeF))] := hD
                    rw [hQ]
                    exact W.vret hx hb hr (fun t9 ht9 hW9 => ⟨⟨(rplaceG_27, nI 2, k4, r47, rnumberG_29, rlettersG_30), rfl, ⟨p31, j5, (lf_f_adv_5 bt rlength rmostBytes rplace rtapeF gq k4 n8 y15 rplaceG_27 rnumberG_29 rlettersG_30 r47 iv_rreader_0 iv_rreader_1 iv_rreader_2 hTC hgq j5 j6 jSk hm10 jQ c13 c14 e16 t17 t18 t21 t22 p31 p32 p33 v35 v36 v37 v38 p48 c49 c50)⟩, by rw [ht9]; exact hP, va_K.moved hW9.alike hK, hD⟩, hS.F ht9⟩) hS.2.2 dX5_advance_238
                  · refine lv_aload_n hx hb dX5_advance_220 rfl (lv_at hl 0 rfl) ?_
                    refine va_ldcS hx hb hown (hE.2.2.2.2.2.1) dX5_advance_221 ?_
                    refine lv_bipush (v := nI 20) hx hb dX5_advance_223 (by decide) ?_
                    refine r_call_i (wr := []) (va_runV (As := [.ref (adK 2), .int (nI 20)]) (rest := [.ref reader]) ⟨hx, hb, hml, hown, hts⟩ (c_f_wordIn2 l dC dI ky H.size adK adV bt reader rtape rlength rmostBytes rplaceG_27 (nI 2) k4 r47 rnumberG_29 rlettersG_30 rfaultKind rfaultPlace rtapeF iv_rreader_0 p31 iv_rreader_2 j5 hTC (lf_f_adv_6 bt rlength rmostBytes rplace rtapeF gq k4 n8 y15 rplaceG_27 rlettersG_30 r47 iv_rreader_0 iv_rreader_1 iv_rreader_2 hTC hgq j5 j6 jSk hm10 jQ c13 c14 e16 t17 t18 t21 t22 p31 p32 p33 v35 v36 v37 v38 p48 c49 c50) (lf_f_adv_7 bt rlength rmostBytes rplace rtapeF gq k4 n8 y15 rplaceG_27 rlettersG_30 r47 iv_rreader_0 iv_rreader_1 iv_rreader_2 hTC hgq j5 j6 jSk hm10 jQ c13 c14 e16 t17 t18 t21 t22 p31 p32 p33 v35 v36 v37 v38 p48 c49 c50) v38) (cwV 2 hts gX5_advance_X5_wordIn rfl rfl rfl (by decide +kernel) ⟨(Nat.le_of_ble_eq_true rfl), (Nat.le_of_ble_eq_true rfl)⟩) (pre_UEV hE hS hA hK hP hD [0, 1] (by decide) rfl (va_recv hK hP (ci := 5) (q0 := 0) rfl rfl)) rfl rfl hl.1 rfl (lv_room (Nat.le_of_ble_eq_true rfl)) dX5_advance_225 ⟨(Nat.le_of_ble_eq_true rfl), (Nat.le_of_ble_eq_true rfl)⟩) hP hD hS hA [0, 1] [] rfl rfl (by decide) (by decide) (fun r53 u51 H locs p52 hP hD hS => ?_)
                    try dsimp only at p52
                    have p54 := p52
                    refine W.widen (k := 0) (n := 0) (Nat.le_of_ble_eq_true rfl) (Nat.le_of_ble_eq_true rfl) ?_
                    have hP : va_P (dC, dI) vwCl [(reader, .inr (5, [.ref rtape, .int (nI rlength), .int (nI rmostBytes), .int (nI rplaceG_27), .int (nI 2), .int (nI k4), .int r47, .int rnumberG_29, .long rlettersG_30, .int rfaultKind, .int rfaultPlace])), (rtape, .inl (ky 2, 940, .inl rtapeF))] H := hP
                    have hD : va_D A [(reader, .inr (5, [.ref rtape, .int (nI rlength), .int (nI rmostBytes), .int (nI rplaceG_27), .int (nI 2), .int (nI k4), .int r47, .int rnumberG_29, .long rlettersG_30, .int rfaultKind, .int rfaultPlace])), (rtape, .inl (ky 2, 940, .inl rtapeF))] := hD
                    refine lv_goto (tgt := 235) hx hb dX5_advance_228 (by decide) ?_
                    refine va_put (D := (dC, dI)) (ci := 5) (v := .int r53) (ty := .int) (C := RX5) (T := TX5) (N := 11) hx hb hts hin5 tyX5 tyX5_ok nmX5 hown hK hP hD hS 0 rfl rfl 6 (by decide) (hts (.fieldLink RX5 43 "PorridgeSea$Reader" "word" "I") (List.mem_of_getElem? (i := 5) rfl)) (fun _ h9 => h9) rfl (by decide +kernel) rfl rfl (Nat.le_of_ble_eq_true rfl) dX5_advance_235 (fun H locs hP hD hS => ?_)
                    have hP : va_P (dC, dI) vwCl [(reader, .inr (5, [.ref rtape, .int (nI rlength), .int (nI rmostBytes), .int (nI rplaceG_27), .int (nI 2), .int (nI k4), .int r53, .int rnumberG_29, .long rlettersG_30, .int rfaultKind, .int rfaultPlace])), (rtape, .inl (ky 2, 940, .inl rtapeF))] H := hP
                    have hD : va_D A [(reader, .inr (5, [.ref rtape, .int (nI rlength), .int (nI rmostBytes), .int (nI rplaceG_27), .int (nI 2), .int (nI k4), .int r53, .int rnumberG_29, .long rlettersG_30, .int rfaultKind, .int rfaultPlace])), (rtape, .inl (ky 2, 940, .inl rtapeF))] := hD
                    rw [hQ]
                    exact W.vret hx hb hr (fun t9 ht9 hW9 => ⟨⟨(rplaceG_27, nI 2, k4, r53, rnumberG_29, rlettersG_30), rfl, ⟨p31, j5, (lf_f_adv_8 bt rlength rmostBytes rplace rtapeF gq k4 n8 y15 rplaceG_27 rnumberG_29 rlettersG_30 r47 r53 iv_rreader_0 iv_rreader_1 iv_rreader_2 hTC hgq j5 j6 jSk hm10 jQ c13 c14 e16 t17 t18 t21 t22 p31 p32 p33 v35 v36 v37 v38 p48 c49 c50 p54)⟩, by rw [ht9]; exact hP, va_K.moved hW9.alike hK, hD⟩, hS.F ht9⟩) hS.2.2 dX5_advance_238
                · refine lv_aload_n hx hb dX5_advance_192 rfl (lv_at hl 0 rfl) ?_
                  refine va_ldcS hx hb hown (hE.2.2.2.2.1) dX5_advance_193 ?_
                  refine lv_bipush (v := nI 7) hx hb dX5_advance_195 (by decide) ?_
                  refine r_call_i (wr := []) (va_runV (As := [.ref (adK 1), .int (nI 7)]) (rest := [.ref reader]) ⟨hx, hb, hml, hown, hts⟩ (c_f_wordIn1 l dC dI ky H.size adK adV bt reader rtape rlength rmostBytes rplaceG_27 (nI 2) k4 r47 rnumberG_29 rlettersG_30 rfaultKind rfaultPlace rtapeF iv_rreader_0 p31 iv_rreader_2 j5 hTC (lf_f_adv_9 bt rlength rmostBytes rplace rtapeF gq k4 n8 y15 rplaceG_27 rlettersG_30 r47 iv_rreader_0 iv_rreader_1 iv_rreader_2 hTC hgq j5 j6 jSk hm10 jQ c13 c14 e16 t17 t18 t21 t22 p31 p32 p33 v35 v36 v37 v38 p48 c49) (lf_f_adv_10 bt rlength rmostBytes rplace rtapeF gq k4 n8 y15 rplaceG_27 rlettersG_30 r47 iv_rreader_0 iv_rreader_1 iv_rreader_2 hTC hgq j5 j6 jSk hm10 jQ c13 c14 e16 t17 t18 t21 t22 p31 p32 p33 v35 v36 v37 v38 p48 c49) v38) (cwV 2 hts gX5_advance_X5_wordIn rfl rfl rfl (by decide +kernel) ⟨(Nat.le_of_ble_eq_true rfl), (Nat.le_of_ble_eq_true rfl)⟩) (pre_UEV hE hS hA hK hP hD [0, 1] (by decide) rfl (va_recv hK hP (ci := 5) (q0 := 0) rfl rfl)) rfl rfl hl.1 rfl (lv_room (Nat.le_of_ble_eq_true rfl)) dX5_advance_197 ⟨(Nat.le_of_ble_eq_true rfl), (Nat.le_of_ble_eq_true rfl)⟩) hP hD hS hA [0, 1] [] rfl rfl (by decide) (by decide) (fun r57 u55 H locs p56 hP hD hS => ?_)
                  try dsimp only at p56
                  have p58 := p56
                  refine W.widen (k := 0) (n := 0) (Nat.le_of_ble_eq_true rfl) (Nat.le_of_ble_eq_true rfl) ?_
                  have hP : va_P (dC, dI) vwCl [(reader, .inr (5, [.ref rtape, .int (nI rlength), .int (nI rmostBytes), .int (nI rplaceG_27), .int (nI 2), .int (nI k4), .int r47, .int rnumberG_29, .long rlettersG_30, .int rfaultKind, .int rfaultPlace])), (rtape, .inl (ky 2, 940, .inl rtapeF))] H := hP
                  have hD : va_D A [(reader, .inr (5, [.ref rtape, .int (nI rlength), .int (nI rmostBytes), .int (nI rplaceG_27), .int (nI 2), .int (nI k4), .int r47, .int rnumberG_29, .long rlettersG_30, .int rfaultKind, .int rfaultPlace])), (rtape, .inl (ky 2, 940, .inl rtapeF))] := hD
                  refine lv_goto (tgt := 207) hx hb dX5_advance_200 (by decide) ?_
                  refine va_put (D := (dC, dI)) (ci := 5) (v := .int r57) (ty := .int) (C := RX5) (T := TX5) (N := 11) hx hb hts hin5 tyX5 tyX5_ok nmX5 hown hK hP hD hS 0 rfl rfl 6 (by decide) (hts (.fieldLink RX5 43 "PorridgeSea$Reader" "word" "I") (List.mem_of_getElem? (i := 5) rfl)) (fun _ h9 => h9) rfl (by decide +kernel) rfl rfl (Nat.le_of_ble_eq_true rfl) dX5_advance_207 (fun H locs hP hD hS => ?_)
                  have hP : va_P (dC, dI) vwCl [(reader, .inr (5, [.ref rtape, .int (nI rlength), .int (nI rmostBytes), .int (nI rplaceG_27), .int (nI 2), .int (nI k4), .int r57, .int rnumberG_29, .long rlettersG_30, .int rfaultKind, .int rfaultPlace])), (rtape, .inl (ky 2, 940, .inl rtapeF))] H := hP
                  have hD : va_D A [(reader, .inr (5, [.ref rtape, .int (nI rlength), .int (nI rmostBytes), .int (nI rplaceG_27), .int (nI 2), .int (nI k4), .int r57, .int rnumberG_29, .long rlettersG_30, .int rfaultKind, .int rfaultPlace])), (rtape, .inl (ky 2, 940, .inl rtapeF))] := hD
                  refine lv_aload_n hx hb dX5_advance_210 rfl (lv_at hl 0 rfl) ?_
                  refine lv_aload_n hx hb dX5_advance_211 rfl (lv_at hl 0 rfl) ?_
                  refine va_get (D := (dC, dI)) (ci := 5) (v := .int r57) (C := RX5) (T := TX5) (N := 11) hx hb hts hin5 hown hK hP 0 rfl rfl 6 (by decide) (hts (.fieldLink RX5 43 "PorridgeSea$Reader" "word" "I") (List.mem_of_getElem? (i := 5) rfl)) (fun _ h9 => h9) rfl dX5_advance_212 ?_
                  refine lv_bipush (v := nI 31) hx hb dX5_advance_215 (by decide) ?_
                  refine lv_icmp_ne (tgt := 231) hx hb dX5_advance_217 (by decide) (fun c59 => ?_) (fun c59 => ?_)
                  · refine lv_aload_n hx hb dX5_advance_231 rfl (lv_at hl 0 rfl) ?_
                    refine va_get (D := (dC, dI)) (ci := 5) (v := .int r57) (C := RX5) (T := TX5) (N := 11) hx hb hts hin5 hown hK hP 0 rfl rfl 6 (by decide) (hts (.fieldLink RX5 43 "PorridgeSea$Reader" "word" "I") (List.mem_of_getElem? (i := 5) rfl)) (fun _ h9 => h9) rfl dX5_advance_232 ?_
                    refine va_put (D := (dC, dI)) (ci := 5) (v := .int r57) (ty := .int) (C := RX5) (T := TX5) (N := 11) hx hb hts hin5 tyX5 tyX5_ok nmX5 hown hK hP hD hS 0 rfl rfl 6 (by decide) (hts (.fieldLink RX5 43 "PorridgeSea$Reader" "word" "I") (List.mem_of_getElem? (i := 5) rfl)) (fun _ h9 => h9) rfl (by decide +kernel) rfl rfl (Nat.le_of_ble_eq_true rfl) dX5_advance_235 (fun H locs hP hD hS => ?_)
                    have hP : va_P (dC, dI) vwCl [(reader, .inr (5, [.ref rtape, .int (nI rlength), .int (nI rmostBytes), .int (nI rplaceG_27), .int (nI 2), .int (nI k4), .int r57, .int rnumberG_29, .long rlettersG_30, .int rfaultKind, .int rfaultPlace])), (rtape, .inl (ky 2, 940, .inl rtapeF))] H := hP
                    have hD : va_D A [(reader, .inr (5, [.ref rtape, .int (nI rlength), .int (nI rmostBytes), .int (nI rplaceG_27), .int (nI 2), .int (nI k4), .int r57, .int rnumberG_29, .long rlettersG_30, .int rfaultKind, .int rfaultPlace])), (rtape, .inl (ky 2, 940, .inl rtapeF))] := hD
                    rw [hQ]
                    exact W.vret hx hb hr (fun t9 ht9 hW9 => ⟨⟨(rplaceG_27, nI 2, k4, r57, rnumberG_29, rlettersG_30), rfl, ⟨p31, j5, (lf_f_adv_11 bt rlength rmostBytes rplace rtapeF gq k4 n8 y15 rplaceG_27 rnumberG_29 rlettersG_30 r47 r57 iv_rreader_0 iv_rreader_1 iv_rreader_2 hTC hgq j5 j6 jSk hm10 jQ c13 c14 e16 t17 t18 t21 t22 p31 p32 p33 v35 v36 v37 v38 p48 c49 p58 c59)⟩, by rw [ht9]; exact hP, va_K.moved hW9.alike hK, hD⟩, hS.F ht9⟩) hS.2.2 dX5_advance_238
                  · refine lv_aload_n hx hb dX5_advance_220 rfl (lv_at hl 0 rfl) ?_
                    refine va_ldcS hx hb hown (hE.2.2.2.2.2.1) dX5_advance_221 ?_
                    refine lv_bipush (v := nI 20) hx hb dX5_advance_223 (by decide) ?_
                    refine r_call_i (wr := []) (va_runV (As := [.ref (adK 2), .int (nI 20)]) (rest := [.ref reader]) ⟨hx, hb, hml, hown, hts⟩ (c_f_wordIn2 l dC dI ky H.size adK adV bt reader rtape rlength rmostBytes rplaceG_27 (nI 2) k4 r57 rnumberG_29 rlettersG_30 rfaultKind rfaultPlace rtapeF iv_rreader_0 p31 iv_rreader_2 j5 hTC (lf_f_adv_12 bt rlength rmostBytes rplace rtapeF gq k4 n8 y15 rplaceG_27 rlettersG_30 r47 r57 iv_rreader_0 iv_rreader_1 iv_rreader_2 hTC hgq j5 j6 jSk hm10 jQ c13 c14 e16 t17 t18 t21 t22 p31 p32 p33 v35 v36 v37 v38 p48 c49 p58 c59) (lf_f_adv_13 bt rlength rmostBytes rplace rtapeF gq k4 n8 y15 rplaceG_27 rlettersG_30 r47 r57 iv_rreader_0 iv_rreader_1 iv_rreader_2 hTC hgq j5 j6 jSk hm10 jQ c13 c14 e16 t17 t18 t21 t22 p31 p32 p33 v35 v36 v37 v38 p48 c49 p58 c59) v38) (cwV 2 hts gX5_advance_X5_wordIn rfl rfl rfl (by decide +kernel) ⟨(Nat.le_of_ble_eq_true rfl), (Nat.le_of_ble_eq_true rfl)⟩) (pre_UEV hE hS hA hK hP hD [0, 1] (by decide) rfl (va_recv hK hP (ci := 5) (q0 := 0) rfl rfl)) rfl rfl hl.1 rfl (lv_room (Nat.le_of_ble_eq_true rfl)) dX5_advance_225 ⟨(Nat.le_of_ble_eq_true rfl), (Nat.le_of_ble_eq_true rfl)⟩) hP hD hS hA [0, 1] [] rfl rfl (by decide) (by decide) (fun r62 u60 H locs p61 hP hD hS => ?_)
                    try dsimp only at p61
                    have p63 := p61
                    refine W.widen (k := 0) (n := 0) (Nat.le_of_ble_eq_true rfl) (Nat.le_of_ble_eq_true rfl) ?_
                    have hP : va_P (dC, dI) vwCl [(reader, .inr (5, [.ref rtape, .int (nI rlength), .int (nI rmostBytes), .int (nI rplaceG_27), .int (nI 2), .int (nI k4), .int r57, .int rnumberG_29, .long rlettersG_30, .int rfaultKind, .int rfaultPlace])), (rtape, .inl (ky 2, 940, .inl rtapeF))] H := hP
                    have hD : va_D A [(reader, .inr (5, [.ref rtape, .int (nI rlength), .int (nI rmostBytes), .int (nI rplaceG_27), .int (nI 2), .int (nI k4), .int r57, .int rnumberG_29, .long rlettersG_30, .int rfaultKind, .int rfaultPlace])), (rtape, .inl (ky 2, 940, .inl rtapeF))] := hD
                    refine lv_goto (tgt := 235) hx hb dX5_advance_228 (by decide) ?_
                    refine va_put (D := (dC, dI)) (ci := 5) (v := .int r62) (ty := .int) (C := RX5) (T := TX5) (N := 11) hx hb hts hin5 tyX5 tyX5_ok nmX5 hown hK hP hD hS 0 rfl rfl 6 (by decide) (hts (.fieldLink RX5 43 "PorridgeSea$Reader" "word" "I") (List.mem_of_getElem? (i := 5) rfl)) (fun _ h9 => h9) rfl (by decide +kernel) rfl rfl (Nat.le_of_ble_eq_true rfl) dX5_advance_235 (fun H locs hP hD hS => ?_)
                    have hP : va_P (dC, dI) vwCl [(reader, .inr (5, [.ref rtape, .int (nI rlength), .int (nI rmostBytes), .int (nI rplaceG_27), .int (nI 2), .int (nI k4), .int r62, .int rnumberG_29, .long rlettersG_30, .int rfaultKind, .int rfaultPlace])), (rtape, .inl (ky 2, 940, .inl rtapeF))] H := hP
                    have hD : va_D A [(reader, .inr (5, [.ref rtape, .int (nI rlength), .int (nI rmostBytes), .int (nI rplaceG_27), .int (nI 2), .int (nI k4), .int r62, .int rnumberG_29, .long rlettersG_30, .int rfaultKind, .int rfaultPlace])), (rtape, .inl (ky 2, 940, .inl rtapeF))] := hD
                    rw [hQ]
                    exact W.vret hx hb hr (fun t9 ht9 hW9 => ⟨⟨(rplaceG_27, nI 2, k4, r62, rnumberG_29, rlettersG_30), rfl, ⟨p31, j5, (lf_f_adv_14 bt rlength rmostBytes rplace rtapeF gq k4 n8 y15 rplaceG_27 rnumberG_29 rlettersG_30 r47 r57 r62 iv_rreader_0 iv_rreader_1 iv_rreader_2 hTC hgq j5 j6 jSk hm10 jQ c13 c14 e16 t17 t18 t21 t22 p31 p32 p33 v35 v36 v37 v38 p48 c49 p58 c59 p63)⟩, by rw [ht9]; exact hP, va_K.moved hW9.alike hK, hD⟩, hS.F ht9⟩) hS.2.2 dX5_advance_238
              · refine lv_goto (tgt := 163) hx hb dX5_advance_156 (by decide) ?_
                refine lv_aload_n hx hb dX5_advance_163 rfl (lv_at hl 0 rfl) ?_
                refine va_get (D := (dC, dI)) (ci := 5) (v := .int (nI 3)) (C := RX5) (T := TX5) (N := 11) hx hb hts hin5 hown hK hP 0 rfl rfl 4 (by decide) (hts (.fieldLink RX5 46 "PorridgeSea$Reader" "kind" "I") (List.mem_of_getElem? (i := 7) rfl)) (fun _ h9 => h9) rfl dX5_advance_164 ?_
                refine lv_iconst (v := nI 2) hx hb dX5_advance_167 (by decide) ?_
                refine lv_icmp_ne (tgt := 238) hx hb dX5_advance_168 (by decide) (fun c64 => ?_) (fun c64 => absurd c64 (by decide))
                rw [hQ]
                exact W.vret hx hb hr (fun t9 ht9 hW9 => ⟨⟨(rplaceG_27, nI 3, k4, (-1 : Int32), rnumberG_29, rlettersG_30), rfl, ⟨p31, j5, (lf_f_adv_15 bt rlength rmostBytes rplace rtapeF gq k4 n8 y15 rplaceG_27 rnumberG_29 rlettersG_30 iv_rreader_0 iv_rreader_1 iv_rreader_2 hTC hgq j5 j6 jSk hm10 jQ c13 c14 e16 t17 t18 t21 t22 p31 p32 p33 v39 v40 v41)⟩, by rw [ht9]; exact hP, va_K.moved hW9.alike hK, hD⟩, hS.F ht9⟩) hS.2.2 dX5_advance_238
              · refine lv_goto (tgt := 163) hx hb dX5_advance_156 (by decide) ?_
                refine lv_aload_n hx hb dX5_advance_163 rfl (lv_at hl 0 rfl) ?_
                refine va_get (D := (dC, dI)) (ci := 5) (v := .int (nI 1)) (C := RX5) (T := TX5) (N := 11) hx hb hts hin5 hown hK hP 0 rfl rfl 4 (by decide) (hts (.fieldLink RX5 46 "PorridgeSea$Reader" "kind" "I") (List.mem_of_getElem? (i := 7) rfl)) (fun _ h9 => h9) rfl dX5_advance_164 ?_
                refine lv_iconst (v := nI 2) hx hb dX5_advance_167 (by decide) ?_
                refine lv_icmp_ne (tgt := 238) hx hb dX5_advance_168 (by decide) (fun c65 => ?_) (fun c65 => absurd c65 (by decide))
                rw [hQ]
                exact W.vret hx hb hr (fun t9 ht9 hW9 => ⟨⟨(rplaceG_27, nI 1, k4, (-1 : Int32), rnumberG_29, rlettersG_30), rfl, ⟨p31, j5, (lf_f_adv_16 bt rlength rmostBytes rplace rtapeF gq k4 n8 y15 rplaceG_27 rnumberG_29 rlettersG_30 iv_rreader_0 iv_rreader_1 iv_rreader_2 hTC hgq j5 j6 jSk hm10 jQ c13 c14 e16 t17 t18 t21 t22 p31 p32 p33 v42 v43)⟩, by rw [ht9]; exact hP, va_K.moved hW9.alike hK, hD⟩, hS.F ht9⟩) hS.2.2 dX5_advance_238
            · refine lv_if_ne (tgt := 152) hx hb dX5_advance_134 (by decide) (fun c66 => absurd c66 (by decide)) (fun c66 => ?_)
              refine lv_aload_n hx hb dX5_advance_137 rfl (lv_at hl 0 rfl) ?_
              refine va_get (D := (dC, dI)) (ci := 5) (v := .ref rtape) (C := RX5) (T := TX5) (N := 11) hx hb hts hin5 hown hK hP 0 rfl rfl 0 (by decide) (hts (.fieldLink RX5 9 "PorridgeSea$Reader" "tape" "[B") (List.mem_of_getElem? (i := 3) rfl)) (fun _ h9 => h9) rfl dX5_advance_138 ?_
              refine lv_aload_n hx hb dX5_advance_141 rfl (lv_at hl 0 rfl) ?_
              refine va_get (D := (dC, dI)) (ci := 5) (v := .int (nI k4)) (C := RX5) (T := TX5) (N := 11) hx hb hts hin5 hown hK hP 0 rfl rfl 3 (by decide) (hts (.fieldLink RX5 28 "PorridgeSea$Reader" "place" "I") (List.mem_of_getElem? (i := 1) rfl)) (fun _ h9 => h9) rfl dX5_advance_142 ?_
              obtain ⟨y67, e68⟩ : ∃ z9, z9 = rtapeF k4 := ⟨_, rfl⟩
              refine r_bald hx hb hK hP 1 rfl k4 (by omega) (by decide) y67 e68.symm dX5_advance_145 ?_
              obtain ⟨t69, t70⟩ : bt k4 < 256 ∧ (y67.toInt = ((bt k4 : Nat) : Int) ∨ (128 ≤ bt k4 ∧ y67.toInt = ((bt k4 : Nat) : Int) - 256)) := by rw [e68]; exact hTC k4 (by omega)
              refine vp_callSi (W.runS (As := [.int y67]) (rest := []) ⟨hx, hb, hml, hown, hts⟩ (c_f_isDigit l dC dI ky y67) (va_cwS 1 hts gX5_advance_X5_isDigit rfl rfl rfl (by decide +kernel) ⟨(Nat.le_of_ble_eq_true rfl), (Nat.le_of_ble_eq_true rfl)⟩) (pre_PS hK hP [] rfl) rfl rfl hl.1 rfl (lv_room (Nat.le_of_ble_eq_true rfl)) dX5_advance_146 ⟨(Nat.le_of_ble_eq_true rfl), (Nat.le_of_ble_eq_true rfl)⟩) (fun r71 p72 => ?_)
              rcases p72 with ⟨rfl, t73, t74⟩ | ⟨rfl, t75⟩
              · refine lv_if_eq (tgt := 159) hx hb dX5_advance_149 (by decide) (fun c76 => absurd c76 (by decide)) (fun c76 => ?_)
                refine lv_aload_n hx hb dX5_advance_152 rfl (lv_at hl 0 rfl) ?_
                refine r_call_v (wr := []) (va_runV (As := []) (rest := []) ⟨hx, hb, hml, hown, hts⟩ (c_f_readRun l dC dI ky H.size bt reader rtape rlength rmostBytes k4 rkind k4 (-1 : Int32) rnumber rletters rfaultKind rfaultPlace rtapeF iv_rreader_0 j6 iv_rreader_2 j5 hTC (lf_f_adv_17 bt rlength rmostBytes rplace rtapeF gq k4 n8 y15 y67 iv_rreader_0 iv_rreader_1 iv_rreader_2 hTC hgq j5 j6 jSk hm10 jQ c13 c14 e16 t17 t18 t23 e68 t69 t70 t73 t74) c14 (lf_f_adv_18 bt rlength rmostBytes rplace rtapeF gq k4 n8 y15 y67 iv_rreader_0 iv_rreader_1 iv_rreader_2 hTC hgq j5 j6 jSk hm10 jQ c13 c14 e16 t17 t18 t23 e68 t69 t70 t73 t74)) (cwV 0 hts gX5_advance_X5_readRun rfl rfl rfl (by decide +kernel) ⟨(Nat.le_of_ble_eq_true rfl), (Nat.le_of_ble_eq_true rfl)⟩) (pre_UV hK hP hD [0, 1] (by decide) rfl (ci := 5) (q0 := 0) rfl rfl) rfl rfl hl.1 rfl (lv_room (Nat.le_of_ble_eq_true rfl)) dX5_advance_153 ⟨(Nat.le_of_ble_eq_true rfl), (Nat.le_of_ble_eq_true rfl)⟩) hP hD hS hA [0, 1] [] rfl rfl (by decide) (by decide) (fun  u77 H locs p78 hP hD hS => ?_)
                obtain ⟨rplaceG_79, rkindG_80, rnumberG_81, rlettersG_82⟩ := u77
                try dsimp only at p78
                obtain ⟨p83, p84, p85, p86⟩ := p78
                refine W.widen (k := 0) (n := 0) (Nat.le_of_ble_eq_true rfl) (Nat.le_of_ble_eq_true rfl) ?_
                have hP : va_P (dC, dI) vwCl [(reader, .inr (5, [.ref rtape, .int (nI rlength), .int (nI rmostBytes), .int (nI rplaceG_79), .int rkindG_80, .int (nI k4), .int (-1 : Int32), .int rnumberG_81, .long rlettersG_82, .int rfaultKind, .int rfaultPlace])), (rtape, .inl (ky 2, 940, .inl rtapeF))] H := hP
                have hD : va_D A [(reader, .inr (5, [.ref rtape, .int (nI rlength), .int (nI rmostBytes), .int (nI rplaceG_79), .int rkindG_80, .int (nI k4), .int (-1 : Int32), .int rnumberG_81, .long rlettersG_82, .int rfaultKind, .int rfaultPlace])), (rtape, .inl (ky 2, 940, .inl rtapeF))] := hD
                rcases p86 with ⟨rfl, v87, v88, v89, v90⟩ | ⟨rfl, v91, v92, v93⟩ | ⟨rfl, v94, v95⟩
                · refine lv_goto (tgt := 163) hx hb dX5_advance_156 (by decide) ?_
                  refine lv_aload_n hx hb dX5_advance_163 rfl (lv_at hl 0 rfl) ?_
                  refine va_get (D := (dC, dI)) (ci := 5) (v := .int (nI 2)) (C := RX5) (T := TX5) (N := 11) hx hb hts hin5 hown hK hP 0 rfl rfl 4 (by decide) (hts (.fieldLink RX5 46 "PorridgeSea$Reader" "kind" "I") (List.mem_of_getElem? (i := 7) rfl)) (fun _ h9 => h9) rfl dX5_advance_164 ?_
                  refine lv_iconst (v := nI 2) hx hb dX5_advance_167 (by decide) ?_
                  refine lv_icmp_ne (tgt := 238) hx hb dX5_advance_168 (by decide) (fun c96 => absurd c96 (by decide)) (fun c96 => ?_)
                  refine lv_aload_n hx hb dX5_advance_171 rfl (lv_at hl 0 rfl) ?_
                  refine lv_aload_n hx hb dX5_advance_172 rfl (lv_at hl 0 rfl) ?_
                  refine va_ldcS hx hb hown (hE.2.2.2.1) dX5_advance_173 ?_
                  refine lv_iconst (v := nI 0) hx hb dX5_advance_175 (by decide) ?_
                  refine r_call_i (wr := []) (va_runV (As := [.ref (adK 0), .int (nI 0)]) (rest := [.ref reader]) ⟨hx, hb, hml, hown, hts⟩ (c_f_wordIn0 l dC dI ky H.size adK adV bt reader rtape rlength rmostBytes rplaceG_79 (nI 2) k4 (-1 : Int32) rnumberG_81 rlettersG_82 rfaultKind rfaultPlace rtapeF iv_rreader_0 p83 iv_rreader_2 j5 hTC (lf_f_adv_19 bt rlength rmostBytes rplace rtapeF gq k4 n8 y15 y67 rplaceG_79 rlettersG_82 iv_rreader_0 iv_rreader_1 iv_rreader_2 hTC hgq j5 j6 jSk hm10 jQ c13 c14 e16 t17 t18 t23 e68 t69 t70 t73 t74 p83 p84 p85 v87 v88 v89 v90) (lf_f_adv_20 bt rlength rmostBytes rplace rtapeF gq k4 n8 y15 y67 rplaceG_79 rlettersG_82 iv_rreader_0 iv_rreader_1 iv_rreader_2 hTC hgq j5 j6 jSk hm10 jQ c13 c14 e16 t17 t18 t23 e68 t69 t70 t73 t74 p83 p84 p85 v87 v88 v89 v90) v90) (cwV 2 hts gX5_advance_X5_wordIn rfl rfl rfl (by decide +kernel) ⟨(Nat.le_of_ble_eq_true rfl), (Nat.le_of_ble_eq_true rfl)⟩) (pre_UEV hE hS hA hK hP hD [0, 1] (by decide) rfl (va_recv hK hP (ci := 5) (q0 := 0) rfl rfl)) rfl rfl hl.1 rfl (lv_room (Nat.le_of_ble_eq_true rfl)) dX5_advance_176 ⟨(Nat.le_of_ble_eq_true rfl), (Nat.le_of_ble_eq_true rfl)⟩) hP hD hS hA [0, 1] [] rfl rfl (by decide) (by decide) (fun r99 u97 H locs p98 hP hD hS => ?_)
                  try dsimp only at p98
                  have p100 := p98
                  refine W.widen (k := 0) (n := 0) (Nat.le_of_ble_eq_true rfl) (Nat.le_of_ble_eq_true rfl) ?_
                  have hP : va_P (dC, dI) vwCl [(reader, .inr (5, [.ref rtape, .int (nI rlength), .int (nI rmostBytes), .int (nI rplaceG_79), .int (nI 2), .int (nI k4), .int (-1 : Int32), .int rnumberG_81, .long rlettersG_82, .int rfaultKind, .int rfaultPlace])), (rtape, .inl (ky 2, 940, .inl rtapeF))] H := hP
                  have hD : va_D A [(reader, .inr (5, [.ref rtape, .int (nI rlength), .int (nI rmostBytes), .int (nI rplaceG_79), .int (nI 2), .int (nI k4), .int (-1 : Int32), .int rnumberG_81, .long rlettersG_82, .int rfaultKind, .int rfaultPlace])), (rtape, .inl (ky 2, 940, .inl rtapeF))] := hD
                  refine va_put (D := (dC, dI)) (ci := 5) (v := .int r99) (ty := .int) (C := RX5) (T := TX5) (N := 11) hx hb hts hin5 tyX5 tyX5_ok nmX5 hown hK hP hD hS 0 rfl rfl 6 (by decide) (hts (.fieldLink RX5 43 "PorridgeSea$Reader" "word" "I") (List.mem_of_getElem? (i := 5) rfl)) (fun _ h9 => h9) rfl (by decide +kernel) rfl rfl (Nat.le_of_ble_eq_true rfl) dX5_advance_179 (fun H locs hP hD hS => ?_)
                  have hP : va_P (dC, dI) vwCl [(reader, .inr (5, [.ref rtape, .int (nI rlength), .int (nI rmostBytes), .int (nI rplaceG_79), .int (nI 2), .int (nI k4), .int r99, .int rnumberG_81, .long rlettersG_82, .int rfaultKind, .int rfaultPlace])), (rtape, .inl (ky 2, 940, .inl rtapeF))] H := hP
                  have hD : va_D A [(reader, .inr (5, [.ref rtape, .int (nI rlength), .int (nI rmostBytes), .int (nI rplaceG_79), .int (nI 2), .int (nI k4), .int r99, .int rnumberG_81, .long rlettersG_82, .int rfaultKind, .int rfaultPlace])), (rtape, .inl (ky 2, 940, .inl rtapeF))] := hD
                  refine lv_aload_n hx hb dX5_advance_182 rfl (lv_at hl 0 rfl) ?_
                  refine lv_aload_n hx hb dX5_advance_183 rfl (lv_at hl 0 rfl) ?_
                  refine va_get (D := (dC, dI)) (ci := 5) (v := .int r99) (C := RX5) (T := TX5) (N := 11) hx hb hts hin5 hown hK hP 0 rfl rfl 6 (by decide) (hts (.fieldLink RX5 43 "PorridgeSea$Reader" "word" "I") (List.mem_of_getElem? (i := 5) rfl)) (fun _ h9 => h9) rfl dX5_advance_184 ?_
                  refine lv_bipush (v := nI 31) hx hb dX5_advance_187 (by decide) ?_
                  refine lv_icmp_ne (tgt := 203) hx hb dX5_advance_189 (by decide) (fun c101 => ?_) (fun c101 => ?_)
                  · refine lv_aload_n hx hb dX5_advance_203 rfl (lv_at hl 0 rfl) ?_
                    refine va_get (D := (dC, dI)) (ci := 5) (v := .int r99) (C := RX5) (T := TX5) (N := 11) hx hb hts hin5 hown hK hP 0 rfl rfl 6 (by decide) (hts (.fieldLink RX5 43 "PorridgeSea$Reader" "word" "I") (List.mem_of_getElem? (i := 5) rfl)) (fun _ h9 => h9) rfl dX5_advance_204 ?_
                    refine va_put (D := (dC, dI)) (ci := 5) (v := .int r99) (ty := .int) (C := RX5) (T := TX5) (N := 11) hx hb hts hin5 tyX5 tyX5_ok nmX5 hown hK hP hD hS 0 rfl rfl 6 (by decide) (hts (.fieldLink RX5 43 "PorridgeSea$Reader" "word" "I") (List.mem_of_getElem? (i := 5) rfl)) (fun _ h9 => h9) rfl (by decide +kernel) rfl rfl (Nat.le_of_ble_eq_true rfl) dX5_advance_207 (fun H locs hP hD hS => ?_)
                    have hP : va_P (dC, dI) vwCl [(reader, .inr (5, [.ref rtape, .int (nI rlength), .int (nI rmostBytes), .int (nI rplaceG_79), .int (nI 2), .int (nI k4), .int r99, .int rnumberG_81, .long rlettersG_82, .int rfaultKind, .int rfaultPlace])), (rtape, .inl (ky 2, 940, .inl rtapeF))] H := hP
                    have hD : va_D A [(reader, .inr (5, [.ref rtape, .int (nI rlength), .int (nI rmostBytes), .int (nI rplaceG_79), .int (nI 2), .int (nI k4), .int r99, .int rnumberG_81, .long rlettersG_82, .int rfaultKind, .int rfaultPlace])), (rtape, .inl (ky 2, 940, .inl rtapeF))] := hD
                    refine lv_aload_n hx hb dX5_advance_210 rfl (lv_at hl 0 rfl) ?_
                    refine lv_aload_n hx hb dX5_advance_211 rfl (lv_at hl 0 rfl) ?_
                    refine va_get (D := (dC, dI)) (ci := 5) (v := .int r99) (C := RX5) (T := TX5) (N := 11) hx hb hts hin5 hown hK hP 0 rfl rfl 6 (by decide) (hts (.fieldLink RX5 43 "PorridgeSea$Reader" "word" "I") (List.mem_of_getElem? (i := 5) rfl)) (fun _ h9 => h9) rfl dX5_advance_212 ?_
                    refine lv_bipush (v := nI 31) hx hb dX5_advance_215 (by decide) ?_
                    refine lv_icmp_ne (tgt := 231) hx hb dX5_advance_217 (by decide) (fun c102 => ?_) (fun c102 => ?_)
                    · refine lv_aload_n hx hb dX5_advance_231 rfl (lv_at hl 0 rfl) ?_
                      refine va_get (D := (dC, dI)) (ci := 5) (v := .int r99) (C := RX5) (T := TX5) (N := 11) hx hb hts hin5 hown hK hP 0 rfl rfl 6 (by decide) (hts (.fieldLink RX5 43 "PorridgeSea$Reader" "word" "I") (List.mem_of_getElem? (i := 5) rfl)) (fun _ h9 => h9) rfl dX5_advance_232 ?_
                      refine va_put (D := (dC, dI)) (ci := 5) (v := .int r99) (ty := .int) (C := RX5) (T := TX5) (N := 11) hx hb hts hin5 tyX5 tyX5_ok nmX5 hown hK hP hD hS 0 rfl rfl 6 (by decide) (hts (.fieldLink RX5 43 "PorridgeSea$Reader" "word" "I") (List.mem_of_getElem? (i := 5) rfl)) (fun _ h9 => h9) rfl (by decide +kernel) rfl rfl (Nat.le_of_ble_eq_true rfl) dX5_advance_235 (fun H locs hP hD hS => ?_)
                      have hP : va_P (dC, dI) vwCl [(reader, .inr (5, [.ref rtape, .int (nI rlength), .int (nI rmostBytes), .int (nI rplaceG_79), .int (nI 2), .int (nI k4), .int r99, .int rnumberG_81, .long rlettersG_82, .int rfaultKind, .int rfaultPlace])), (rtape, .inl (ky 2, 940, .inl rtapeF))] H := hP
                      have hD : va_D A [(reader, .inr (5, [.ref rtape, .int (nI rlength), .int (nI rmostBytes), .int (nI rplaceG_79), .int (nI 2), .int (nI k4), .int r99, .int rnumberG_81, .long rlettersG_82, .int rfaultKind, .int rfaultPlace])), (rtape, .inl (ky 2, 940, .inl rtapeF))] := hD
                      rw [hQ]
                      exact W.vret hx hb hr (fun t9 ht9 hW9 => ⟨⟨(rplaceG_79, nI 2, k4, r99, rnumberG_81, rlettersG_82), rfl, ⟨p83, j5, (lf_f_adv_21 bt rlength rmostBytes rplace rtapeF gq k4 n8 y15 y67 rplaceG_79 rnumberG_81 rlettersG_82 r99 iv_rreader_0 iv_rreader_1 iv_rreader_2 hTC hgq j5 j6 jSk hm10 jQ c13 c14 e16 t17 t18 t23 e68 t69 t70 t73 t74 p83 p84 p85 v87 v88 v89 v90 p100 c101 c102)⟩, by rw [ht9]; exact hP, va_K.moved hW9.alike hK, hD⟩, hS.F ht9⟩) hS.2.2 dX5_advance_238
                    · refine lv_aload_n hx hb dX5_advance_220 rfl (lv_at hl 0 rfl) ?_
                      refine va_ldcS hx hb hown (hE.2.2.2.2.2.1) dX5_advance_221 ?_
                      refine lv_bipush (v := nI 20) hx hb dX5_advance_223 (by decide) ?_
                      refine r_call_i (wr := []) (va_runV (As := [.ref (adK 2), .int (nI 20)]) (rest := [.ref reader]) ⟨hx, hb, hml, hown, hts⟩ (c_f_wordIn2 l dC dI ky H.size adK adV bt reader rtape rlength rmostBytes rplaceG_79 (nI 2) k4 r99 rnumberG_81 rlettersG_82 rfaultKind rfaultPlace rtapeF iv_rreader_0 p83 iv_rreader_2 j5 hTC (lf_f_adv_22 bt rlength rmostBytes rplace rtapeF gq k4 n8 y15 y67 rplaceG_79 rlettersG_82 r99 iv_rreader_0 iv_rreader_1 iv_rreader_2 hTC hgq j5 j6 jSk hm10 jQ c13 c14 e16 t17 t18 t23 e68 t69 t70 t73 t74 p83 p84 p85 v87 v88 v89 v90 p100 c101 c102) (lf_f_adv_23 bt rlength rmostBytes rplace rtapeF gq k4 n8 y15 y67 rplaceG_79 rlettersG_82 r99 iv_rreader_0 iv_rreader_1 iv_rreader_2 hTC hgq j5 j6 jSk hm10 jQ c13 c14 e16 t17 t18 t23 e68 t69 t70 t73 t74 p83 p84 p85 v87 v88 v89 v90 p100 c101 c102) v90) (cwV 2 hts gX5_advance_X5_wordIn rfl rfl rfl (by decide +kernel) ⟨(Nat.le_of_ble_eq_true rfl), (Nat.le_of_ble_eq_true rfl)⟩) (pre_UEV hE hS hA hK hP hD [0, 1] (by decide) rfl (va_recv hK hP (ci := 5) (q0 := 0) rfl rfl)) rfl rfl hl.1 rfl (lv_room (Nat.le_of_ble_eq_true rfl)) dX5_advance_225 ⟨(Nat.le_of_ble_eq_true rfl), (Nat.le_of_ble_eq_true rfl)⟩) hP hD hS hA [0, 1] [] rfl rfl (by decide) (by decide) (fun r105 u103 H locs p104 hP hD hS => ?_)
                      try dsimp only at p104
                      have p106 := p104
                      refine W.widen (k := 0) (n := 0) (Nat.le_of_ble_eq_true rfl) (Nat.le_of_ble_eq_true rfl) ?_
                      have hP : va_P (dC, dI) vwCl [(reader, .inr (5, [.ref rtape, .int (nI rlength), .int (nI rmostBytes), .int (nI rplaceG_79), .int (nI 2), .int (nI k4), .int r99, .int rnumberG_81, .long rlettersG_82, .int rfaultKind, .int rfaultPlace])), (rtape, .inl (ky 2, 940, .inl rtapeF))] H := hP
                      have hD : va_D A [(reader, .inr (5, [.ref rtape, .int (nI rlength), .int (nI rmostBytes), .int (nI rplaceG_79), .int (nI 2), .int (nI k4), .int r99, .int rnumberG_81, .long rlettersG_82, .int rfaultKind, .int rfaultPlace])), (rtape, .inl (ky 2, 940, .inl rtapeF))] := hD
                      refine lv_goto (tgt := 235) hx hb dX5_advance_228 (by decide) ?_
                      refine va_put (D := (dC, dI)) (ci := 5) (v := .int r105) (ty := .int) (C := RX5) (T := TX5) (N := 11) hx hb hts hin5 tyX5 tyX5_ok nmX5 hown hK hP hD hS 0 rfl rfl 6 (by decide) (hts (.fieldLink RX5 43 "PorridgeSea$Reader" "word" "I") (List.mem_of_getElem? (i := 5) rfl)) (fun _ h9 => h9) rfl (by decide +kernel) rfl rfl (Nat.le_of_ble_eq_true rfl) dX5_advance_235 (fun H locs hP hD hS => ?_)
                      have hP : va_P (dC, dI) vwCl [(reader, .inr (5, [.ref rtape, .int (nI rlength), .int (nI rmostBytes), .int (nI rplaceG_79), .int (nI 2), .int (nI k4), .int r105, .int rnumberG_81, .long rlettersG_82, .int rfaultKind, .int rfaultPlace])), (rtape, .inl (ky 2, 940, .inl rtapeF))] H := hP
                      have hD : va_D A [(reader, .inr (5, [.ref rtape, .int (nI rlength), .int (nI rmostBytes), .int (nI rplaceG_79), .int (nI 2), .int (nI k4), .int r105, .int rnumberG_81, .long rlettersG_82, .int rfaultKind, .int rfaultPlace])), (rtape, .inl (ky 2, 940, .inl rtapeF))] := hD
                      rw [hQ]
                      exact W.vret hx hb hr (fun t9 ht9 hW9 => ⟨⟨(rplaceG_79, nI 2, k4, r105, rnumberG_81, rlettersG_82), rfl, ⟨p83, j5, (lf_f_adv_24 bt rlength rmostBytes rplace rtapeF gq k4 n8 y15 y67 rplaceG_79 rnumberG_81 rlettersG_82 r99 r105 iv_rreader_0 iv_rreader_1 iv_rreader_2 hTC hgq j5 j6 jSk hm10 jQ c13 c14 e16 t17 t18 t23 e68 t69 t70 t73 t74 p83 p84 p85 v87 v88 v89 v90 p100 c101 c102 p106)⟩, by rw [ht9]; exact hP, va_K.moved hW9.alike hK, hD⟩, hS.F ht9⟩) hS.2.2 dX5_advance_238
                  · refine lv_aload_n hx hb dX5_advance_192 rfl (lv_at hl 0 rfl) ?_
                    refine va_ldcS hx hb hown (hE.2.2.2.2.1) dX5_advance_193 ?_
                    refine lv_bipush (v := nI 7) hx hb dX5_advance_195 (by decide) ?_
                    refine r_call_i (wr := []) (va_runV (As := [.ref (adK 1), .int (nI 7)]) (rest := [.ref reader]) ⟨hx, hb, hml, hown, hts⟩ (c_f_wordIn1 l dC dI ky H.size adK adV bt reader rtape rlength rmostBytes rplaceG_79 (nI 2) k4 r99 rnumberG_81 rlettersG_82 rfaultKind rfaultPlace rtapeF iv_rreader_0 p83 iv_rreader_2 j5 hTC (lf_f_adv_25 bt rlength rmostBytes rplace rtapeF gq k4 n8 y15 y67 rplaceG_79 rlettersG_82 r99 iv_rreader_0 iv_rreader_1 iv_rreader_2 hTC hgq j5 j6 jSk hm10 jQ c13 c14 e16 t17 t18 t23 e68 t69 t70 t73 t74 p83 p84 p85 v87 v88 v89 v90 p100 c101) (lf_f_adv_26 bt rlength rmostBytes rplace rtapeF gq k4 n8 y15 y67 rplaceG_79 rlettersG_82 r99 iv_rreader_0 iv_rreader_1 iv_rreader_2 hTC hgq j5 j6 jSk hm10 jQ c13 c14 e16 t17 t18 t23 e68 t69 t70 t73 t74 p83 p84 p85 v87 v88 v89 v90 p100 c101) v90) (cwV 2 hts gX5_advance_X5_wordIn rfl rfl rfl (by decide +kernel) ⟨(Nat.le_of_ble_eq_true rfl), (Nat.le_of_ble_eq_true rfl)⟩) (pre_UEV hE hS hA hK hP hD [0, 1] (by decide) rfl (va_recv hK hP (ci := 5) (q0 := 0) rfl rfl)) rfl rfl hl.1 rfl (lv_room (Nat.le_of_ble_eq_true rfl)) dX5_advance_197 ⟨(Nat.le_of_ble_eq_true rfl), (Nat.le_of_ble_eq_true rfl)⟩) hP hD hS hA [0, 1] [] rfl rfl (by decide) (by decide) (fun r109 u107 H locs p108 hP hD hS => ?_)
                    try dsimp only at p108
                    have p110 := p108
                    refine W.widen (k := 0) (n := 0) (Nat.le_of_ble_eq_true rfl) (Nat.le_of_ble_eq_true rfl) ?_
                    have hP : va_P (dC, dI) vwCl [(reader, .inr (5, [.ref rtape, .int (nI rlength), .int (nI rmostBytes), .int (nI rplaceG_79), .int (nI 2), .int (nI k4), .int r99, .int rnumberG_81, .long rlettersG_82, .int rfaultKind, .int rfaultPlace])), (rtape, .inl (ky 2, 940, .inl rtapeF))] H := hP
                    have hD : va_D A [(reader, .inr (5, [.ref rtape, .int (nI rlength), .int (nI rmostBytes), .int (nI rplaceG_79), .int (nI 2), .int (nI k4), .int r99, .int rnumberG_81, .long rlettersG_82, .int rfaultKind, .int rfaultPlace])), (rtape, .inl (ky 2, 940, .inl rtapeF))] := hD
                    refine lv_goto (tgt := 207) hx hb dX5_advance_200 (by decide) ?_
                    refine va_put (D := (dC, dI)) (ci := 5) (v := .int r109) (ty := .int) (C := RX5) (T := TX5) (N := 11) hx hb hts hin5 tyX5 tyX5_ok nmX5 hown hK hP hD hS 0 rfl rfl 6 (by decide) (hts (.fieldLink RX5 43 "PorridgeSea$Reader" "word" "I") (List.mem_of_getElem? (i := 5) rfl)) (fun _ h9 => h9) rfl (by decide +kernel) rfl rfl (Nat.le_of_ble_eq_true rfl) dX5_advance_207 (fun H locs hP hD hS => ?_)
                    have hP : va_P (dC, dI) vwCl [(reader, .inr (5, [.ref rtape, .int (nI rlength), .int (nI rmostBytes), .int (nI rplaceG_79), .int (nI 2), .int (nI k4), .int r109, .int rnumberG_81, .long rlettersG_82, .int rfaultKind, .int rfaultPlace])), (rtape, .inl (ky 2, 940, .inl rtapeF))] H := hP
                    have hD : va_D A [(reader, .inr (5, [.ref rtape, .int (nI rlength), .int (nI rmostBytes), .int (nI rplaceG_79), .int (nI 2), .int (nI k4), .int r109, .int rnumberG_81, .long rlettersG_82, .int rfaultKind, .int rfaultPlace])), (rtape, .inl (ky 2, 940, .inl rtapeF))] := hD
                    refine lv_aload_n hx hb dX5_advance_210 rfl (lv_at hl 0 rfl) ?_
                    refine lv_aload_n hx hb dX5_advance_211 rfl (lv_at hl 0 rfl) ?_
                    refine va_get (D := (dC, dI)) (ci := 5) (v := .int r109) (C := RX5) (T := TX5) (N := 11) hx hb hts hin5 hown hK hP 0 rfl rfl 6 (by decide) (hts (.fieldLink RX5 43 "PorridgeSea$Reader" "word" "I") (List.mem_of_getElem? (i := 5) rfl)) (fun _ h9 => h9) rfl dX5_advance_212 ?_
                    refine lv_bipush (v := nI 31) hx hb dX5_advance_215 (by decide) ?_
                    refine lv_icmp_ne (tgt := 231) hx hb dX5_advance_217 (by decide) (fun c111 => ?_) (fun c111 => ?_)
                    · refine lv_aload_n hx hb dX5_advance_231 rfl (lv_at hl 0 rfl) ?_
                      refine va_get (D := (dC, dI)) (ci := 5) (v := .int r109) (C := RX5) (T := TX5) (N := 11) hx hb hts hin5 hown hK hP 0 rfl rfl 6 (by decide) (hts (.fieldLink RX5 43 "PorridgeSea$Reader" "word" "I") (List.mem_of_getElem? (i := 5) rfl)) (fun _ h9 => h9) rfl dX5_advance_232 ?_
                      refine va_put (D := (dC, dI)) (ci := 5) (v := .int r109) (ty := .int) (C := RX5) (T := TX5) (N := 11) hx hb hts hin5 tyX5 tyX5_ok nmX5 hown hK hP hD hS 0 rfl rfl 6 (by decide) (hts (.fieldLink RX5 43 "PorridgeSea$Reader" "word" "I") (List.mem_of_getElem? (i := 5) rfl)) (fun _ h9 => h9) rfl (by decide +kernel) rfl rfl (Nat.le_of_ble_eq_true rfl) dX5_advance_235 (fun H locs hP hD hS => ?_)
                      have hP : va_P (dC, dI) vwCl [(reader, .inr (5, [.ref rtape, .int (nI rlength), .int (nI rmostBytes), .int (nI rplaceG_79), .int (nI 2), .int (nI k4), .int r109, .int rnumberG_81, .long rlettersG_82, .int rfaultKind, .int rfaultPlace])), (rtape, .inl (ky 2, 940, .inl rtapeF))] H := hP
                      have hD : va_D A [(reader, .inr (5, [.ref rtape, .int (nI rlength), .int (nI rmostBytes), .int (nI rplaceG_79), .int (nI 2), .int (nI k4), .int r109, .int rnumberG_81, .long rlettersG_82, .int rfaultKind, .int rfaultPlace])), (rtape, .inl (ky 2, 940, .inl rtapeF))] := hD
                      rw [hQ]
                      exact W.vret hx hb hr (fun t9 ht9 hW9 => ⟨⟨(rplaceG_79, nI 2, k4, r109, rnumberG_81, rlettersG_82), rfl, ⟨p83, j5, (lf_f_adv_27 bt rlength rmostBytes rplace rtapeF gq k4 n8 y15 y67 rplaceG_79 rnumberG_81 rlettersG_82 r99 r109 iv_rreader_0 iv_rreader_1 iv_rreader_2 hTC hgq j5 j6 jSk hm10 jQ c13 c14 e16 t17 t18 t23 e68 t69 t70 t73 t74 p83 p84 p85 v87 v88 v89 v90 p100 c101 p110 c111)⟩, by rw [ht9]; exact hP, va_K.moved hW9.alike hK, hD⟩, hS.F ht9⟩) hS.2.2 dX5_advance_238
                    · refine lv_aload_n hx hb dX5_advance_220 rfl (lv_at hl 0 rfl) ?_
                      refine va_ldcS hx hb hown (hE.2.2.2.2.2.1) dX5_advance_221 ?_
                      refine lv_bipush (v := nI 20) hx hb dX5_advance_223 (by decide) ?_
                      refine r_call_i (wr := []) (va_runV (As := [.ref (adK 2), .int (nI 20)]) (rest := [.ref reader]) ⟨hx, hb, hml, hown, hts⟩ (c_f_wordIn2 l dC dI ky H.size adK adV bt reader rtape rlength rmostBytes rplaceG_79 (nI 2) k4 r109 rnumberG_81 rlettersG_82 rfaultKind rfaultPlace rtapeF iv_rreader_0 p83 iv_rreader_2 j5 hTC (lf_f_adv_28 bt rlength rmostBytes rplace rtapeF gq k4 n8 y15 y67 rplaceG_79 rlettersG_82 r99 r109 iv_rreader_0 iv_rreader_1 iv_rreader_2 hTC hgq j5 j6 jSk hm10 jQ c13 c14 e16 t17 t18 t23 e68 t69 t70 t73 t74 p83 p84 p85 v87 v88 v89 v90 p100 c101 p110 c111) (lf_f_adv_29 bt rlength rmostBytes rplace rtapeF gq k4 n8 y15 y67 rplaceG_79 rlettersG_82 r99 r109 iv_rreader_0 iv_rreader_1 iv_rreader_2 hTC hgq j5 j6 jSk hm10 jQ c13 c14 e16 t17 t18 t23 e68 t69 t70 t73 t74 p83 p84 p85 v87 v88 v89 v90 p100 c101 p110 c111) v90) (cwV 2 hts gX5_advance_X5_wordIn rfl rfl rfl (by decide +kernel) ⟨(Nat.le_of_ble_eq_true rfl), (Nat.le_of_ble_eq_true rfl)⟩) (pre_UEV hE hS hA hK hP hD [0, 1] (by decide) rfl (va_recv hK hP (ci := 5) (q0 := 0) rfl rfl)) rfl rfl hl.1 rfl (lv_room (Nat.le_of_ble_eq_true rfl)) dX5_advance_225 ⟨(Nat.le_of_ble_eq_true rfl), (Nat.le_of_ble_eq_true rfl)⟩) hP hD hS hA [0, 1] [] rfl rfl (by decide) (by decide) (fun r114 u112 H locs p113 hP hD hS => ?_)
                      try dsimp only at p113
                      have p115 := p113
                      refine W.widen (k := 0) (n := 0) (Nat.le_of_ble_eq_true rfl) (Nat.le_of_ble_eq_true rfl) ?_
                      have hP : va_P (dC, dI) vwCl [(reader, .inr (5, [.ref rtape, .int (nI rlength), .int (nI rmostBytes), .int (nI rplaceG_79), .int (nI 2), .int (nI k4), .int r109, .int rnumberG_81, .long rlettersG_82, .int rfaultKind, .int rfaultPlace])), (rtape, .inl (ky 2, 940, .inl rtapeF))] H := hP
                      have hD : va_D A [(reader, .inr (5, [.ref rtape, .int (nI rlength), .int (nI rmostBytes), .int (nI rplaceG_79), .int (nI 2), .int (nI k4), .int r109, .int rnumberG_81, .long rlettersG_82, .int rfaultKind, .int rfaultPlace])), (rtape, .inl (ky 2, 940, .inl rtapeF))] := hD
                      refine lv_goto (tgt := 235) hx hb dX5_advance_228 (by decide) ?_
                      refine va_put (D := (dC, dI)) (ci := 5) (v := .int r114) (ty := .int) (C := RX5) (T := TX5) (N := 11) hx hb hts hin5 tyX5 tyX5_ok nmX5 hown hK hP hD hS 0 rfl rfl 6 (by decide) (hts (.fieldLink RX5 43 "PorridgeSea$Reader" "word" "I") (List.mem_of_getElem? (i := 5) rfl)) (fun _ h9 => h9) rfl (by decide +kernel) rfl rfl (Nat.le_of_ble_eq_true rfl) dX5_advance_235 (fun H locs hP hD hS => ?_)
                      have hP : va_P (dC, dI) vwCl [(reader, .inr (5, [.ref rtape, .int (nI rlength), .int (nI rmostBytes), .int (nI rplaceG_79), .int (nI 2), .int (nI k4), .int r114, .int rnumberG_81, .long rlettersG_82, .int rfaultKind, .int rfaultPlace])), (rtape, .inl (ky 2, 940, .inl rtapeF))] H := hP
                      have hD : va_D A [(reader, .inr (5, [.ref rtape, .int (nI rlength), .int (nI rmostBytes), .int (nI rplaceG_79), .int (nI 2), .int (nI k4), .int r114, .int rnumberG_81, .long rlettersG_82, .int rfaultKind, .int rfaultPlace])), (rtape, .inl (ky 2, 940, .inl rtapeF))] := hD
                      rw [hQ]
                      exact W.vret hx hb hr (fun t9 ht9 hW9 => ⟨⟨(rplaceG_79, nI 2, k4, r114, rnumberG_81, rlettersG_82), rfl, ⟨p83, j5, (lf_f_adv_30 bt rlength rmostBytes rplace rtapeF gq k4 n8 y15 y67 rplaceG_79 rnumberG_81 rlettersG_82 r99 r109 r114 iv_rreader_0 iv_rreader_1 iv_rreader_2 hTC hgq j5 j6 jSk hm10 jQ c13 c14 e16 t17 t18 t23 e68 t69 t70 t73 t74 p83 p84 p85 v87 v88 v89 v90 p100 c101 p110 c111 p115)⟩, by rw [ht9]; exact hP, va_K.moved hW9.alike hK, hD⟩, hS.F ht9⟩) hS.2.2 dX5_advance_238
                · refine lv_goto (tgt := 163) hx hb dX5_advance_156 (by decide) ?_
                  refine lv_aload_n hx hb dX5_advance_163 rfl (lv_at hl 0 rfl) ?_
                  refine va_get (D := (dC, dI)) (ci := 5) (v := .int (nI 3)) (C := RX5) (T := TX5) (N := 11) hx hb hts hin5 hown hK hP 0 rfl rfl 4 (by decide) (hts (.fieldLink RX5 46 "PorridgeSea$Reader" "kind" "I") (List.mem_of_getElem? (i := 7) rfl)) (fun _ h9 => h9) rfl dX5_advance_164 ?_
                  refine lv_iconst (v := nI 2) hx hb dX5_advance_167 (by decide) ?_
                  refine lv_icmp_ne (tgt := 238) hx hb dX5_advance_168 (by decide) (fun c116 => ?_) (fun c116 => absurd c116 (by decide))
                  rw [hQ]
                  exact W.vret hx hb hr (fun t9 ht9 hW9 => ⟨⟨(rplaceG_79, nI 3, k4, (-1 : Int32), rnumberG_81, rlettersG_82), rfl, ⟨p83, j5, (lf_f_adv_31 bt rlength rmostBytes rplace rtapeF gq k4 n8 y15 y67 rplaceG_79 rnumberG_81 rlettersG_82 iv_rreader_0 iv_rreader_1 iv_rreader_2 hTC hgq j5 j6 jSk hm10 jQ c13 c14 e16 t17 t18 t23 e68 t69 t70 t73 t74 p83 p84 p85 v91 v92 v93)⟩, by rw [ht9]; exact hP, va_K.moved hW9.alike hK, hD⟩, hS.F ht9⟩) hS.2.2 dX5_advance_238
                · refine lv_goto (tgt := 163) hx hb dX5_advance_156 (by decide) ?_
                  refine lv_aload_n hx hb dX5_advance_163 rfl (lv_at hl 0 rfl) ?_
                  refine va_get (D := (dC, dI)) (ci := 5) (v := .int (nI 1)) (C := RX5) (T := TX5) (N := 11) hx hb hts hin5 hown hK hP 0 rfl rfl 4 (by decide) (hts (.fieldLink RX5 46 "PorridgeSea$Reader" "kind" "I") (List.mem_of_getElem? (i := 7) rfl)) (fun _ h9 => h9) rfl dX5_advance_164 ?_
                  refine lv_iconst (v := nI 2) hx hb dX5_advance_167 (by decide) ?_
                  refine lv_icmp_ne (tgt := 238) hx hb dX5_advance_168 (by decide) (fun c117 => ?_) (fun c117 => absurd c117 (by decide))
                  rw [hQ]
                  exact W.vret hx hb hr (fun t9 ht9 hW9 => ⟨⟨(rplaceG_79, nI 1, k4, (-1 : Int32), rnumberG_81, rlettersG_82), rfl, ⟨p83, j5, (lf_f_adv_32 bt rlength rmostBytes rplace rtapeF gq k4 n8 y15 y67 rplaceG_79 rnumberG_81 rlettersG_82 iv_rreader_0 iv_rreader_1 iv_rreader_2 hTC hgq j5 j6 jSk hm10 jQ c13 c14 e16 t17 t18 t23 e68 t69 t70 t73 t74 p83 p84 p85 v94 v95)⟩, by rw [ht9]; exact hP, va_K.moved hW9.alike hK, hD⟩, hS.F ht9⟩) hS.2.2 dX5_advance_238
              · refine lv_if_eq (tgt := 159) hx hb dX5_advance_149 (by decide) (fun c118 => ?_) (fun c118 => absurd (by decide) c118)
                refine lv_aload_n hx hb dX5_advance_159 rfl (lv_at hl 0 rfl) ?_
                refine r_call_v (wr := []) (va_runV (As := []) (rest := []) ⟨hx, hb, hml, hown, hts⟩ (c_f_readSign l dC dI ky H.size bt reader rtape rlength rmostBytes k4 rkind k4 (-1 : Int32) rnumber rletters rfaultKind rfaultPlace rtapeF iv_rreader_0 j6 iv_rreader_2 j5 hTC c14) (cwV 0 hts gX5_advance_X5_readSign rfl rfl rfl (by decide +kernel) ⟨(Nat.le_of_ble_eq_true rfl), (Nat.le_of_ble_eq_true rfl)⟩) (pre_UV hK hP hD [0, 1] (by decide) rfl (ci := 5) (q0 := 0) rfl rfl) rfl rfl hl.1 rfl (lv_room (Nat.le_of_ble_eq_true rfl)) dX5_advance_160 ⟨(Nat.le_of_ble_eq_true rfl), (Nat.le_of_ble_eq_true rfl)⟩) hP hD hS hA [0, 1] [] rfl rfl (by decide) (by decide) (fun  u119 H locs p120 hP hD hS => ?_)
                obtain ⟨rplaceG_121, rkindG_122⟩ := u119
                try dsimp only at p120
                obtain ⟨p123, p124, p125⟩ := p120
                refine W.widen (k := 0) (n := 0) (Nat.le_of_ble_eq_true rfl) (Nat.le_of_ble_eq_true rfl) ?_
                have hP : va_P (dC, dI) vwCl [(reader, .inr (5, [.ref rtape, .int (nI rlength), .int (nI rmostBytes), .int (nI rplaceG_121), .int rkindG_122, .int (nI k4), .int (-1 : Int32), .int rnumber, .long rletters, .int rfaultKind, .int rfaultPlace])), (rtape, .inl (ky 2, 940, .inl rtapeF))] H := hP
                have hD : va_D A [(reader, .inr (5, [.ref rtape, .int (nI rlength), .int (nI rmostBytes), .int (nI rplaceG_121), .int rkindG_122, .int (nI k4), .int (-1 : Int32), .int rnumber, .long rletters, .int rfaultKind, .int rfaultPlace])), (rtape, .inl (ky 2, 940, .inl rtapeF))] := hD
                refine lv_aload_n hx hb dX5_advance_163 rfl (lv_at hl 0 rfl) ?_
                refine va_get (D := (dC, dI)) (ci := 5) (v := .int rkindG_122) (C := RX5) (T := TX5) (N := 11) hx hb hts hin5 hown hK hP 0 rfl rfl 4 (by decide) (hts (.fieldLink RX5 46 "PorridgeSea$Reader" "kind" "I") (List.mem_of_getElem? (i := 7) rfl)) (fun _ h9 => h9) rfl dX5_advance_164 ?_
                refine lv_iconst (v := nI 2) hx hb dX5_advance_167 (by decide) ?_
                refine lv_icmp_ne (tgt := 238) hx hb dX5_advance_168 (by decide) (fun c126 => ?_) (fun c126 => absurd c126 (sgk_ne p125))
                rw [hQ]
                exact W.vret hx hb hr (fun t9 ht9 hW9 => ⟨⟨(rplaceG_121, rkindG_122, k4, (-1 : Int32), rnumber, rletters), rfl, ⟨p123, j5, (lf_f_adv_33 bt rlength rmostBytes rplace rnumber rletters rtapeF gq k4 n8 y15 y67 rplaceG_121 rkindG_122 iv_rreader_0 iv_rreader_1 iv_rreader_2 hTC hgq j5 j6 jSk hm10 jQ c13 c14 e16 t17 t18 t23 e68 t69 t70 t75 p123 p124 p125)⟩, by rw [ht9]; exact hP, va_K.moved hW9.alike hK, hD⟩, hS.F ht9⟩) hS.2.2 dX5_advance_238
          · refine lv_aload_n hx hb dX5_advance_114 rfl (lv_at hl 0 rfl) ?_
            refine lv_iconst (v := nI 0) hx hb dX5_advance_115 (by decide) ?_
            refine va_put (D := (dC, dI)) (ci := 5) (v := .int (nI 0)) (ty := .int) (C := RX5) (T := TX5) (N := 11) hx hb hts hin5 tyX5 tyX5_ok nmX5 hown hK hP hD hS 0 rfl rfl 4 (by decide) (hts (.fieldLink RX5 46 "PorridgeSea$Reader" "kind" "I") (List.mem_of_getElem? (i := 7) rfl)) (fun _ h9 => h9) rfl (by decide +kernel) rfl rfl (Nat.le_of_ble_eq_true rfl) dX5_advance_116 (fun H locs hP hD hS => ?_)
            have hP : va_P (dC, dI) vwCl [(reader, .inr (5, [.ref rtape, .int (nI rlength), .int (nI rmostBytes), .int (nI k4), .int (nI 0), .int (nI k4), .int (-1 : Int32), .int rnumber, .long rletters, .int rfaultKind, .int rfaultPlace])), (rtape, .inl (ky 2, 940, .inl rtapeF))] H := hP
            have hD : va_D A [(reader, .inr (5, [.ref rtape, .int (nI rlength), .int (nI rmostBytes), .int (nI k4), .int (nI 0), .int (nI k4), .int (-1 : Int32), .int rnumber, .long rletters, .int rfaultKind, .int rfaultPlace])), (rtape, .inl (ky 2, 940, .inl rtapeF))] := hD
            refine lv_goto (tgt := 163) hx hb dX5_advance_119 (by decide) ?_
            refine lv_aload_n hx hb dX5_advance_163 rfl (lv_at hl 0 rfl) ?_
            refine va_get (D := (dC, dI)) (ci := 5) (v := .int (nI 0)) (C := RX5) (T := TX5) (N := 11) hx hb hts hin5 hown hK hP 0 rfl rfl 4 (by decide) (hts (.fieldLink RX5 46 "PorridgeSea$Reader" "kind" "I") (List.mem_of_getElem? (i := 7) rfl)) (fun _ h9 => h9) rfl dX5_advance_164 ?_
            refine lv_iconst (v := nI 2) hx hb dX5_advance_167 (by decide) ?_
            refine lv_icmp_ne (tgt := 238) hx hb dX5_advance_168 (by decide) (fun c127 => ?_) (fun c127 => absurd c127 (by decide))
            rw [hQ]
            exact W.vret hx hb hr (fun t9 ht9 hW9 => ⟨⟨(k4, nI 0, k4, (-1 : Int32), rnumber, rletters), rfl, ⟨j6, j5, (lf_f_adv_34 bt rlength rmostBytes rplace rnumber rletters rtapeF gq k4 n8 iv_rreader_0 iv_rreader_1 iv_rreader_2 hTC hgq j5 j6 jSk hm10 jQ c13 c14)⟩, by rw [ht9]; exact hP, va_K.moved hW9.alike hK, hD⟩, hS.F ht9⟩) hS.2.2 dX5_advance_238
        · refine lv_aload_n hx hb dX5_advance_76 rfl (lv_at hl 0 rfl) ?_
          refine va_get (D := (dC, dI)) (ci := 5) (v := .int (nI k4)) (C := RX5) (T := TX5) (N := 11) hx hb hts hin5 hown hK hP 0 rfl rfl 3 (by decide) (hts (.fieldLink RX5 28 "PorridgeSea$Reader" "place" "I") (List.mem_of_getElem? (i := 1) rfl)) (fun _ h9 => h9) rfl dX5_advance_77 ?_
          refine lv_aload_n hx hb dX5_advance_80 rfl (lv_at hl 0 rfl) ?_
          refine va_get (D := (dC, dI)) (ci := 5) (v := .int (nI rmostBytes)) (C := RX5) (T := TX5) (N := 11) hx hb hts hin5 hown hK hP 0 rfl rfl 2 (by decide) (hts (.fieldLink RX5 25 "PorridgeSea$Reader" "mostBytes" "I") (List.mem_of_getElem? (i := 6) rfl)) (fun _ h9 => h9) rfl dX5_advance_81 ?_
          refine n_icmp_lt (x := k4) (y := rmostBytes) (tgt := 103) hx hb (by omega) (by omega) dX5_advance_84 (by decide) (fun c128 => ?_) (fun c128 => ?_)
          · refine lv_aload_n hx hb dX5_advance_103 rfl (lv_at hl 0 rfl) ?_
            refine va_get (D := (dC, dI)) (ci := 5) (v := .int (nI k4)) (C := RX5) (T := TX5) (N := 11) hx hb hts hin5 hown hK hP 0 rfl rfl 3 (by decide) (hts (.fieldLink RX5 28 "PorridgeSea$Reader" "place" "I") (List.mem_of_getElem? (i := 1) rfl)) (fun _ h9 => h9) rfl dX5_advance_104 ?_
            refine lv_aload_n hx hb dX5_advance_107 rfl (lv_at hl 0 rfl) ?_
            refine va_get (D := (dC, dI)) (ci := 5) (v := .int (nI rlength)) (C := RX5) (T := TX5) (N := 11) hx hb hts hin5 hown hK hP 0 rfl rfl 1 (by decide) (hts (.fieldLink RX5 21 "PorridgeSea$Reader" "length" "I") (List.mem_of_getElem? (i := 2) rfl)) (fun _ h9 => h9) rfl dX5_advance_108 ?_
            refine n_icmp_lt (x := k4) (y := rlength) (tgt := 122) hx hb (by omega) (by omega) dX5_advance_111 (by decide) (fun c129 => ?_) (fun c129 => ?_)
            · refine lv_aload_n hx hb dX5_advance_122 rfl (lv_at hl 0 rfl) ?_
              refine va_get (D := (dC, dI)) (ci := 5) (v := .ref rtape) (C := RX5) (T := TX5) (N := 11) hx hb hts hin5 hown hK hP 0 rfl rfl 0 (by decide) (hts (.fieldLink RX5 9 "PorridgeSea$Reader" "tape" "[B") (List.mem_of_getElem? (i := 3) rfl)) (fun _ h9 => h9) rfl dX5_advance_123 ?_
              refine lv_aload_n hx hb dX5_advance_126 rfl (lv_at hl 0 rfl) ?_
              refine va_get (D := (dC, dI)) (ci := 5) (v := .int (nI k4)) (C := RX5) (T := TX5) (N := 11) hx hb hts hin5 hown hK hP 0 rfl rfl 3 (by decide) (hts (.fieldLink RX5 28 "PorridgeSea$Reader" "place" "I") (List.mem_of_getElem? (i := 1) rfl)) (fun _ h9 => h9) rfl dX5_advance_127 ?_
              obtain ⟨y130, e131⟩ : ∃ z9, z9 = rtapeF k4 := ⟨_, rfl⟩
              refine r_bald hx hb hK hP 1 rfl k4 (by omega) (by decide) y130 e131.symm dX5_advance_130 ?_
              obtain ⟨t132, t133⟩ : bt k4 < 256 ∧ (y130.toInt = ((bt k4 : Nat) : Int) ∨ (128 ≤ bt k4 ∧ y130.toInt = ((bt k4 : Nat) : Int) - 256)) := by rw [e131]; exact hTC k4 (by omega)
              refine vp_callSi (W.runS (As := [.int y130]) (rest := []) ⟨hx, hb, hml, hown, hts⟩ (c_f_isLetter l dC dI ky y130) (va_cwS 1 hts gX5_advance_X5_isLetter rfl rfl rfl (by decide +kernel) ⟨(Nat.le_of_ble_eq_true rfl), (Nat.le_of_ble_eq_true rfl)⟩) (pre_PS hK hP [] rfl) rfl rfl hl.1 rfl (lv_room (Nat.le_of_ble_eq_true rfl)) dX5_advance_131 ⟨(Nat.le_of_ble_eq_true rfl), (Nat.le_of_ble_eq_true rfl)⟩) (fun r134 p135 => ?_)
              rcases p135 with ⟨rfl, t136, t137⟩ | ⟨rfl, t138⟩
              · refine lv_if_ne (tgt := 152) hx hb dX5_advance_134 (by decide) (fun c139 => ?_) (fun c139 => absurd c139 (by decide))
                refine lv_aload_n hx hb dX5_advance_152 rfl (lv_at hl 0 rfl) ?_
                refine r_call_v (wr := []) (va_runV (As := []) (rest := []) ⟨hx, hb, hml, hown, hts⟩ (c_f_readRun l dC dI ky H.size bt reader rtape rlength rmostBytes k4 rkind k4 (-1 : Int32) rnumber rletters rfaultKind rfaultPlace rtapeF iv_rreader_0 j6 iv_rreader_2 j5 hTC (lf_f_adv_35 bt rlength rmostBytes rplace rtapeF gq k4 n8 y130 iv_rreader_0 iv_rreader_1 iv_rreader_2 hTC hgq j5 j6 jSk hm10 jQ c13 c128 c129 e131 t132 t133 t136 t137) c129 (lf_f_adv_36 bt rlength rmostBytes rplace rtapeF gq k4 n8 y130 iv_rreader_0 iv_rreader_1 iv_rreader_2 hTC hgq j5 j6 jSk hm10 jQ c13 c128 c129 e131 t132 t133 t136 t137)) (cwV 0 hts gX5_advance_X5_readRun rfl rfl rfl (by decide +kernel) ⟨(Nat.le_of_ble_eq_true rfl), (Nat.le_of_ble_eq_true rfl)⟩) (pre_UV hK hP hD [0, 1] (by decide) rfl (ci := 5) (q0 := 0) rfl rfl) rfl rfl hl.1 rfl (lv_room (Nat.le_of_ble_eq_true rfl)) dX5_advance_153 ⟨(Nat.le_of_ble_eq_true rfl), (Nat.le_of_ble_eq_true rfl)⟩) hP hD hS hA [0, 1] [] rfl rfl (by decide) (by decide) (fun  u140 H locs p141 hP hD hS => ?_)
                obtain ⟨rplaceG_142, rkindG_143, rnumberG_144, rlettersG_145⟩ := u140
                try dsimp only at p141
                obtain ⟨p146, p147, p148, p149⟩ := p141
                refine W.widen (k := 0) (n := 0) (Nat.le_of_ble_eq_true rfl) (Nat.le_of_ble_eq_true rfl) ?_
                have hP : va_P (dC, dI) vwCl [(reader, .inr (5, [.ref rtape, .int (nI rlength), .int (nI rmostBytes), .int (nI rplaceG_142), .int rkindG_143, .int (nI k4), .int (-1 : Int32), .int rnumberG_144, .long rlettersG_145, .int rfaultKind, .int rfaultPlace])), (rtape, .inl (ky 2, 940, .inl rtapeF))] H := hP
                have hD : va_D A [(reader, .inr (5, [.ref rtape, .int (nI rlength), .int (nI rmostBytes), .int (nI rplaceG_142), .int rkindG_143, .int (nI k4), .int (-1 : Int32), .int rnumberG_144, .long rlettersG_145, .int rfaultKind, .int rfaultPlace])), (rtape, .inl (ky 2, 940, .inl rtapeF))] := hD
                rcases p149 with ⟨rfl, v150, v151, v152, v153⟩ | ⟨rfl, v154, v155, v156⟩ | ⟨rfl, v157, v158⟩
                · refine lv_goto (tgt := 163) hx hb dX5_advance_156 (by decide) ?_
                  refine lv_aload_n hx hb dX5_advance_163 rfl (lv_at hl 0 rfl) ?_
                  refine va_get (D := (dC, dI)) (ci := 5) (v := .int (nI 2)) (C := RX5) (T := TX5) (N := 11) hx hb hts hin5 hown hK hP 0 rfl rfl 4 (by decide) (hts (.fieldLink RX5 46 "PorridgeSea$Reader" "kind" "I") (List.mem_of_getElem? (i := 7) rfl)) (fun _ h9 => h9) rfl dX5_advance_164 ?_
                  refine lv_iconst (v := nI 2) hx hb dX5_advance_167 (by decide) ?_
                  refine lv_icmp_ne (tgt := 238) hx hb dX5_advance_168 (by decide) (fun c159 => absurd c159 (by decide)) (fun c159 => ?_)
                  refine lv_aload_n hx hb dX5_advance_171 rfl (lv_at hl 0 rfl) ?_
                  refine lv_aload_n hx hb dX5_advance_172 rfl (lv_at hl 0 rfl) ?_
                  refine va_ldcS hx hb hown (hE.2.2.2.1) dX5_advance_173 ?_
                  refine lv_iconst (v := nI 0) hx hb dX5_advance_175 (by decide) ?_
                  refine r_call_i (wr := []) (va_runV (As := [.ref (adK 0), .int (nI 0)]) (rest := [.ref reader]) ⟨hx, hb, hml, hown, hts⟩ (c_f_wordIn0 l dC dI ky H.size adK adV bt reader rtape rlength rmostBytes rplaceG_142 (nI 2) k4 (-1 : Int32) rnumberG_144 rlettersG_145 rfaultKind rfaultPlace rtapeF iv_rreader_0 p146 iv_rreader_2 j5 hTC (lf_f_adv_37 bt rlength rmostBytes rplace rtapeF gq k4 n8 y130 rplaceG_142 rlettersG_145 iv_rreader_0 iv_rreader_1 iv_rreader_2 hTC hgq j5 j6 jSk hm10 jQ c13 c128 c129 e131 t132 t133 t136 t137 p146 p147 p148 v150 v151 v152 v153) (lf_f_adv_38 bt rlength rmostBytes rplace rtapeF gq k4 n8 y130 rplaceG_142 rlettersG_145 iv_rreader_0 iv_rreader_1 iv_rreader_2 hTC hgq j5 j6 jSk hm10 jQ c13 c128 c129 e131 t132 t133 t136 t137 p146 p147 p148 v150 v151 v152 v153) v153) (cwV 2 hts gX5_advance_X5_wordIn rfl rfl rfl (by decide +kernel) ⟨(Nat.le_of_ble_eq_true rfl), (Nat.le_of_ble_eq_true rfl)⟩) (pre_UEV hE hS hA hK hP hD [0, 1] (by decide) rfl (va_recv hK hP (ci := 5) (q0 := 0) rfl rfl)) rfl rfl hl.1 rfl (lv_room (Nat.le_of_ble_eq_true rfl)) dX5_advance_176 ⟨(Nat.le_of_ble_eq_true rfl), (Nat.le_of_ble_eq_true rfl)⟩) hP hD hS hA [0, 1] [] rfl rfl (by decide) (by decide) (fun r162 u160 H locs p161 hP hD hS => ?_)
                  try dsimp only at p161
                  have p163 := p161
                  refine W.widen (k := 0) (n := 0) (Nat.le_of_ble_eq_true rfl) (Nat.le_of_ble_eq_true rfl) ?_
                  have hP : va_P (dC, dI) vwCl [(reader, .inr (5, [.ref rtape, .int (nI rlength), .int (nI rmostBytes), .int (nI rplaceG_142), .int (nI 2), .int (nI k4), .int (-1 : Int32), .int rnumberG_144, .long rlettersG_145, .int rfaultKind, .int rfaultPlace])), (rtape, .inl (ky 2, 940, .inl rtapeF))] H := hP
                  have hD : va_D A [(reader, .inr (5, [.ref rtape, .int (nI rlength), .int (nI rmostBytes), .int (nI rplaceG_142), .int (nI 2), .int (nI k4), .int (-1 : Int32), .int rnumberG_144, .long rlettersG_145, .int rfaultKind, .int rfaultPlace])), (rtape, .inl (ky 2, 940, .inl rtapeF))] := hD
                  refine va_put (D := (dC, dI)) (ci := 5) (v := .int r162) (ty := .int) (C := RX5) (T := TX5) (N := 11) hx hb hts hin5 tyX5 tyX5_ok nmX5 hown hK hP hD hS 0 rfl rfl 6 (by decide) (hts (.fieldLink RX5 43 "PorridgeSea$Reader" "word" "I") (List.mem_of_getElem? (i := 5) rfl)) (fun _ h9 => h9) rfl (by decide +kernel) rfl rfl (Nat.le_of_ble_eq_true rfl) dX5_advance_179 (fun H locs hP hD hS => ?_)
                  have hP : va_P (dC, dI) vwCl [(reader, .inr (5, [.ref rtape, .int (nI rlength), .int (nI rmostBytes), .int (nI rplaceG_142), .int (nI 2), .int (nI k4), .int r162, .int rnumberG_144, .long rlettersG_145, .int rfaultKind, .int rfaultPlace])), (rtape, .inl (ky 2, 940, .inl rtapeF))] H := hP
                  have hD : va_D A [(reader, .inr (5, [.ref rtape, .int (nI rlength), .int (nI rmostBytes), .int (nI rplaceG_142), .int (nI 2), .int (nI k4), .int r162, .int rnumberG_144, .long rlettersG_145, .int rfaultKind, .int rfaultPlace])), (rtape, .inl (ky 2, 940, .inl rtapeF))] := hD
                  refine lv_aload_n hx hb dX5_advance_182 rfl (lv_at hl 0 rfl) ?_
                  refine lv_aload_n hx hb dX5_advance_183 rfl (lv_at hl 0 rfl) ?_
                  refine va_get (D := (dC, dI)) (ci := 5) (v := .int r162) (C := RX5) (T := TX5) (N := 11) hx hb hts hin5 hown hK hP 0 rfl rfl 6 (by decide) (hts (.fieldLink RX5 43 "PorridgeSea$Reader" "word" "I") (List.mem_of_getElem? (i := 5) rfl)) (fun _ h9 => h9) rfl dX5_advance_184 ?_
                  refine lv_bipush (v := nI 31) hx hb dX5_advance_187 (by decide) ?_
                  refine lv_icmp_ne (tgt := 203) hx hb dX5_advance_189 (by decide) (fun c164 => ?_) (fun c164 => ?_)
                  · refine lv_aload_n hx hb dX5_advance_203 rfl (lv_at hl 0 rfl) ?_
                    refine va_get (D := (dC, dI)) (ci := 5) (v := .int r162) (C := RX5) (T := TX5) (N := 11) hx hb hts hin5 hown hK hP 0 rfl rfl 6 (by decide) (hts (.fieldLink RX5 43 "PorridgeSea$Reader" "word" "I") (List.mem_of_getElem? (i := 5) rfl)) (fun _ h9 => h9) rfl dX5_advance_204 ?_
                    refine va_put (D := (dC, dI)) (ci := 5) (v := .int r162) (ty := .int) (C := RX5) (T := TX5) (N := 11) hx hb hts hin5 tyX5 tyX5_ok nmX5 hown hK hP hD hS 0 rfl rfl 6 (by decide) (hts (.fieldLink RX5 43 "PorridgeSea$Reader" "word" "I") (List.mem_of_getElem? (i := 5) rfl)) (fun _ h9 => h9) rfl (by decide +kernel) rfl rfl (Nat.le_of_ble_eq_true rfl) dX5_advance_207 (fun H locs hP hD hS => ?_)
                    have hP : va_P (dC, dI) vwCl [(reader, .inr (5, [.ref rtape, .int (nI rlength), .int (nI rmostBytes), .int (nI rplaceG_142), .int (nI 2), .int (nI k4), .int r162, .int rnumberG_144, .long rlettersG_145, .int rfaultKind, .int rfaultPlace])), (rtape, .inl (ky 2, 940, .inl rtapeF))] H := hP
                    have hD : va_D A [(reader, .inr (5, [.ref rtape, .int (nI rlength), .int (nI rmostBytes), .int (nI rplaceG_142), .int (nI 2), .int (nI k4), .int r162, .int rnumberG_144, .long rlettersG_145, .int rfaultKind, .int rfaultPlace])), (rtape, .inl (ky 2, 940, .inl rtapeF))] := hD
                    refine lv_aload_n hx hb dX5_advance_210 rfl (lv_at hl 0 rfl) ?_
                    refine lv_aload_n hx hb dX5_advance_211 rfl (lv_at hl 0 rfl) ?_
                    refine va_get (D := (dC, dI)) (ci := 5) (v := .int r162) (C := RX5) (T := TX5) (N := 11) hx hb hts hin5 hown hK hP 0 rfl rfl 6 (by decide) (hts (.fieldLink RX5 43 "PorridgeSea$Reader" "word" "I") (List.mem_of_getElem? (i := 5) rfl)) (fun _ h9 => h9) rfl dX5_advance_212 ?_
                    refine lv_bipush (v := nI 31) hx hb dX5_advance_215 (by decide) ?_
                    refine lv_icmp_ne (tgt := 231) hx hb dX5_advance_217 (by decide) (fun c165 => ?_) (fun c165 => ?_)
                    · refine lv_aload_n hx hb dX5_advance_231 rfl (lv_at hl 0 rfl) ?_
                      refine va_get (D := (dC, dI)) (ci := 5) (v := .int r162) (C := RX5) (T := TX5) (N := 11) hx hb hts hin5 hown hK hP 0 rfl rfl 6 (by decide) (hts (.fieldLink RX5 43 "PorridgeSea$Reader" "word" "I") (List.mem_of_getElem? (i := 5) rfl)) (fun _ h9 => h9) rfl dX5_advance_232 ?_
                      refine va_put (D := (dC, dI)) (ci := 5) (v := .int r162) (ty := .int) (C := RX5) (T := TX5) (N := 11) hx hb hts hin5 tyX5 tyX5_ok nmX5 hown hK hP hD hS 0 rfl rfl 6 (by decide) (hts (.fieldLink RX5 43 "PorridgeSea$Reader" "word" "I") (List.mem_of_getElem? (i := 5) rfl)) (fun _ h9 => h9) rfl (by decide +kernel) rfl rfl (Nat.le_of_ble_eq_true rfl) dX5_advance_235 (fun H locs hP hD hS => ?_)
                      have hP : va_P (dC, dI) vwCl [(reader, .inr (5, [.ref rtape, .int (nI rlength), .int (nI rmostBytes), .int (nI rplaceG_142), .int (nI 2), .int (nI k4), .int r162, .int rnumberG_144, .long rlettersG_145, .int rfaultKind, .int rfaultPlace])), (rtape, .inl (ky 2, 940, .inl rtapeF))] H := hP
                      have hD : va_D A [(reader, .inr (5, [.ref rtape, .int (nI rlength), .int (nI rmostBytes), .int (nI rplaceG_142), .int (nI 2), .int (nI k4), .int r162, .int rnumberG_144, .long rlettersG_145, .int rfaultKind, .int rfaultPlace])), (rtape, .inl (ky 2, 940, .inl rtapeF))] := hD
                      rw [hQ]
                      exact W.vret hx hb hr (fun t9 ht9 hW9 => ⟨⟨(rplaceG_142, nI 2, k4, r162, rnumberG_144, rlettersG_145), rfl, ⟨p146, j5, (lf_f_adv_39 bt rlength rmostBytes rplace rtapeF gq k4 n8 y130 rplaceG_142 rnumberG_144 rlettersG_145 r162 iv_rreader_0 iv_rreader_1 iv_rreader_2 hTC hgq j5 j6 jSk hm10 jQ c13 c128 c129 e131 t132 t133 t136 t137 p146 p147 p148 v150 v151 v152 v153 p163 c164 c165)⟩, by rw [ht9]; exact hP, va_K.moved hW9.alike hK, hD⟩, hS.F ht9⟩) hS.2.2 dX5_advance_238
                    · refine lv_aload_n hx hb dX5_advance_220 rfl (lv_at hl 0 rfl) ?_
                      refine va_ldcS hx hb hown (hE.2.2.2.2.2.1) dX5_advance_221 ?_
                      refine lv_bipush (v := nI 20) hx hb dX5_advance_223 (by decide) ?_
                      refine r_call_i (wr := []) (va_runV (As := [.ref (adK 2), .int (nI 20)]) (rest := [.ref reader]) ⟨hx, hb, hml, hown, hts⟩ (c_f_wordIn2 l dC dI ky H.size adK adV bt reader rtape rlength rmostBytes rplaceG_142 (nI 2) k4 r162 rnumberG_144 rlettersG_145 rfaultKind rfaultPlace rtapeF iv_rreader_0 p146 iv_rreader_2 j5 hTC (lf_f_adv_40 bt rlength rmostBytes rplace rtapeF gq k4 n8 y130 rplaceG_142 rlettersG_145 r162 iv_rreader_0 iv_rreader_1 iv_rreader_2 hTC hgq j5 j6 jSk hm10 jQ c13 c128 c129 e131 t132 t133 t136 t137 p146 p147 p148 v150 v151 v152 v153 p163 c164 c165) (lf_f_adv_41 bt rlength rmostBytes rplace rtapeF gq k4 n8 y130 rplaceG_142 rlettersG_145 r162 iv_rreader_0 iv_rreader_1 iv_rreader_2 hTC hgq j5 j6 jSk hm10 jQ c13 c128 c129 e131 t132 t133 t136 t137 p146 p147 p148 v150 v151 v152 v153 p163 c164 c165) v153) (cwV 2 hts gX5_advance_X5_wordIn rfl rfl rfl (by decide +kernel) ⟨(Nat.le_of_ble_eq_true rfl), (Nat.le_of_ble_eq_true rfl)⟩) (pre_UEV hE hS hA hK hP hD [0, 1] (by decide) rfl (va_recv hK hP (ci := 5) (q0 := 0) rfl rfl)) rfl rfl hl.1 rfl (lv_room (Nat.le_of_ble_eq_true rfl)) dX5_advance_225 ⟨(Nat.le_of_ble_eq_true rfl), (Nat.le_of_ble_eq_true rfl)⟩) hP hD hS hA [0, 1] [] rfl rfl (by decide) (by decide) (fun r168 u166 H locs p167 hP hD hS => ?_)
                      try dsimp only at p167
                      have p169 := p167
                      refine W.widen (k := 0) (n := 0) (Nat.le_of_ble_eq_true rfl) (Nat.le_of_ble_eq_true rfl) ?_
                      have hP : va_P (dC, dI) vwCl [(reader, .inr (5, [.ref rtape, .int (nI rlength), .int (nI rmostBytes), .int (nI rplaceG_142), .int (nI 2), .int (nI k4), .int r162, .int rnumberG_144, .long rlettersG_145, .int rfaultKind, .int rfaultPlace])), (rtape, .inl (ky 2, 940, .inl rtapeF))] H := hP
                      have hD : va_D A [(reader, .inr (5, [.ref rtape, .int (nI rlength), .int (nI rmostBytes), .int (nI rplaceG_142), .int (nI 2), .int (nI k4), .int r162, .int rnumberG_144, .long rlettersG_145, .int rfaultKind, .int rfaultPlace])), (rtape, .inl (ky 2, 940, .inl rtapeF))] := hD
                      refine lv_goto (tgt := 235) hx hb dX5_advance_228 (by decide) ?_
                      refine va_put (D := (dC, dI)) (ci := 5) (v := .int r168) (ty := .int) (C := RX5) (T := TX5) (N := 11) hx hb hts hin5 tyX5 tyX5_ok nmX5 hown hK hP hD hS 0 rfl rfl 6 (by decide) (hts (.fieldLink RX5 43 "PorridgeSea$Reader" "word" "I") (List.mem_of_getElem? (i := 5) rfl)) (fun _ h9 => h9) rfl (by decide +kernel) rfl rfl (Nat.le_of_ble_eq_true rfl) dX5_advance_235 (fun H locs hP hD hS => ?_)
                      have hP : va_P (dC, dI) vwCl [(reader, .inr (5, [.ref rtape, .int (nI rlength), .int (nI rmostBytes), .int (nI rplaceG_142), .int (nI 2), .int (nI k4), .int r168, .int rnumberG_144, .long rlettersG_145, .int rfaultKind, .int rfaultPlace])), (rtape, .inl (ky 2, 940, .inl rtapeF))] H := hP
                      have hD : va_D A [(reader, .inr (5, [.ref rtape, .int (nI rlength), .int (nI rmostBytes), .int (nI rplaceG_142), .int (nI 2), .int (nI k4), .int r168, .int rnumberG_144, .long rlettersG_145, .int rfaultKind, .int rfaultPlace])), (rtape, .inl (ky 2, 940, .inl rtapeF))] := hD
                      rw [hQ]
                      exact W.vret hx hb hr (fun t9 ht9 hW9 => ⟨⟨(rplaceG_142, nI 2, k4, r168, rnumberG_144, rlettersG_145), rfl, ⟨p146, j5, (lf_f_adv_42 bt rlength rmostBytes rplace rtapeF gq k4 n8 y130 rplaceG_142 rnumberG_144 rlettersG_145 r162 r168 iv_rreader_0 iv_rreader_1 iv_rreader_2 hTC hgq j5 j6 jSk hm10 jQ c13 c128 c129 e131 t132 t133 t136 t137 p146 p147 p148 v150 v151 v152 v153 p163 c164 c165 p169)⟩, by rw [ht9]; exact hP, va_K.moved hW9.alike hK, hD⟩, hS.F ht9⟩) hS.2.2 dX5_advance_238
                  · refine lv_aload_n hx hb dX5_advance_192 rfl (lv_at hl 0 rfl) ?_
                    refine va_ldcS hx hb hown (hE.2.2.2.2.1) dX5_advance_193 ?_
                    refine lv_bipush (v := nI 7) hx hb dX5_advance_195 (by decide) ?_
                    refine r_call_i (wr := []) (va_runV (As := [.ref (adK 1), .int (nI 7)]) (rest := [.ref reader]) ⟨hx, hb, hml, hown, hts⟩ (c_f_wordIn1 l dC dI ky H.size adK adV bt reader rtape rlength rmostBytes rplaceG_142 (nI 2) k4 r162 rnumberG_144 rlettersG_145 rfaultKind rfaultPlace rtapeF iv_rreader_0 p146 iv_rreader_2 j5 hTC (lf_f_adv_43 bt rlength rmostBytes rplace rtapeF gq k4 n8 y130 rplaceG_142 rlettersG_145 r162 iv_rreader_0 iv_rreader_1 iv_rreader_2 hTC hgq j5 j6 jSk hm10 jQ c13 c128 c129 e131 t132 t133 t136 t137 p146 p147 p148 v150 v151 v152 v153 p163 c164) (lf_f_adv_44 bt rlength rmostBytes rplace rtapeF gq k4 n8 y130 rplaceG_142 rlettersG_145 r162 iv_rreader_0 iv_rreader_1 iv_rreader_2 hTC hgq j5 j6 jSk hm10 jQ c13 c128 c129 e131 t132 t133 t136 t137 p146 p147 p148 v150 v151 v152 v153 p163 c164) v153) (cwV 2 hts gX5_advance_X5_wordIn rfl rfl rfl (by decide +kernel) ⟨(Nat.le_of_ble_eq_true rfl), (Nat.le_of_ble_eq_true rfl)⟩) (pre_UEV hE hS hA hK hP hD [0, 1] (by decide) rfl (va_recv hK hP (ci := 5) (q0 := 0) rfl rfl)) rfl rfl hl.1 rfl (lv_room (Nat.le_of_ble_eq_true rfl)) dX5_advance_197 ⟨(Nat.le_of_ble_eq_true rfl), (Nat.le_of_ble_eq_true rfl)⟩) hP hD hS hA [0, 1] [] rfl rfl (by decide) (by decide) (fun r172 u170 H locs p171 hP hD hS => ?_)
                    try dsimp only at p171
                    have p173 := p171
                    refine W.widen (k := 0) (n := 0) (Nat.le_of_ble_eq_true rfl) (Nat.le_of_ble_eq_true rfl) ?_
                    have hP : va_P (dC, dI) vwCl [(reader, .inr (5, [.ref rtape, .int (nI rlength), .int (nI rmostBytes), .int (nI rplaceG_142), .int (nI 2), .int (nI k4), .int r162, .int rnumberG_144, .long rlettersG_145, .int rfaultKind, .int rfaultPlace])), (rtape, .inl (ky 2, 940, .inl rtapeF))] H := hP
                    have hD : va_D A [(reader, .inr (5, [.ref rtape, .int (nI rlength), .int (nI rmostBytes), .int (nI rplaceG_142), .int (nI 2), .int (nI k4), .int r162, .int rnumberG_144, .long rlettersG_145, .int rfaultKind, .int rfaultPlace])), (rtape, .inl (ky 2, 940, .inl rtapeF))] := hD
                    refine lv_goto (tgt := 207) hx hb dX5_advance_200 (by decide) ?_
                    refine va_put (D := (dC, dI)) (ci := 5) (v := .int r172) (ty := .int) (C := RX5) (T := TX5) (N := 11) hx hb hts hin5 tyX5 tyX5_ok nmX5 hown hK hP hD hS 0 rfl rfl 6 (by decide) (hts (.fieldLink RX5 43 "PorridgeSea$Reader" "word" "I") (List.mem_of_getElem? (i := 5) rfl)) (fun _ h9 => h9) rfl (by decide +kernel) rfl rfl (Nat.le_of_ble_eq_true rfl) dX5_advance_207 (fun H locs hP hD hS => ?_)
                    have hP : va_P (dC, dI) vwCl [(reader, .inr (5, [.ref rtape, .int (nI rlength), .int (nI rmostBytes), .int (nI rplaceG_142), .int (nI 2), .int (nI k4), .int r172, .int rnumberG_144, .long rlettersG_145, .int rfaultKind, .int rfaultPlace])), (rtape, .inl (ky 2, 940, .inl rtapeF))] H := hP
                    have hD : va_D A [(reader, .inr (5, [.ref rtape, .int (nI rlength), .int (nI rmostBytes), .int (nI rplaceG_142), .int (nI 2), .int (nI k4), .int r172, .int rnumberG_144, .long rlettersG_145, .int rfaultKind, .int rfaultPlace])), (rtape, .inl (ky 2, 940, .inl rtapeF))] := hD
                    refine lv_aload_n hx hb dX5_advance_210 rfl (lv_at hl 0 rfl) ?_
                    refine lv_aload_n hx hb dX5_advance_211 rfl (lv_at hl 0 rfl) ?_
                    refine va_get (D := (dC, dI)) (ci := 5) (v := .int r172) (C := RX5) (T := TX5) (N := 11) hx hb hts hin5 hown hK hP 0 rfl rfl 6 (by decide) (hts (.fieldLink RX5 43 "PorridgeSea$Reader" "word" "I") (List.mem_of_getElem? (i := 5) rfl)) (fun _ h9 => h9) rfl dX5_advance_212 ?_
                    refine lv_bipush (v := nI 31) hx hb dX5_advance_215 (by decide) ?_
                    refine lv_icmp_ne (tgt := 231) hx hb dX5_advance_217 (by decide) (fun c174 => ?_) (fun c174 => ?_)
                    · refine lv_aload_n hx hb dX5_advance_231 rfl (lv_at hl 0 rfl) ?_
                      refine va_get (D := (dC, dI)) (ci := 5) (v := .int r172) (C := RX5) (T := TX5) (N := 11) hx hb hts hin5 hown hK hP 0 rfl rfl 6 (by decide) (hts (.fieldLink RX5 43 "PorridgeSea$Reader" "word" "I") (List.mem_of_getElem? (i := 5) rfl)) (fun _ h9 => h9) rfl dX5_advance_232 ?_
                      refine va_put (D := (dC, dI)) (ci := 5) (v := .int r172) (ty := .int) (C := RX5) (T := TX5) (N := 11) hx hb hts hin5 tyX5 tyX5_ok nmX5 hown hK hP hD hS 0 rfl rfl 6 (by decide) (hts (.fieldLink RX5 43 "PorridgeSea$Reader" "word" "I") (List.mem_of_getElem? (i := 5) rfl)) (fun _ h9 => h9) rfl (by decide +kernel) rfl rfl (Nat.le_of_ble_eq_true rfl) dX5_advance_235 (fun H locs hP hD hS => ?_)
                      have hP : va_P (dC, dI) vwCl [(reader, .inr (5, [.ref rtape, .int (nI rlength), .int (nI rmostBytes), .int (nI rplaceG_142), .int (nI 2), .int (nI k4), .int r172, .int rnumberG_144, .long rlettersG_145, .int rfaultKind, .int rfaultPlace])), (rtape, .inl (ky 2, 940, .inl rtapeF))] H := hP
                      have hD : va_D A [(reader, .inr (5, [.ref rtape, .int (nI rlength), .int (nI rmostBytes), .int (nI rplaceG_142), .int (nI 2), .int (nI k4), .int r172, .int rnumberG_144, .long rlettersG_145, .int rfaultKind, .int rfaultPlace])), (rtape, .inl (ky 2, 940, .inl rtapeF))] := hD
                      rw [hQ]
                      exact W.vret hx hb hr (fun t9 ht9 hW9 => ⟨⟨(rplaceG_142, nI 2, k4, r172, rnumberG_144, rlettersG_145), rfl, ⟨p146, j5, (lf_f_adv_45 bt rlength rmostBytes rplace rtapeF gq k4 n8 y130 rplaceG_142 rnumberG_144 rlettersG_145 r162 r172 iv_rreader_0 iv_rreader_1 iv_rreader_2 hTC hgq j5 j6 jSk hm10 jQ c13 c128 c129 e131 t132 t133 t136 t137 p146 p147 p148 v150 v151 v152 v153 p163 c164 p173 c174)⟩, by rw [ht9]; exact hP, va_K.moved hW9.alike hK, hD⟩, hS.F ht9⟩) hS.2.2 dX5_advance_238
                    · refine lv_aload_n hx hb dX5_advance_220 rfl (lv_at hl 0 rfl) ?_
                      refine va_ldcS hx hb hown (hE.2.2.2.2.2.1) dX5_advance_221 ?_
                      refine lv_bipush (v := nI 20) hx hb dX5_advance_223 (by decide) ?_
                      refine r_call_i (wr := []) (va_runV (As := [.ref (adK 2), .int (nI 20)]) (rest := [.ref reader]) ⟨hx, hb, hml, hown, hts⟩ (c_f_wordIn2 l dC dI ky H.size adK adV bt reader rtape rlength rmostBytes rplaceG_142 (nI 2) k4 r172 rnumberG_144 rlettersG_145 rfaultKind rfaultPlace rtapeF iv_rreader_0 p146 iv_rreader_2 j5 hTC (lf_f_adv_46 bt rlength rmostBytes rplace rtapeF gq k4 n8 y130 rplaceG_142 rlettersG_145 r162 r172 iv_rreader_0 iv_rreader_1 iv_rreader_2 hTC hgq j5 j6 jSk hm10 jQ c13 c128 c129 e131 t132 t133 t136 t137 p146 p147 p148 v150 v151 v152 v153 p163 c164 p173 c174) (lf_f_adv_47 bt rlength rmostBytes rplace rtapeF gq k4 n8 y130 rplaceG_142 rlettersG_145 r162 r172 iv_rreader_0 iv_rreader_1 iv_rreader_2 hTC hgq j5 j6 jSk hm10 jQ c13 c128 c129 e131 t132 t133 t136 t137 p146 p147 p148 v150 v151 v152 v153 p163 c164 p173 c174) v153) (cwV 2 hts gX5_advance_X5_wordIn rfl rfl rfl (by decide +kernel) ⟨(Nat.le_of_ble_eq_true rfl), (Nat.le_of_ble_eq_true rfl)⟩) (pre_UEV hE hS hA hK hP hD [0, 1] (by decide) rfl (va_recv hK hP (ci := 5) (q0 := 0) rfl rfl)) rfl rfl hl.1 rfl (lv_room (Nat.le_of_ble_eq_true rfl)) dX5_advance_225 ⟨(Nat.le_of_ble_eq_true rfl), (Nat.le_of_ble_eq_true rfl)⟩) hP hD hS hA [0, 1] [] rfl rfl (by decide) (by decide) (fun r177 u175 H locs p176 hP hD hS => ?_)
                      try dsimp only at p176
                      have p178 := p176
                      refine W.widen (k := 0) (n := 0) (Nat.le_of_ble_eq_true rfl) (Nat.le_of_ble_eq_true rfl) ?_
                      have hP : va_P (dC, dI) vwCl [(reader, .inr (5, [.ref rtape, .int (nI rlength), .int (nI rmostBytes), .int (nI rplaceG_142), .int (nI 2), .int (nI k4), .int r172, .int rnumberG_144, .long rlettersG_145, .int rfaultKind, .int rfaultPlace])), (rtape, .inl (ky 2, 940, .inl rtapeF))] H := hP
                      have hD : va_D A [(reader, .inr (5, [.ref rtape, .int (nI rlength), .int (nI rmostBytes), .int (nI rplaceG_142), .int (nI 2), .int (nI k4), .int r172, .int rnumberG_144, .long rlettersG_145, .int rfaultKind, .int rfaultPlace])), (rtape, .inl (ky 2, 940, .inl rtapeF))] := hD
                      refine lv_goto (tgt := 235) hx hb dX5_advance_228 (by decide) ?_
                      refine va_put (D := (dC, dI)) (ci := 5) (v := .int r177) (ty := .int) (C := RX5) (T := TX5) (N := 11) hx hb hts hin5 tyX5 tyX5_ok nmX5 hown hK hP hD hS 0 rfl rfl 6 (by decide) (hts (.fieldLink RX5 43 "PorridgeSea$Reader" "word" "I") (List.mem_of_getElem? (i := 5) rfl)) (fun _ h9 => h9) rfl (by decide +kernel) rfl rfl (Nat.le_of_ble_eq_true rfl) dX5_advance_235 (fun H locs hP hD hS => ?_)
                      have hP : va_P (dC, dI) vwCl [(reader, .inr (5, [.ref rtape, .int (nI rlength), .int (nI rmostBytes), .int (nI rplaceG_142), .int (nI 2), .int (nI k4), .int r177, .int rnumberG_144, .long rlettersG_145, .int rfaultKind, .int rfaultPlace])), (rtape, .inl (ky 2, 940, .inl rtapeF))] H := hP
                      have hD : va_D A [(reader, .inr (5, [.ref rtape, .int (nI rlength), .int (nI rmostBytes), .int (nI rplaceG_142), .int (nI 2), .int (nI k4), .int r177, .int rnumberG_144, .long rlettersG_145, .int rfaultKind, .int rfaultPlace])), (rtape, .inl (ky 2, 940, .inl rtapeF))] := hD
                      rw [hQ]
                      exact W.vret hx hb hr (fun t9 ht9 hW9 => ⟨⟨(rplaceG_142, nI 2, k4, r177, rnumberG_144, rlettersG_145), rfl, ⟨p146, j5, (lf_f_adv_48 bt rlength rmostBytes rplace rtapeF gq k4 n8 y130 rplaceG_142 rnumberG_144 rlettersG_145 r162 r172 r177 iv_rreader_0 iv_rreader_1 iv_rreader_2 hTC hgq j5 j6 jSk hm10 jQ c13 c128 c129 e131 t132 t133 t136 t137 p146 p147 p148 v150 v151 v152 v153 p163 c164 p173 c174 p178)⟩, by rw [ht9]; exact hP, va_K.moved hW9.alike hK, hD⟩, hS.F ht9⟩) hS.2.2 dX5_advance_238
                · refine lv_goto (tgt := 163) hx hb dX5_advance_156 (by decide) ?_
                  refine lv_aload_n hx hb dX5_advance_163 rfl (lv_at hl 0 rfl) ?_
                  refine va_get (D := (dC, dI)) (ci := 5) (v := .int (nI 3)) (C := RX5) (T := TX5) (N := 11) hx hb hts hin5 hown hK hP 0 rfl rfl 4 (by decide) (hts (.fieldLink RX5 46 "PorridgeSea$Reader" "kind" "I") (List.mem_of_getElem? (i := 7) rfl)) (fun _ h9 => h9) rfl dX5_advance_164 ?_
                  refine lv_iconst (v := nI 2) hx hb dX5_advance_167 (by decide) ?_
                  refine lv_icmp_ne (tgt := 238) hx hb dX5_advance_168 (by decide) (fun c179 => ?_) (fun c179 => absurd c179 (by decide))
                  rw [hQ]
                  exact W.vret hx hb hr (fun t9 ht9 hW9 => ⟨⟨(rplaceG_142, nI 3, k4, (-1 : Int32), rnumberG_144, rlettersG_145), rfl, ⟨p146, j5, (lf_f_adv_49 bt rlength rmostBytes rplace rtapeF gq k4 n8 y130 rplaceG_142 rnumberG_144 rlettersG_145 iv_rreader_0 iv_rreader_1 iv_rreader_2 hTC hgq j5 j6 jSk hm10 jQ c13 c128 c129 e131 t132 t133 t136 t137 p146 p147 p148 v154 v155 v156)⟩, by rw [ht9]; exact hP, va_K.moved hW9.alike hK, hD⟩, hS.F ht9⟩) hS.2.2 dX5_advance_238
                · refine lv_goto (tgt := 163) hx hb dX5_advance_156 (by decide) ?_
                  refine lv_aload_n hx hb dX5_advance_163 rfl (lv_at hl 0 rfl) ?_
                  refine va_get (D := (dC, dI)) (ci := 5) (v := .int (nI 1)) (C := RX5) (T := TX5) (N := 11) hx hb hts hin5 hown hK hP 0 rfl rfl 4 (by decide) (hts (.fieldLink RX5 46 "PorridgeSea$Reader" "kind" "I") (List.mem_of_getElem? (i := 7) rfl)) (fun _ h9 => h9) rfl dX5_advance_164 ?_
                  refine lv_iconst (v := nI 2) hx hb dX5_advance_167 (by decide) ?_
                  refine lv_icmp_ne (tgt := 238) hx hb dX5_advance_168 (by decide) (fun c180 => ?_) (fun c180 => absurd c180 (by decide))
                  rw [hQ]
                  exact W.vret hx hb hr (fun t9 ht9 hW9 => ⟨⟨(rplaceG_142, nI 1, k4, (-1 : Int32), rnumberG_144, rlettersG_145), rfl, ⟨p146, j5, (lf_f_adv_50 bt rlength rmostBytes rplace rtapeF gq k4 n8 y130 rplaceG_142 rnumberG_144 rlettersG_145 iv_rreader_0 iv_rreader_1 iv_rreader_2 hTC hgq j5 j6 jSk hm10 jQ c13 c128 c129 e131 t132 t133 t136 t137 p146 p147 p148 v157 v158)⟩, by rw [ht9]; exact hP, va_K.moved hW9.alike hK, hD⟩, hS.F ht9⟩) hS.2.2 dX5_advance_238
              · refine lv_if_ne (tgt := 152) hx hb dX5_advance_134 (by decide) (fun c181 => absurd c181 (by decide)) (fun c181 => ?_)
                refine lv_aload_n hx hb dX5_advance_137 rfl (lv_at hl 0 rfl) ?_
                refine va_get (D := (dC, dI)) (ci := 5) (v := .ref rtape) (C := RX5) (T := TX5) (N := 11) hx hb hts hin5 hown hK hP 0 rfl rfl 0 (by decide) (hts (.fieldLink RX5 9 "PorridgeSea$Reader" "tape" "[B") (List.mem_of_getElem? (i := 3) rfl)) (fun _ h9 => h9) rfl dX5_advance_138 ?_
                refine lv_aload_n hx hb dX5_advance_141 rfl (lv_at hl 0 rfl) ?_
                refine va_get (D := (dC, dI)) (ci := 5) (v := .int (nI k4)) (C := RX5) (T := TX5) (N := 11) hx hb hts hin5 hown hK hP 0 rfl rfl 3 (by decide) (hts (.fieldLink RX5 28 "PorridgeSea$Reader" "place" "I") (List.mem_of_getElem? (i := 1) rfl)) (fun _ h9 => h9) rfl dX5_advance_142 ?_
                obtain ⟨y182, e183⟩ : ∃ z9, z9 = rtapeF k4 := ⟨_, rfl⟩
                refine r_bald hx hb hK hP 1 rfl k4 (by omega) (by decide) y182 e183.symm dX5_advance_145 ?_
                obtain ⟨t184, t185⟩ : bt k4 < 256 ∧ (y182.toInt = ((bt k4 : Nat) : Int) ∨ (128 ≤ bt k4 ∧ y182.toInt = ((bt k4 : Nat) : Int) - 256)) := by rw [e183]; exact hTC k4 (by omega)
                refine vp_callSi (W.runS (As := [.int y182]) (rest := []) ⟨hx, hb, hml, hown, hts⟩ (c_f_isDigit l dC dI ky y182) (va_cwS 1 hts gX5_advance_X5_isDigit rfl rfl rfl (by decide +kernel) ⟨(Nat.le_of_ble_eq_true rfl), (Nat.le_of_ble_eq_true rfl)⟩) (pre_PS hK hP [] rfl) rfl rfl hl.1 rfl (lv_room (Nat.le_of_ble_eq_true rfl)) dX5_advance_146 ⟨(Nat.le_of_ble_eq_true rfl), (Nat.le_of_ble_eq_true rfl)⟩) (fun r186 p187 => ?_)
                rcases p187 with ⟨rfl, t188, t189⟩ | ⟨rfl, t190⟩
                · refine lv_if_eq (tgt := 159) hx hb dX5_advance_149 (by decide) (fun c191 => absurd c191 (by decide)) (fun c191 => ?_)
                  refine lv_aload_n hx hb dX5_advance_152 rfl (lv_at hl 0 rfl) ?_
                  refine r_call_v (wr := []) (va_runV (As := []) (rest := []) ⟨hx, hb, hml, hown, hts⟩ (c_f_readRun l dC dI ky H.size bt reader rtape rlength rmostBytes k4 rkind k4 (-1 : Int32) rnumber rletters rfaultKind rfaultPlace rtapeF iv_rreader_0 j6 iv_rreader_2 j5 hTC (lf_f_adv_51 bt rlength rmostBytes rplace rtapeF gq k4 n8 y130 y182 iv_rreader_0 iv_rreader_1 iv_rreader_2 hTC hgq j5 j6 jSk hm10 jQ c13 c128 c129 e131 t132 t133 t138 e183 t184 t185 t188 t189) c129 (lf_f_adv_52 bt rlength rmostBytes rplace rtapeF gq k4 n8 y130 y182 iv_rreader_0 iv_rreader_1 iv_rreader_2 hTC hgq j5 j6 jSk hm10 jQ c13 c128 c129 e131 t132 t133 t138 e183 t184 t185 t188 t189)) (cwV 0 hts gX5_advance_X5_readRun rfl rfl rfl (by decide +kernel) ⟨(Nat.le_of_ble_eq_true rfl), (Nat.le_of_ble_eq_true rfl)⟩) (pre_UV hK hP hD [0, 1] (by decide) rfl (ci := 5) (q0 := 0) rfl rfl) rfl rfl hl.1 rfl (lv_room (Nat.le_of_ble_eq_true rfl)) dX5_advance_153 ⟨(Nat.le_of_ble_eq_true rfl), (Nat.le_of_ble_eq_true rfl)⟩) hP hD hS hA [0, 1] [] rfl rfl (by decide) (by decide) (fun  u192 H locs p193 hP hD hS => ?_)
                  obtain ⟨rplaceG_194, rkindG_195, rnumberG_196, rlettersG_197⟩ := u192
                  try dsimp only at p193
                  obtain ⟨p198, p199, p200, p201⟩ := p193
                  refine W.widen (k := 0) (n := 0) (Nat.le_of_ble_eq_true rfl) (Nat.le_of_ble_eq_true rfl) ?_
                  have hP : va_P (dC, dI) vwCl [(reader, .inr (5, [.ref rtape, .int (nI rlength), .int (nI rmostBytes), .int (nI rplaceG_194), .int rkindG_195, .int (nI k4), .int (-1 : Int32), .int rnumberG_196, .long rlettersG_197, .int rfaultKind, .int rfaultPlace])), (rtape, .inl (ky 2, 940, .inl rtapeF))] H := hP
                  have hD : va_D A [(reader, .inr (5, [.ref rtape, .int (nI rlength), .int (nI rmostBytes), .int (nI rplaceG_194), .int rkindG_195, .int (nI k4), .int (-1 : Int32), .int rnumberG_196, .long rlettersG_197, .int rfaultKind, .int rfaultPlace])), (rtape, .inl (ky 2, 940, .inl rtapeF))] := hD
                  rcases p201 with ⟨rfl, v202, v203, v204, v205⟩ | ⟨rfl, v206, v207, v208⟩ | ⟨rfl, v209, v210⟩
                  · refine lv_goto (tgt := 163) hx hb dX5_advance_156 (by decide) ?_
                    refine lv_aload_n hx hb dX5_advance_163 rfl (lv_at hl 0 rfl) ?_
                    refine va_get (D := (dC, dI)) (ci := 5) (v := .int (nI 2)) (C := RX5) (T := TX5) (N := 11) hx hb hts hin5 hown hK hP 0 rfl rfl 4 (by decide) (hts (.fieldLink RX5 46 "PorridgeSea$Reader" "kind" "I") (List.mem_of_getElem? (i := 7) rfl)) (fun _ h9 => h9) rfl dX5_advance_164 ?_
                    refine lv_iconst (v := nI 2) hx hb dX5_advance_167 (by decide) ?_
                    refine lv_icmp_ne (tgt := 238) hx hb dX5_advance_168 (by decide) (fun c211 => absurd c211 (by decide)) (fun c211 => ?_)
                    refine lv_aload_n hx hb dX5_advance_171 rfl (lv_at hl 0 rfl) ?_
                    refine lv_aload_n hx hb dX5_advance_172 rfl (lv_at hl 0 rfl) ?_
                    refine va_ldcS hx hb hown (hE.2.2.2.1) dX5_advance_173 ?_
                    refine lv_iconst (v := nI 0) hx hb dX5_advance_175 (by decide) ?_
                    refine r_call_i (wr := []) (va_runV (As := [.ref (adK 0), .int (nI 0)]) (rest := [.ref reader]) ⟨hx, hb, hml, hown, hts⟩ (c_f_wordIn0 l dC dI ky H.size adK adV bt reader rtape rlength rmostBytes rplaceG_194 (nI 2) k4 (-1 : Int32) rnumberG_196 rlettersG_197 rfaultKind rfaultPlace rtapeF iv_rreader_0 p198 iv_rreader_2 j5 hTC (lf_f_adv_53 bt rlength rmostBytes rplace rtapeF gq k4 n8 y130 y182 rplaceG_194 rlettersG_197 iv_rreader_0 iv_rreader_1 iv_rreader_2 hTC hgq j5 j6 jSk hm10 jQ c13 c128 c129 e131 t132 t133 t138 e183 t184 t185 t188 t189 p198 p199 p200 v202 v203 v204 v205) (lf_f_adv_54 bt rlength rmostBytes rplace rtapeF gq k4 n8 y130 y182 rplaceG_194 rlettersG_197 iv_rreader_0 iv_rreader_1 iv_rreader_2 hTC hgq j5 j6 jSk hm10 jQ c13 c128 c129 e131 t132 t133 t138 e183 t184 t185 t188 t189 p198 p199 p200 v202 v203 v204 v205) v205) (cwV 2 hts gX5_advance_X5_wordIn rfl rfl rfl (by decide +kernel) ⟨(Nat.le_of_ble_eq_true rfl), (Nat.le_of_ble_eq_true rfl)⟩) (pre_UEV hE hS hA hK hP hD [0, 1] (by decide) rfl (va_recv hK hP (ci := 5) (q0 := 0) rfl rfl)) rfl rfl hl.1 rfl (lv_room (Nat.le_of_ble_eq_true rfl)) dX5_advance_176 ⟨(Nat.le_of_ble_eq_true rfl), (Nat.le_of_ble_eq_true rfl)⟩) hP hD hS hA [0, 1] [] rfl rfl (by decide) (by decide) (fun r214 u212 H locs p213 hP hD hS => ?_)
                    try dsimp only at p213
                    have p215 := p213
                    refine W.widen (k := 0) (n := 0) (Nat.le_of_ble_eq_true rfl) (Nat.le_of_ble_eq_true rfl) ?_
                    have hP : va_P (dC, dI) vwCl [(reader, .inr (5, [.ref rtape, .int (nI rlength), .int (nI rmostBytes), .int (nI rplaceG_194), .int (nI 2), .int (nI k4), .int (-1 : Int32), .int rnumberG_196, .long rlettersG_197, .int rfaultKind, .int rfaultPlace])), (rtape, .inl (ky 2, 940, .inl rtapeF))] H := hP
                    have hD : va_D A [(reader, .inr (5, [.ref rtape, .int (nI rlength), .int (nI rmostBytes), .int (nI rplaceG_194), .int (nI 2), .int (nI k4), .int (-1 : Int32), .int rnumberG_196, .long rlettersG_197, .int rfaultKind, .int rfaultPlace])), (rtape, .inl (ky 2, 940, .inl rtapeF))] := hD
                    refine va_put (D := (dC, dI)) (ci := 5) (v := .int r214) (ty := .int) (C := RX5) (T := TX5) (N := 11) hx hb hts hin5 tyX5 tyX5_ok nmX5 hown hK hP hD hS 0 rfl rfl 6 (by decide) (hts (.fieldLink RX5 43 "PorridgeSea$Reader" "word" "I") (List.mem_of_getElem? (i := 5) rfl)) (fun _ h9 => h9) rfl (by decide +kernel) rfl rfl (Nat.le_of_ble_eq_true rfl) dX5_advance_179 (fun H locs hP hD hS => ?_)
                    have hP : va_P (dC, dI) vwCl [(reader, .inr (5, [.ref rtape, .int (nI rlength), .int (nI rmostBytes), .int (nI rplaceG_194), .int (nI 2), .int (nI k4), .int r214, .int rnumberG_196, .long rlettersG_197, .int rfaultKind, .int rfaultPlace])), (rtape, .inl (ky 2, 940, .inl rtapeF))] H := hP
                    have hD : va_D A [(reader, .inr (5, [.ref rtape, .int (nI rlength), .int (nI rmostBytes), .int (nI rplaceG_194), .int (nI 2), .int (nI k4), .int r214, .int rnumberG_196, .long rlettersG_197, .int rfaultKind, .int rfaultPlace])), (rtape, .inl (ky 2, 940, .inl rtapeF))] := hD
                    refine lv_aload_n hx hb dX5_advance_182 rfl (lv_at hl 0 rfl) ?_
                    refine lv_aload_n hx hb dX5_advance_183 rfl (lv_at hl 0 rfl) ?_
                    refine va_get (D := (dC, dI)) (ci := 5) (v := .int r214) (C := RX5) (T := TX5) (N := 11) hx hb hts hin5 hown hK hP 0 rfl rfl 6 (by decide) (hts (.fieldLink RX5 43 "PorridgeSea$Reader" "word" "I") (List.mem_of_getElem? (i := 5) rfl)) (fun _ h9 => h9) rfl dX5_advance_184 ?_
                    refine lv_bipush (v := nI 31) hx hb dX5_advance_187 (by decide) ?_
                    refine lv_icmp_ne (tgt := 203) hx hb dX5_advance_189 (by decide) (fun c216 => ?_) (fun c216 => ?_)
                    · refine lv_aload_n hx hb dX5_advance_203 rfl (lv_at hl 0 rfl) ?_
                      refine va_get (D := (dC, dI)) (ci := 5) (v := .int r214) (C := RX5) (T := TX5) (N := 11) hx hb hts hin5 hown hK hP 0 rfl rfl 6 (by decide) (hts (.fieldLink RX5 43 "PorridgeSea$Reader" "word" "I") (List.mem_of_getElem? (i := 5) rfl)) (fun _ h9 => h9) rfl dX5_advance_204 ?_
                      refine va_put (D := (dC, dI)) (ci := 5) (v := .int r214) (ty := .int) (C := RX5) (T := TX5) (N := 11) hx hb hts hin5 tyX5 tyX5_ok nmX5 hown hK hP hD hS 0 rfl rfl 6 (by decide) (hts (.fieldLink RX5 43 "PorridgeSea$Reader" "word" "I") (List.mem_of_getElem? (i := 5) rfl)) (fun _ h9 => h9) rfl (by decide +kernel) rfl rfl (Nat.le_of_ble_eq_true rfl) dX5_advance_207 (fun H locs hP hD hS => ?_)
                      have hP : va_P (dC, dI) vwCl [(reader, .inr (5, [.ref rtape, .int (nI rlength), .int (nI rmostBytes), .int (nI rplaceG_194), .int (nI 2), .int (nI k4), .int r214, .int rnumberG_196, .long rlettersG_197, .int rfaultKind, .int rfaultPlace])), (rtape, .inl (ky 2, 940, .inl rtapeF))] H := hP
                      have hD : va_D A [(reader, .inr (5, [.ref rtape, .int (nI rlength), .int (nI rmostBytes), .int (nI rplaceG_194), .int (nI 2), .int (nI k4), .int r214, .int rnumberG_196, .long rlettersG_197, .int rfaultKind, .int rfaultPlace])), (rtape, .inl (ky 2, 940, .inl rtapeF))] := hD
                      refine lv_aload_n hx hb dX5_advance_210 rfl (lv_at hl 0 rfl) ?_
                      refine lv_aload_n hx hb dX5_advance_211 rfl (lv_at hl 0 rfl) ?_
                      refine va_get (D := (dC, dI)) (ci := 5) (v := .int r214) (C := RX5) (T := TX5) (N := 11) hx hb hts hin5 hown hK hP 0 rfl rfl 6 (by decide) (hts (.fieldLink RX5 43 "PorridgeSea$Reader" "word" "I") (List.mem_of_getElem? (i := 5) rfl)) (fun _ h9 => h9) rfl dX5_advance_212 ?_
                      refine lv_bipush (v := nI 31) hx hb dX5_advance_215 (by decide) ?_
                      refine lv_icmp_ne (tgt := 231) hx hb dX5_advance_217 (by decide) (fun c217 => ?_) (fun c217 => ?_)
                      · refine lv_aload_n hx hb dX5_advance_231 rfl (lv_at hl 0 rfl) ?_
                        refine va_get (D := (dC, dI)) (ci := 5) (v := .int r214) (C := RX5) (T := TX5) (N := 11) hx hb hts hin5 hown hK hP 0 rfl rfl 6 (by decide) (hts (.fieldLink RX5 43 "PorridgeSea$Reader" "word" "I") (List.mem_of_getElem? (i := 5) rfl)) (fun _ h9 => h9) rfl dX5_advance_232 ?_
                        refine va_put (D := (dC, dI)) (ci := 5) (v := .int r214) (ty := .int) (C := RX5) (T := TX5) (N := 11) hx hb hts hin5 tyX5 tyX5_ok nmX5 hown hK hP hD hS 0 rfl rfl 6 (by decide) (hts (.fieldLink RX5 43 "PorridgeSea$Reader" "word" "I") (List.mem_of_getElem? (i := 5) rfl)) (fun _ h9 => h9) rfl (by decide +kernel) rfl rfl (Nat.le_of_ble_eq_true rfl) dX5_advance_235 (fun H locs hP hD hS => ?_)
                        have hP : va_P (dC, dI) vwCl [(reader, .inr (5, [.ref rtape, .int (nI rlength), .int (nI rmostBytes), .int (nI rplaceG_194), .int (nI 2), .int (nI k4), .int r214, .int rnumberG_196, .long rlettersG_197, .int rfaultKind, .int rfaultPlace])), (rtape, .inl (ky 2, 940, .inl rtapeF))] H := hP
                        have hD : va_D A [(reader, .inr (5, [.ref rtape, .int (nI rlength), .int (nI rmostBytes), .int (nI rplaceG_194), .int (nI 2), .int (nI k4), .int r214, .int rnumberG_196, .long rlettersG_197, .int rfaultKind, .int rfaultPlace])), (rtape, .inl (ky 2, 940, .inl rtapeF))] := hD
                        rw [hQ]
                        exact W.vret hx hb hr (fun t9 ht9 hW9 => ⟨⟨(rplaceG_194, nI 2, k4, r214, rnumberG_196, rlettersG_197), rfl, ⟨p198, j5, (lf_f_adv_55 bt rlength rmostBytes rplace rtapeF gq k4 n8 y130 y182 rplaceG_194 rnumberG_196 rlettersG_197 r214 iv_rreader_0 iv_rreader_1 iv_rreader_2 hTC hgq j5 j6 jSk hm10 jQ c13 c128 c129 e131 t132 t133 t138 e183 t184 t185 t188 t189 p198 p199 p200 v202 v203 v204 v205 p215 c216 c217)⟩, by rw [ht9]; exact hP, va_K.moved hW9.alike hK, hD⟩, hS.F ht9⟩) hS.2.2 dX5_advance_238
                      · refine lv_aload_n hx hb dX5_advance_220 rfl (lv_at hl 0 rfl) ?_
                        refine va_ldcS hx hb hown (hE.2.2.2.2.2.1) dX5_advance_221 ?_
                        refine lv_bipush (v := nI 20) hx hb dX5_advance_223 (by decide) ?_
                        refine r_call_i (wr := []) (va_runV (As := [.ref (adK 2), .int (nI 20)]) (rest := [.ref reader]) ⟨hx, hb, hml, hown, hts⟩ (c_f_wordIn2 l dC dI ky H.size adK adV bt reader rtape rlength rmostBytes rplaceG_194 (nI 2) k4 r214 rnumberG_196 rlettersG_197 rfaultKind rfaultPlace rtapeF iv_rreader_0 p198 iv_rreader_2 j5 hTC (lf_f_adv_56 bt rlength rmostBytes rplace rtapeF gq k4 n8 y130 y182 rplaceG_194 rlettersG_197 r214 iv_rreader_0 iv_rreader_1 iv_rreader_2 hTC hgq j5 j6 jSk hm10 jQ c13 c128 c129 e131 t132 t133 t138 e183 t184 t185 t188 t189 p198 p199 p200 v202 v203 v204 v205 p215 c216 c217) (lf_f_adv_57 bt rlength rmostBytes rplace rtapeF gq k4 n8 y130 y182 rplaceG_194 rlettersG_197 r214 iv_rreader_0 iv_rreader_1 iv_rreader_2 hTC hgq j5 j6 jSk hm10 jQ c13 c128 c129 e131 t132 t133 t138 e183 t184 t185 t188 t189 p198 p199 p200 v202 v203 v204 v205 p215 c216 c217) v205) (cwV 2 hts gX5_advance_X5_wordIn rfl rfl rfl (by decide +kernel) ⟨(Nat.le_of_ble_eq_true rfl), (Nat.le_of_ble_eq_true rfl)⟩) (pre_UEV hE hS hA hK hP hD [0, 1] (by decide) rfl (va_recv hK hP (ci := 5) (q0 := 0) rfl rfl)) rfl rfl hl.1 rfl (lv_room (Nat.le_of_ble_eq_true rfl)) dX5_advance_225 ⟨(Nat.le_of_ble_eq_true rfl), (Nat.le_of_ble_eq_true rfl)⟩) hP hD hS hA [0, 1] [] rfl rfl (by decide) (by decide) (fun r220 u218 H locs p219 hP hD hS => ?_)
                        try dsimp only at p219
                        have p221 := p219
                        refine W.widen (k := 0) (n := 0) (Nat.le_of_ble_eq_true rfl) (Nat.le_of_ble_eq_true rfl) ?_
                        have hP : va_P (dC, dI) vwCl [(reader, .inr (5, [.ref rtape, .int (nI rlength), .int (nI rmostBytes), .int (nI rplaceG_194), .int (nI 2), .int (nI k4), .int r214, .int rnumberG_196, .long rlettersG_197, .int rfaultKind, .int rfaultPlace])), (rtape, .inl (ky 2, 940, .inl rtapeF))] H := hP
                        have hD : va_D A [(reader, .inr (5, [.ref rtape, .int (nI rlength), .int (nI rmostBytes), .int (nI rplaceG_194), .int (nI 2), .int (nI k4), .int r214, .int rnumberG_196, .long rlettersG_197, .int rfaultKind, .int rfaultPlace])), (rtape, .inl (ky 2, 940, .inl rtapeF))] := hD
                        refine lv_goto (tgt := 235) hx hb dX5_advance_228 (by decide) ?_
                        refine va_put (D := (dC, dI)) (ci := 5) (v := .int r220) (ty := .int) (C := RX5) (T := TX5) (N := 11) hx hb hts hin5 tyX5 tyX5_ok nmX5 hown hK hP hD hS 0 rfl rfl 6 (by decide) (hts (.fieldLink RX5 43 "PorridgeSea$Reader" "word" "I") (List.mem_of_getElem? (i := 5) rfl)) (fun _ h9 => h9) rfl (by decide +kernel) rfl rfl (Nat.le_of_ble_eq_true rfl) dX5_advance_235 (fun H locs hP hD hS => ?_)
                        have hP : va_P (dC, dI) vwCl [(reader, .inr (5, [.ref rtape, .int (nI rlength), .int (nI rmostBytes), .int (nI rplaceG_194), .int (nI 2), .int (nI k4), .int r220, .int rnumberG_196, .long rlettersG_197, .int rfaultKind, .int rfaultPlace])), (rtape, .inl (ky 2, 940, .inl rtapeF))] H := hP
                        have hD : va_D A [(reader, .inr (5, [.ref rtape, .int (nI rlength), .int (nI rmostBytes), .int (nI rplaceG_194), .int (nI 2), .int (nI k4), .int r220, .int rnumberG_196, .long rlettersG_197, .int rfaultKind, .int rfaultPlace])), (rtape, .inl (ky 2, 940, .inl rtapeF))] := hD
                        rw [hQ]
                        exact W.vret hx hb hr (fun t9 ht9 hW9 => ⟨⟨(rplaceG_194, nI 2, k4, r220, rnumberG_196, rlettersG_197), rfl, ⟨p198, j5, (lf_f_adv_58 bt rlength rmostBytes rplace rtapeF gq k4 n8 y130 y182 rplaceG_194 rnumberG_196 rlettersG_197 r214 r220 iv_rreader_0 iv_rreader_1 iv_rreader_2 hTC hgq j5 j6 jSk hm10 jQ c13 c128 c129 e131 t132 t133 t138 e183 t184 t185 t188 t189 p198 p199 p200 v202 v203 v204 v205 p215 c216 c217 p221)⟩, by rw [ht9]; exact hP, va_K.moved hW9.alike hK, hD⟩, hS.F ht9⟩) hS.2.2 dX5_advance_238
                    · refine lv_aload_n hx hb dX5_advance_192 rfl (lv_at hl 0 rfl) ?_
                      refine va_ldcS hx hb hown (hE.2.2.2.2.1) dX5_advance_193 ?_
                      refine lv_bipush (v := nI 7) hx hb dX5_advance_195 (by decide) ?_
                      refine r_call_i (wr := []) (va_runV (As := [.ref (adK 1), .int (nI 7)]) (rest := [.ref reader]) ⟨hx, hb, hml, hown, hts⟩ (c_f_wordIn1 l dC dI ky H.size adK adV bt reader rtape rlength rmostBytes rplaceG_194 (nI 2) k4 r214 rnumberG_196 rlettersG_197 rfaultKind rfaultPlace rtapeF iv_rreader_0 p198 iv_rreader_2 j5 hTC (lf_f_adv_59 bt rlength rmostBytes rplace rtapeF gq k4 n8 y130 y182 rplaceG_194 rlettersG_197 r214 iv_rreader_0 iv_rreader_1 iv_rreader_2 hTC hgq j5 j6 jSk hm10 jQ c13 c128 c129 e131 t132 t133 t138 e183 t184 t185 t188 t189 p198 p199 p200 v202 v203 v204 v205 p215 c216) (lf_f_adv_60 bt rlength rmostBytes rplace rtapeF gq k4 n8 y130 y182 rplaceG_194 rlettersG_197 r214 iv_rreader_0 iv_rreader_1 iv_rreader_2 hTC hgq j5 j6 jSk hm10 jQ c13 c128 c129 e131 t132 t133 t138 e183 t184 t185 t188 t189 p198 p199 p200 v202 v203 v204 v205 p215 c216) v205) (cwV 2 hts gX5_advance_X5_wordIn rfl rfl rfl (by decide +kernel) ⟨(Nat.le_of_ble_eq_true rfl), (Nat.le_of_ble_eq_true rfl)⟩) (pre_UEV hE hS hA hK hP hD [0, 1] (by decide) rfl (va_recv hK hP (ci := 5) (q0 := 0) rfl rfl)) rfl rfl hl.1 rfl (lv_room (Nat.le_of_ble_eq_true rfl)) dX5_advance_197 ⟨(Nat.le_of_ble_eq_true rfl), (Nat.le_of_ble_eq_true rfl)⟩) hP hD hS hA [0, 1] [] rfl rfl (by decide) (by decide) (fun r224 u222 H locs p223 hP hD hS => ?_)
                      try dsimp only at p223
                      have p225 := p223
                      refine W.widen (k := 0) (n := 0) (Nat.le_of_ble_eq_true rfl) (Nat.le_of_ble_eq_true rfl) ?_
                      have hP : va_P (dC, dI) vwCl [(reader, .inr (5, [.ref rtape, .int (nI rlength), .int (nI rmostBytes), .int (nI rplaceG_194), .int (nI 2), .int (nI k4), .int r214, .int rnumberG_196, .long rlettersG_197, .int rfaultKind, .int rfaultPlace])), (rtape, .inl (ky 2, 940, .inl rtapeF))] H := hP
                      have hD : va_D A [(reader, .inr (5, [.ref rtape, .int (nI rlength), .int (nI rmostBytes), .int (nI rplaceG_194), .int (nI 2), .int (nI k4), .int r214, .int rnumberG_196, .long rlettersG_197, .int rfaultKind, .int rfaultPlace])), (rtape, .inl (ky 2, 940, .inl rtapeF))] := hD
                      refine lv_goto (tgt := 207) hx hb dX5_advance_200 (by decide) ?_
                      refine va_put (D := (dC, dI)) (ci := 5) (v := .int r224) (ty := .int) (C := RX5) (T := TX5) (N := 11) hx hb hts hin5 tyX5 tyX5_ok nmX5 hown hK hP hD hS 0 rfl rfl 6 (by decide) (hts (.fieldLink RX5 43 "PorridgeSea$Reader" "word" "I") (List.mem_of_getElem? (i := 5) rfl)) (fun _ h9 => h9) rfl (by decide +kernel) rfl rfl (Nat.le_of_ble_eq_true rfl) dX5_advance_207 (fun H locs hP hD hS => ?_)
                      have hP : va_P (dC, dI) vwCl [(reader, .inr (5, [.ref rtape, .int (nI rlength), .int (nI rmostBytes), .int (nI rplaceG_194), .int (nI 2), .int (nI k4), .int r224, .int rnumberG_196, .long rlettersG_197, .int rfaultKind, .int rfaultPlace])), (rtape, .inl (ky 2, 940, .inl rtapeF))] H := hP
                      have hD : va_D A [(reader, .inr (5, [.ref rtape, .int (nI rlength), .int (nI rmostBytes), .int (nI rplaceG_194), .int (nI 2), .int (nI k4), .int r224, .int rnumberG_196, .long rlettersG_197, .int rfaultKind, .int rfaultPlace])), (rtape, .inl (ky 2, 940, .inl rtapeF))] := hD
                      refine lv_aload_n hx hb dX5_advance_210 rfl (lv_at hl 0 rfl) ?_
                      refine lv_aload_n hx hb dX5_advance_211 rfl (lv_at hl 0 rfl) ?_
                      refine va_get (D := (dC, dI)) (ci := 5) (v := .int r224) (C := RX5) (T := TX5) (N := 11) hx hb hts hin5 hown hK hP 0 rfl rfl 6 (by decide) (hts (.fieldLink RX5 43 "PorridgeSea$Reader" "word" "I") (List.mem_of_getElem? (i := 5) rfl)) (fun _ h9 => h9) rfl dX5_advance_212 ?_
                      refine lv_bipush (v := nI 31) hx hb dX5_advance_215 (by decide) ?_
                      refine lv_icmp_ne (tgt := 231) hx hb dX5_advance_217 (by decide) (fun c226 => ?_) (fun c226 => ?_)
                      · refine lv_aload_n hx hb dX5_advance_231 rfl (lv_at hl 0 rfl) ?_
                        refine va_get (D := (dC, dI)) (ci := 5) (v := .int r224) (C := RX5) (T := TX5) (N := 11) hx hb hts hin5 hown hK hP 0 rfl rfl 6 (by decide) (hts (.fieldLink RX5 43 "PorridgeSea$Reader" "word" "I") (List.mem_of_getElem? (i := 5) rfl)) (fun _ h9 => h9) rfl dX5_advance_232 ?_
                        refine va_put (D := (dC, dI)) (ci := 5) (v := .int r224) (ty := .int) (C := RX5) (T := TX5) (N := 11) hx hb hts hin5 tyX5 tyX5_ok nmX5 hown hK hP hD hS 0 rfl rfl 6 (by decide) (hts (.fieldLink RX5 43 "PorridgeSea$Reader" "word" "I") (List.mem_of_getElem? (i := 5) rfl)) (fun _ h9 => h9) rfl (by decide +kernel) rfl rfl (Nat.le_of_ble_eq_true rfl) dX5_advance_235 (fun H locs hP hD hS => ?_)
                        have hP : va_P (dC, dI) vwCl [(reader, .inr (5, [.ref rtape, .int (nI rlength), .int (nI rmostBytes), .int (nI rplaceG_194), .int (nI 2), .int (nI k4), .int r224, .int rnumberG_196, .long rlettersG_197, .int rfaultKind, .int rfaultPlace])), (rtape, .inl (ky 2, 940, .inl rtapeF))] H := hP
                        have hD : va_D A [(reader, .inr (5, [.ref rtape, .int (nI rlength), .int (nI rmostBytes), .int (nI rplaceG_194), .int (nI 2), .int (nI k4), .int r224, .int rnumberG_196, .long rlettersG_197, .int rfaultKind, .int rfaultPlace])), (rtape, .inl (ky 2, 940, .inl rtapeF))] := hD
                        rw [hQ]
                        exact W.vret hx hb hr (fun t9 ht9 hW9 => ⟨⟨(rplaceG_194, nI 2, k4, r224, rnumberG_196, rlettersG_197), rfl, ⟨p198, j5, (lf_f_adv_61 bt rlength rmostBytes rplace rtapeF gq k4 n8 y130 y182 rplaceG_194 rnumberG_196 rlettersG_197 r214 r224 iv_rreader_0 iv_rreader_1 iv_rreader_2 hTC hgq j5 j6 jSk hm10 jQ c13 c128 c129 e131 t132 t133 t138 e183 t184 t185 t188 t189 p198 p199 p200 v202 v203 v204 v205 p215 c216 p225 c226)⟩, by rw [ht9]; exact hP, va_K.moved hW9.alike hK, hD⟩, hS.F ht9⟩) hS.2.2 dX5_advance_238
                      · refine lv_aload_n hx hb dX5_advance_220 rfl (lv_at hl 0 rfl) ?_
                        refine va_ldcS hx hb hown (hE.2.2.2.2.2.1) dX5_advance_221 ?_
                        refine lv_bipush (v := nI 20) hx hb dX5_advance_223 (by decide) ?_
                        refine r_call_i (wr := []) (va_runV (As := [.ref (adK 2), .int (nI 20)]) (rest := [.ref reader]) ⟨hx, hb, hml, hown, hts⟩ (c_f_wordIn2 l dC dI ky H.size adK adV bt reader rtape rlength rmostBytes rplaceG_194 (nI 2) k4 r224 rnumberG_196 rlettersG_197 rfaultKind rfaultPlace rtapeF iv_rreader_0 p198 iv_rreader_2 j5 hTC (lf_f_adv_62 bt rlength rmostBytes rplace rtapeF gq k4 n8 y130 y182 rplaceG_194 rlettersG_197 r214 r224 iv_rreader_0 iv_rreader_1 iv_rreader_2 hTC hgq j5 j6 jSk hm10 jQ c13 c128 c129 e131 t132 t133 t138 e183 t184 t185 t188 t189 p198 p199 p200 v202 v203 v204 v205 p215 c216 p225 c226) (lf_f_adv_63 bt rlength rmostBytes rplace rtapeF gq k4 n8 y130 y182 rplaceG_194 rlettersG_197 r214 r224 iv_rreader_0 iv_rreader_1 iv_rreader_2 hTC hgq j5 j6 jSk hm10 jQ c13 c128 c129 e131 t132 t133 t138 e183 t184 t185 t188 t189 p198 p199 p200 v202 v203 v204 v205 p215 c216 p225 c226) v205) (cwV 2 hts gX5_advance_X5_wordIn rfl rfl rfl (by decide +kernel) ⟨(Nat.le_of_ble_eq_true rfl), (Nat.le_of_ble_eq_true rfl)⟩) (pre_UEV hE hS hA hK hP hD [0, 1] (by decide) rfl (va_recv hK hP (ci := 5) (q0 := 0) rfl rfl)) rfl rfl hl.1 rfl (lv_room (Nat.le_of_ble_eq_true rfl)) dX5_advance_225 ⟨(Nat.le_of_ble_eq_true rfl), (Nat.le_of_ble_eq_true rfl)⟩) hP hD hS hA [0, 1] [] rfl rfl (by decide) (by decide) (fun r229 u227 H locs p228 hP hD hS => ?_)
                        try dsimp only at p228
                        have p230 := p228
                        refine W.widen (k := 0) (n := 0) (Nat.le_of_ble_eq_true rfl) (Nat.le_of_ble_eq_true rfl) ?_
                        have hP : va_P (dC, dI) vwCl [(reader, .inr (5, [.ref rtape, .int (nI rlength), .int (nI rmostBytes), .int (nI rplaceG_194), .int (nI 2), .int (nI k4), .int r224, .int rnumberG_196, .long rlettersG_197, .int rfaultKind, .int rfaultPlace])), (rtape, .inl (ky 2, 940, .inl rtapeF))] H := hP
                        have hD : va_D A [(reader, .inr (5, [.ref rtape, .int (nI rlength), .int (nI rmostBytes), .int (nI rplaceG_194), .int (nI 2), .int (nI k4), .int r224, .int rnumberG_196, .long rlettersG_197, .int rfaultKind, .int rfaultPlace])), (rtape, .inl (ky 2, 940, .inl rtapeF))] := hD
                        refine lv_goto (tgt := 235) hx hb dX5_advance_228 (by decide) ?_
                        refine va_put (D := (dC, dI)) (ci := 5) (v := .int r229) (ty := .int) (C := RX5) (T := TX5) (N := 11) hx hb hts hin5 tyX5 tyX5_ok nmX5 hown hK hP hD hS 0 rfl rfl 6 (by decide) (hts (.fieldLink RX5 43 "PorridgeSea$Reader" "word" "I") (List.mem_of_getElem? (i := 5) rfl)) (fun _ h9 => h9) rfl (by decide +kernel) rfl rfl (Nat.le_of_ble_eq_true rfl) dX5_advance_235 (fun H locs hP hD hS => ?_)
                        have hP : va_P (dC, dI) vwCl [(reader, .inr (5, [.ref rtape, .int (nI rlength), .int (nI rmostBytes), .int (nI rplaceG_194), .int (nI 2), .int (nI k4), .int r229, .int rnumberG_196, .long rlettersG_197, .int rfaultKind, .int rfaultPlace])), (rtape, .inl (ky 2, 940, .inl rtapeF))] H := hP
                        have hD : va_D A [(reader, .inr (5, [.ref rtape, .int (nI rlength), .int (nI rmostBytes), .int (nI rplaceG_194), .int (nI 2), .int (nI k4), .int r229, .int rnumberG_196, .long rlettersG_197, .int rfaultKind, .int rfaultPlace])), (rtape, .inl (ky 2, 940, .inl rtapeF))] := hD
                        rw [hQ]
                        exact W.vret hx hb hr (fun t9 ht9 hW9 => ⟨⟨(rplaceG_194, nI 2, k4, r229, rnumberG_196, rlettersG_197), rfl, ⟨p198, j5, (lf_f_adv_64 bt rlength rmostBytes rplace rtapeF gq k4 n8 y130 y182 rplaceG_194 rnumberG_196 rlettersG_197 r214 r224 r229 iv_rreader_0 iv_rreader_1 iv_rreader_2 hTC hgq j5 j6 jSk hm10 jQ c13 c128 c129 e131 t132 t133 t138 e183 t184 t185 t188 t189 p198 p199 p200 v202 v203 v204 v205 p215 c216 p225 c226 p230)⟩, by rw [ht9]; exact hP, va_K.moved hW9.alike hK, hD⟩, hS.F ht9⟩) hS.2.2 dX5_advance_238
                  · refine lv_goto (tgt := 163) hx hb dX5_advance_156 (by decide) ?_
                    refine lv_aload_n hx hb dX5_advance_163 rfl (lv_at hl 0 rfl) ?_
                    refine va_get (D := (dC, dI)) (ci := 5) (v := .int (nI 3)) (C := RX5) (T := TX5) (N := 11) hx hb hts hin5 hown hK hP 0 rfl rfl 4 (by decide) (hts (.fieldLink RX5 46 "PorridgeSea$Reader" "kind" "I") (List.mem_of_getElem? (i := 7) rfl)) (fun _ h9 => h9) rfl dX5_advance_164 ?_
                    refine lv_iconst (v := nI 2) hx hb dX5_advance_167 (by decide) ?_
                    refine lv_icmp_ne (tgt := 238) hx hb dX5_advance_168 (by decide) (fun c231 => ?_) (fun c231 => absurd c231 (by decide))
                    rw [hQ]
                    exact W.vret hx hb hr (fun t9 ht9 hW9 => ⟨⟨(rplaceG_194, nI 3, k4, (-1 : Int32), rnumberG_196, rlettersG_197), rfl, ⟨p198, j5, (lf_f_adv_65 bt rlength rmostBytes rplace rtapeF gq k4 n8 y130 y182 rplaceG_194 rnumberG_196 rlettersG_197 iv_rreader_0 iv_rreader_1 iv_rreader_2 hTC hgq j5 j6 jSk hm10 jQ c13 c128 c129 e131 t132 t133 t138 e183 t184 t185 t188 t189 p198 p199 p200 v206 v207 v208)⟩, by rw [ht9]; exact hP, va_K.moved hW9.alike hK, hD⟩, hS.F ht9⟩) hS.2.2 dX5_advance_238
                  · refine lv_goto (tgt := 163) hx hb dX5_advance_156 (by decide) ?_
                    refine lv_aload_n hx hb dX5_advance_163 rfl (lv_at hl 0 rfl) ?_
                    refine va_get (D := (dC, dI)) (ci := 5) (v := .int (nI 1)) (C := RX5) (T := TX5) (N := 11) hx hb hts hin5 hown hK hP 0 rfl rfl 4 (by decide) (hts (.fieldLink RX5 46 "PorridgeSea$Reader" "kind" "I") (List.mem_of_getElem? (i := 7) rfl)) (fun _ h9 => h9) rfl dX5_advance_164 ?_
                    refine lv_iconst (v := nI 2) hx hb dX5_advance_167 (by decide) ?_
                    refine lv_icmp_ne (tgt := 238) hx hb dX5_advance_168 (by decide) (fun c232 => ?_) (fun c232 => absurd c232 (by decide))
                    rw [hQ]
                    exact W.vret hx hb hr (fun t9 ht9 hW9 => ⟨⟨(rplaceG_194, nI 1, k4, (-1 : Int32), rnumberG_196, rlettersG_197), rfl, ⟨p198, j5, (lf_f_adv_66 bt rlength rmostBytes rplace rtapeF gq k4 n8 y130 y182 rplaceG_194 rnumberG_196 rlettersG_197 iv_rreader_0 iv_rreader_1 iv_rreader_2 hTC hgq j5 j6 jSk hm10 jQ c13 c128 c129 e131 t132 t133 t138 e183 t184 t185 t188 t189 p198 p199 p200 v209 v210)⟩, by rw [ht9]; exact hP, va_K.moved hW9.alike hK, hD⟩, hS.F ht9⟩) hS.2.2 dX5_advance_238
                · refine lv_if_eq (tgt := 159) hx hb dX5_advance_149 (by decide) (fun c233 => ?_) (fun c233 => absurd (by decide) c233)
                  refine lv_aload_n hx hb dX5_advance_159 rfl (lv_at hl 0 rfl) ?_
                  refine r_call_v (wr := []) (va_runV (As := []) (rest := []) ⟨hx, hb, hml, hown, hts⟩ (c_f_readSign l dC dI ky H.size bt reader rtape rlength rmostBytes k4 rkind k4 (-1 : Int32) rnumber rletters rfaultKind rfaultPlace rtapeF iv_rreader_0 j6 iv_rreader_2 j5 hTC c129) (cwV 0 hts gX5_advance_X5_readSign rfl rfl rfl (by decide +kernel) ⟨(Nat.le_of_ble_eq_true rfl), (Nat.le_of_ble_eq_true rfl)⟩) (pre_UV hK hP hD [0, 1] (by decide) rfl (ci := 5) (q0 := 0) rfl rfl) rfl rfl hl.1 rfl (lv_room (Nat.le_of_ble_eq_true rfl)) dX5_advance_160 ⟨(Nat.le_of_ble_eq_true rfl), (Nat.le_of_ble_eq_true rfl)⟩) hP hD hS hA [0, 1] [] rfl rfl (by decide) (by decide) (fun  u234 H locs p235 hP hD hS => ?_)
                  obtain ⟨rplaceG_236, rkindG_237⟩ := u234
                  try dsimp only at p235
                  obtain ⟨p238, p239, p240⟩ := p235
                  refine W.widen (k := 0) (n := 0) (Nat.le_of_ble_eq_true rfl) (Nat.le_of_ble_eq_true rfl) ?_
                  have hP : va_P (dC, dI) vwCl [(reader, .inr (5, [.ref rtape, .int (nI rlength), .int (nI rmostBytes), .int (nI rplaceG_236), .int rkindG_237, .int (nI k4), .int (-1 : Int32), .int rnumber, .long rletters, .int rfaultKind, .int rfaultPlace])), (rtape, .inl (ky 2, 940, .inl rtapeF))] H := hP
                  have hD : va_D A [(reader, .inr (5, [.ref rtape, .int (nI rlength), .int (nI rmostBytes), .int (nI rplaceG_236), .int rkindG_237, .int (nI k4), .int (-1 : Int32), .int rnumber, .long rletters, .int rfaultKind, .int rfaultPlace])), (rtape, .inl (ky 2, 940, .inl rtapeF))] := hD
                  refine lv_aload_n hx hb dX5_advance_163 rfl (lv_at hl 0 rfl) ?_
                  refine va_get (D := (dC, dI)) (ci := 5) (v := .int rkindG_237) (C := RX5) (T := TX5) (N := 11) hx hb hts hin5 hown hK hP 0 rfl rfl 4 (by decide) (hts (.fieldLink RX5 46 "PorridgeSea$Reader" "kind" "I") (List.mem_of_getElem? (i := 7) rfl)) (fun _ h9 => h9) rfl dX5_advance_164 ?_
                  refine lv_iconst (v := nI 2) hx hb dX5_advance_167 (by decide) ?_
                  refine lv_icmp_ne (tgt := 238) hx hb dX5_advance_168 (by decide) (fun c241 => ?_) (fun c241 => absurd c241 (sgk_ne p240))
                  rw [hQ]
                  exact W.vret hx hb hr (fun t9 ht9 hW9 => ⟨⟨(rplaceG_236, rkindG_237, k4, (-1 : Int32), rnumber, rletters), rfl, ⟨p238, j5, (lf_f_adv_67 bt rlength rmostBytes rplace rnumber rletters rtapeF gq k4 n8 y130 y182 rplaceG_236 rkindG_237 iv_rreader_0 iv_rreader_1 iv_rreader_2 hTC hgq j5 j6 jSk hm10 jQ c13 c128 c129 e131 t132 t133 t138 e183 t184 t185 t190 p238 p239 p240)⟩, by rw [ht9]; exact hP, va_K.moved hW9.alike hK, hD⟩, hS.F ht9⟩) hS.2.2 dX5_advance_238
            · refine lv_aload_n hx hb dX5_advance_114 rfl (lv_at hl 0 rfl) ?_
              refine lv_iconst (v := nI 0) hx hb dX5_advance_115 (by decide) ?_
              refine va_put (D := (dC, dI)) (ci := 5) (v := .int (nI 0)) (ty := .int) (C := RX5) (T := TX5) (N := 11) hx hb hts hin5 tyX5 tyX5_ok nmX5 hown hK hP hD hS 0 rfl rfl 4 (by decide) (hts (.fieldLink RX5 46 "PorridgeSea$Reader" "kind" "I") (List.mem_of_getElem? (i := 7) rfl)) (fun _ h9 => h9) rfl (by decide +kernel) rfl rfl (Nat.le_of_ble_eq_true rfl) dX5_advance_116 (fun H locs hP hD hS => ?_)
              have hP : va_P (dC, dI) vwCl [(reader, .inr (5, [.ref rtape, .int (nI rlength), .int (nI rmostBytes), .int (nI k4), .int (nI 0), .int (nI k4), .int (-1 : Int32), .int rnumber, .long rletters, .int rfaultKind, .int rfaultPlace])), (rtape, .inl (ky 2, 940, .inl rtapeF))] H := hP
              have hD : va_D A [(reader, .inr (5, [.ref rtape, .int (nI rlength), .int (nI rmostBytes), .int (nI k4), .int (nI 0), .int (nI k4), .int (-1 : Int32), .int rnumber, .long rletters, .int rfaultKind, .int rfaultPlace])), (rtape, .inl (ky 2, 940, .inl rtapeF))] := hD
              refine lv_goto (tgt := 163) hx hb dX5_advance_119 (by decide) ?_
              refine lv_aload_n hx hb dX5_advance_163 rfl (lv_at hl 0 rfl) ?_
              refine va_get (D := (dC, dI)) (ci := 5) (v := .int (nI 0)) (C := RX5) (T := TX5) (N := 11) hx hb hts hin5 hown hK hP 0 rfl rfl 4 (by decide) (hts (.fieldLink RX5 46 "PorridgeSea$Reader" "kind" "I") (List.mem_of_getElem? (i := 7) rfl)) (fun _ h9 => h9) rfl dX5_advance_164 ?_
              refine lv_iconst (v := nI 2) hx hb dX5_advance_167 (by decide) ?_
              refine lv_icmp_ne (tgt := 238) hx hb dX5_advance_168 (by decide) (fun c242 => ?_) (fun c242 => absurd c242 (by decide))
              rw [hQ]
              exact W.vret hx hb hr (fun t9 ht9 hW9 => ⟨⟨(k4, nI 0, k4, (-1 : Int32), rnumber, rletters), rfl, ⟨j6, j5, (lf_f_adv_68 bt rlength rmostBytes rplace rnumber rletters rtapeF gq k4 n8 iv_rreader_0 iv_rreader_1 iv_rreader_2 hTC hgq j5 j6 jSk hm10 jQ c13 c128 c129)⟩, by rw [ht9]; exact hP, va_K.moved hW9.alike hK, hD⟩, hS.F ht9⟩) hS.2.2 dX5_advance_238
          · refine lv_aload_n hx hb dX5_advance_87 rfl (lv_at hl 0 rfl) ?_
            refine lv_iconst (v := nI 1) hx hb dX5_advance_88 (by decide) ?_
            refine va_put (D := (dC, dI)) (ci := 5) (v := .int (nI 1)) (ty := .int) (C := RX5) (T := TX5) (N := 11) hx hb hts hin5 tyX5 tyX5_ok nmX5 hown hK hP hD hS 0 rfl rfl 4 (by decide) (hts (.fieldLink RX5 46 "PorridgeSea$Reader" "kind" "I") (List.mem_of_getElem? (i := 7) rfl)) (fun _ h9 => h9) rfl (by decide +kernel) rfl rfl (Nat.le_of_ble_eq_true rfl) dX5_advance_89 (fun H locs hP hD hS => ?_)
            have hP : va_P (dC, dI) vwCl [(reader, .inr (5, [.ref rtape, .int (nI rlength), .int (nI rmostBytes), .int (nI k4), .int (nI 1), .int (nI k4), .int (-1 : Int32), .int rnumber, .long rletters, .int rfaultKind, .int rfaultPlace])), (rtape, .inl (ky 2, 940, .inl rtapeF))] H := hP
            have hD : va_D A [(reader, .inr (5, [.ref rtape, .int (nI rlength), .int (nI rmostBytes), .int (nI k4), .int (nI 1), .int (nI k4), .int (-1 : Int32), .int rnumber, .long rletters, .int rfaultKind, .int rfaultPlace])), (rtape, .inl (ky 2, 940, .inl rtapeF))] := hD
            refine lv_aload_n hx hb dX5_advance_92 rfl (lv_at hl 0 rfl) ?_
            refine lv_aload_n hx hb dX5_advance_93 rfl (lv_at hl 0 rfl) ?_
            refine va_get (D := (dC, dI)) (ci := 5) (v := .int (nI rmostBytes)) (C := RX5) (T := TX5) (N := 11) hx hb hts hin5 hown hK hP 0 rfl rfl 2 (by decide) (hts (.fieldLink RX5 25 "PorridgeSea$Reader" "mostBytes" "I") (List.mem_of_getElem? (i := 6) rfl)) (fun _ h9 => h9) rfl dX5_advance_94 ?_
            refine va_put (D := (dC, dI)) (ci := 5) (v := .int (nI rmostBytes)) (ty := .int) (C := RX5) (T := TX5) (N := 11) hx hb hts hin5 tyX5 tyX5_ok nmX5 hown hK hP hD hS 0 rfl rfl 5 (by decide) (hts (.fieldLink RX5 40 "PorridgeSea$Reader" "begin" "I") (List.mem_of_getElem? (i := 4) rfl)) (fun _ h9 => h9) rfl (by decide +kernel) rfl rfl (Nat.le_of_ble_eq_true rfl) dX5_advance_97 (fun H locs hP hD hS => ?_)
            have hP : va_P (dC, dI) vwCl [(reader, .inr (5, [.ref rtape, .int (nI rlength), .int (nI rmostBytes), .int (nI k4), .int (nI 1), .int (nI rmostBytes), .int (-1 : Int32), .int rnumber, .long rletters, .int rfaultKind, .int rfaultPlace])), (rtape, .inl (ky 2, 940, .inl rtapeF))] H := hP
            have hD : va_D A [(reader, .inr (5, [.ref rtape, .int (nI rlength), .int (nI rmostBytes), .int (nI k4), .int (nI 1), .int (nI rmostBytes), .int (-1 : Int32), .int rnumber, .long rletters, .int rfaultKind, .int rfaultPlace])), (rtape, .inl (ky 2, 940, .inl rtapeF))] := hD
            refine lv_goto (tgt := 163) hx hb dX5_advance_100 (by decide) ?_
            refine lv_aload_n hx hb dX5_advance_163 rfl (lv_at hl 0 rfl) ?_
            refine va_get (D := (dC, dI)) (ci := 5) (v := .int (nI 1)) (C := RX5) (T := TX5) (N := 11) hx hb hts hin5 hown hK hP 0 rfl rfl 4 (by decide) (hts (.fieldLink RX5 46 "PorridgeSea$Reader" "kind" "I") (List.mem_of_getElem? (i := 7) rfl)) (fun _ h9 => h9) rfl dX5_advance_164 ?_
            refine lv_iconst (v := nI 2) hx hb dX5_advance_167 (by decide) ?_
            refine lv_icmp_ne (tgt := 238) hx hb dX5_advance_168 (by decide) (fun c243 => ?_) (fun c243 => absurd c243 (by decide))
            rw [hQ]
            exact W.vret hx hb hr (fun t9 ht9 hW9 => ⟨⟨(k4, nI 1, rmostBytes, (-1 : Int32), rnumber, rletters), rfl, ⟨j6, (lf_f_adv_69 bt rlength rmostBytes rplace rtapeF gq k4 n8 iv_rreader_0 iv_rreader_1 iv_rreader_2 hTC hgq j5 j6 jSk hm10 jQ c13 c128), (lf_f_adv_70 bt rlength rmostBytes rplace rnumber rletters rtapeF gq k4 n8 iv_rreader_0 iv_rreader_1 iv_rreader_2 hTC hgq j5 j6 jSk hm10 jQ c13 c128)⟩, by rw [ht9]; exact hP, va_K.moved hW9.alike hK, hD⟩, hS.F ht9⟩) hS.2.2 dX5_advance_238
      refine n_icmp_ge (x := k4) (y := rlength) (tgt := 52) hx hb (by omega) (by omega) dX5_advance_8 (by decide) (fun c11 => ?_) (fun c11 => ?_)
      · exact hJ12  (lf_f_adv_71 bt rlength rplace rtapeF gq k4 n8 iv_rreader_0 iv_rreader_1 hTC hgq j5 j6 jSk hm10 c11) _ _ _ hP hD hS (lv_sub hl [0] rfl)
      · refine lv_aload_n hx hb dX5_advance_11 rfl (lv_at hl 0 rfl) ?_
        refine va_get (D := (dC, dI)) (ci := 5) (v := .ref rtape) (C := RX5) (T := TX5) (N := 11) hx hb hts hin5 hown hK hP 0 rfl rfl 0 (by decide) (hts (.fieldLink RX5 9 "PorridgeSea$Reader" "tape" "[B") (List.mem_of_getElem? (i := 3) rfl)) (fun _ h9 => h9) rfl dX5_advance_12 ?_
        refine lv_aload_n hx hb dX5_advance_15 rfl (lv_at hl 0 rfl) ?_
        refine va_get (D := (dC, dI)) (ci := 5) (v := .int (nI k4)) (C := RX5) (T := TX5) (N := 11) hx hb hts hin5 hown hK hP 0 rfl rfl 3 (by decide) (hts (.fieldLink RX5 28 "PorridgeSea$Reader" "place" "I") (List.mem_of_getElem? (i := 1) rfl)) (fun _ h9 => h9) rfl dX5_advance_16 ?_
        obtain ⟨y244, e245⟩ : ∃ z9, z9 = rtapeF k4 := ⟨_, rfl⟩
        refine r_bald hx hb hK hP 1 rfl k4 (by omega) (by decide) y244 e245.symm dX5_advance_19 ?_
        obtain ⟨t246, t247⟩ : bt k4 < 256 ∧ (y244.toInt = ((bt k4 : Nat) : Int) ∨ (128 ≤ bt k4 ∧ y244.toInt = ((bt k4 : Nat) : Int) - 256)) := by rw [e245]; exact hTC k4 (by omega)
        refine lv_bipush (v := nI 32) hx hb dX5_advance_20 (by decide) ?_
        refine lv_icmp_eq (tgt := 39) hx hb dX5_advance_22 (by decide) (fun c248 => ?_) (fun c248 => ?_)
        · refine lv_aload_n hx hb dX5_advance_39 rfl (lv_at hl 0 rfl) ?_
          refine lv_dup hx hb dX5_advance_40 rfl ?_
          refine va_get (D := (dC, dI)) (ci := 5) (v := .int (nI k4)) (C := RX5) (T := TX5) (N := 11) hx hb hts hin5 hown hK hP 0 rfl rfl 3 (by decide) (hts (.fieldLink RX5 28 "PorridgeSea$Reader" "place" "I") (List.mem_of_getElem? (i := 1) rfl)) (fun _ h9 => h9) rfl dX5_advance_41 ?_
          refine lv_iconst (v := nI 1) hx hb dX5_advance_44 (by decide) ?_
          refine lv_iadd hx hb dX5_advance_45 ?_
          refine r_ti (nI (k4 + 1)) (nI_add _ _) ?_
          refine va_put (D := (dC, dI)) (ci := 5) (v := .int (nI (k4 + 1))) (ty := .int) (C := RX5) (T := TX5) (N := 11) hx hb hts hin5 tyX5 tyX5_ok nmX5 hown hK hP hD hS 0 rfl rfl 3 (by decide) (hts (.fieldLink RX5 28 "PorridgeSea$Reader" "place" "I") (List.mem_of_getElem? (i := 1) rfl)) (fun _ h9 => h9) rfl (by decide +kernel) rfl rfl (Nat.le_of_ble_eq_true rfl) dX5_advance_46 (fun H locs hP hD hS => ?_)
          have hP : va_P (dC, dI) vwCl [(reader, .inr (5, [.ref rtape, .int (nI rlength), .int (nI rmostBytes), .int (nI (k4 + 1)), .int rkind, .int (nI rbegin), .int rword, .int rnumber, .long rletters, .int rfaultKind, .int rfaultPlace])), (rtape, .inl (ky 2, 940, .inl rtapeF))] H := hP
          have hD : va_D A [(reader, .inr (5, [.ref rtape, .int (nI rlength), .int (nI rmostBytes), .int (nI (k4 + 1)), .int rkind, .int (nI rbegin), .int rword, .int rnumber, .long rletters, .int rfaultKind, .int rfaultPlace])), (rtape, .inl (ky 2, 940, .inl rtapeF))] := hD
          refine lv_goto (tgt := 0) hx hb dX5_advance_49 (by decide) ?_
          exact ih9 (k4 + 1) (lf_f_adv_72 bt rlength rplace rtapeF gq k4 n8 y244 iv_rreader_0 iv_rreader_1 hTC hgq j5 j6 jSk hm10 c11 e245 t246 t247 c248) (lf_f_adv_73 bt rlength rplace rtapeF gq k4 n8 y244 iv_rreader_0 iv_rreader_1 hTC hgq j5 j6 jSk hm10 c11 e245 t246 t247 c248) (lf_f_adv_74 bt rlength rplace rtapeF gq k4 n8 y244 iv_rreader_0 iv_rreader_1 hTC hgq j5 j6 jSk hm10 c11 e245 t246 t247 c248) (lf_f_adv_75 bt rlength rplace rtapeF gq k4 n8 y244 iv_rreader_0 iv_rreader_1 hTC hgq j5 j6 jSk hm10 c11 e245 t246 t247 c248) _ _ _ hP hD hS (lv_sub hl [0] rfl)
        · refine lv_aload_n hx hb dX5_advance_25 rfl (lv_at hl 0 rfl) ?_
          refine va_get (D := (dC, dI)) (ci := 5) (v := .ref rtape) (C := RX5) (T := TX5) (N := 11) hx hb hts hin5 hown hK hP 0 rfl rfl 0 (by decide) (hts (.fieldLink RX5 9 "PorridgeSea$Reader" "tape" "[B") (List.mem_of_getElem? (i := 3) rfl)) (fun _ h9 => h9) rfl dX5_advance_26 ?_
          refine lv_aload_n hx hb dX5_advance_29 rfl (lv_at hl 0 rfl) ?_
          refine va_get (D := (dC, dI)) (ci := 5) (v := .int (nI k4)) (C := RX5) (T := TX5) (N := 11) hx hb hts hin5 hown hK hP 0 rfl rfl 3 (by decide) (hts (.fieldLink RX5 28 "PorridgeSea$Reader" "place" "I") (List.mem_of_getElem? (i := 1) rfl)) (fun _ h9 => h9) rfl dX5_advance_30 ?_
          obtain ⟨y249, e250⟩ : ∃ z9, z9 = rtapeF k4 := ⟨_, rfl⟩
          refine r_bald hx hb hK hP 1 rfl k4 (by omega) (by decide) y249 e250.symm dX5_advance_33 ?_
          obtain ⟨t251, t252⟩ : bt k4 < 256 ∧ (y249.toInt = ((bt k4 : Nat) : Int) ∨ (128 ≤ bt k4 ∧ y249.toInt = ((bt k4 : Nat) : Int) - 256)) := by rw [e250]; exact hTC k4 (by omega)
          refine lv_bipush (v := nI 10) hx hb dX5_advance_34 (by decide) ?_
          refine lv_icmp_ne (tgt := 52) hx hb dX5_advance_36 (by decide) (fun c253 => ?_) (fun c253 => ?_)
          · exact hJ12  (lf_f_adv_76 bt rlength rplace rtapeF gq k4 n8 y244 y249 iv_rreader_0 iv_rreader_1 hTC hgq j5 j6 jSk hm10 c11 e245 t246 t247 c248 e250 t251 t252 c253) _ _ _ hP hD hS (lv_sub hl [0] rfl)
          · refine lv_aload_n hx hb dX5_advance_39 rfl (lv_at hl 0 rfl) ?_
            refine lv_dup hx hb dX5_advance_40 rfl ?_
            refine va_get (D := (dC, dI)) (ci := 5) (v := .int (nI k4)) (C := RX5) (T := TX5) (N := 11) hx hb hts hin5 hown hK hP 0 rfl rfl 3 (by decide) (hts (.fieldLink RX5 28 "PorridgeSea$Reader" "place" "I") (List.mem_of_getElem? (i := 1) rfl)) (fun _ h9 => h9) rfl dX5_advance_41 ?_
            refine lv_iconst (v := nI 1) hx hb dX5_advance_44 (by decide) ?_
            refine lv_iadd hx hb dX5_advance_45 ?_
            refine r_ti (nI (k4 + 1)) (nI_add _ _) ?_
            refine va_put (D := (dC, dI)) (ci := 5) (v := .int (nI (k4 + 1))) (ty := .int) (C := RX5) (T := TX5) (N := 11) hx hb hts hin5 tyX5 tyX5_ok nmX5 hown hK hP hD hS 0 rfl rfl 3 (by decide) (hts (.fieldLink RX5 28 "PorridgeSea$Reader" "place" "I") (List.mem_of_getElem? (i := 1) rfl)) (fun _ h9 => h9) rfl (by decide +kernel) rfl rfl (Nat.le_of_ble_eq_true rfl) dX5_advance_46 (fun H locs hP hD hS => ?_)
            have hP : va_P (dC, dI) vwCl [(reader, .inr (5, [.ref rtape, .int (nI rlength), .int (nI rmostBytes), .int (nI (k4 + 1)), .int rkind, .int (nI rbegin), .int rword, .int rnumber, .long rletters, .int rfaultKind, .int rfaultPlace])), (rtape, .inl (ky 2, 940, .inl rtapeF))] H := hP
            have hD : va_D A [(reader, .inr (5, [.ref rtape, .int (nI rlength), .int (nI rmostBytes), .int (nI (k4 + 1)), .int rkind, .int (nI rbegin), .int rword, .int rnumber, .long rletters, .int rfaultKind, .int rfaultPlace])), (rtape, .inl (ky 2, 940, .inl rtapeF))] := hD
            refine lv_goto (tgt := 0) hx hb dX5_advance_49 (by decide) ?_
            exact ih9 (k4 + 1) (lf_f_adv_77 bt rlength rplace rtapeF gq k4 n8 y244 y249 iv_rreader_0 iv_rreader_1 hTC hgq j5 j6 jSk hm10 c11 e245 t246 t247 c248 e250 t251 t252 c253) (lf_f_adv_78 bt rlength rplace rtapeF gq k4 n8 y244 y249 iv_rreader_0 iv_rreader_1 hTC hgq j5 j6 jSk hm10 c11 e245 t246 t247 c248 e250 t251 t252 c253) (lf_f_adv_79 bt rlength rplace rtapeF gq k4 n8 y244 y249 iv_rreader_0 iv_rreader_1 hTC hgq j5 j6 jSk hm10 c11 e245 t246 t247 c248 e250 t251 t252 c253) (lf_f_adv_80 bt rlength rplace rtapeF gq k4 n8 y244 y249 iv_rreader_0 iv_rreader_1 hTC hgq j5 j6 jSk hm10 c11 e245 t246 t247 c248 e250 t251 t252 c253) _ _ _ hP hD hS (lv_sub hl [0] rfl)
  exact hL7 ((940 - rplace) + 1) rplace (lf_f_adv_81 rlength rplace gq iv_rreader_0 iv_rreader_1 hgq) iv_rreader_1 (lf_f_adv_82 bt rlength rplace rtapeF gq iv_rreader_0 iv_rreader_1 hTC hgq) (Nat.lt_succ_self _) _ _ _ hP hD hS (lv_sub hl [0] rfl)
