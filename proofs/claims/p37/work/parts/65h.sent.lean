theorem tk_c {B : Nat → Nat} {n m p c : Nat} (h : nI (tK B n m p) = nI c) (hc : c < 1000) : tK B n m p = c := by
  have hk := tK_le B n m p
  rw [ia_eq, ia_n _ (by omega), ia_n _ (by omega)] at h
  omega
theorem tk_d {B : Nat → Nat} {n m p c : Nat} (h : ¬ nI (tK B n m p) = nI c) : ¬ tK B n m p = c := fun e => h (congrArg nI e)
set_option maxRecDepth 20000 in
theorem lf_f_sn19_1   : (nI 0) = nI 0 := by
  try have k_0 := ia_n 0 (by first | decide | omega)
  try simp only [ia_lt, ia_le, ia_eq, ia_m1, ia_0, ia_1, ne_eq, true_and, and_true, false_and, and_false, or_false, false_or, or_true, true_or, not_true_eq_false, not_false_eq_true] at *
  all_goals omega
set_option maxRecDepth 20000 in
theorem lf_f_sn19_2 (ccodeCount : Nat) (cones : Nat) (bt : Nat → Nat) (rlength : Nat) (rmostBytes : Nat) (rplace : Nat) (rkind : Int32) (rbegin : Nat) (rword : Int32) (rnumber : Int32) (rletters : Int64) (rtapeF : Nat → Int32) (lumps : Nat) (lumpNamesF : Nat → Int64) (gp : Nat) (gnu : Nat → Nat) (r1 : Int32) (rfaultPlaceG_10 : Int32) (iv_cse_0 : ccodeCount ≤ 40) (iv_cse_1 : cones ≤ 20) (iv_rreader_0 : rlength ≤ 940) (iv_rreader_1 : rplace ≤ rlength) (iv_rreader_2 : rmostBytes ≤ 900) (iv_rreader_3 : rbegin ≤ 940) (hTC : TC bt rtapeF) (iv_a_4 : lumps ≤ 6) (hRT : RT bt rlength rmostBytes gp rkind rbegin rplace rword rnumber rletters) (hNL : NL gnu 0 lumps lumpNamesF) (hcc : ccodeCount ≤ 2 * cones) (p2 : r1 = rword) (c3 : rkind ≠ nI 40) (c5 : r1 < nI 22) (p13 : rfaultPlaceG_10 = nI rbegin) : isO (sOne bt rlength rmostBytes gnu lumps 0 gp cones) = false := by
  have k40 := RT_k hRT (c := 40) (by decide)
  have w3 := RT_w3 hRT
  have n40 : ¬ tK bt rlength rmostBytes gp = 40 := fun h9 => absurd (k40.mpr h9) (by assumption)
  have ns : ¬ sFst bt rlength rmostBytes gp := by
    unfold sFst
    rintro (h | h)
    · exact n40 h
    · exfalso
      have b_rkind := ia_b rkind
      have b_rword := ia_b rword
      have b_rnumber := ia_b rnumber
      have b_r1 := ia_b r1
      have b_rfaultPlaceG_10 := ia_b rfaultPlaceG_10
      have b_rletters := Int64.toInt_lt rletters
      try have k_0 := ia_n 40 (by first | decide | omega)
      try have k_1 := ia_n 22 (by first | decide | omega)
      try have k_2 := ia_n rbegin (by first | decide | omega)
      try simp only [ia_lt, ia_le, ia_eq, ia_m1, ia_0, ia_1, ne_eq, true_and, and_true, false_and, and_false, or_false, false_or, or_true, true_or, not_true_eq_false, not_false_eq_true] at *
      all_goals omega
  rw [so_bad ns]
  exact rfl
set_option maxRecDepth 20000 in
theorem lf_f_sn19_3 (ccodeCount : Nat) (cones : Nat) (bt : Nat → Nat) (rlength : Nat) (rmostBytes : Nat) (rplace : Nat) (rkind : Int32) (rbegin : Nat) (rword : Int32) (rnumber : Int32) (rletters : Int64) (rtapeF : Nat → Int32) (lumps : Nat) (lumpNamesF : Nat → Int64) (gp : Nat) (gnu : Nat → Nat) (r1 : Int32) (rfaultKindG_9 : Int32) (rfaultPlaceG_10 : Int32) (iv_cse_0 : ccodeCount ≤ 40) (iv_cse_1 : cones ≤ 20) (iv_rreader_0 : rlength ≤ 940) (iv_rreader_1 : rplace ≤ rlength) (iv_rreader_2 : rmostBytes ≤ 900) (iv_rreader_3 : rbegin ≤ 940) (hTC : TC bt rtapeF) (iv_a_4 : lumps ≤ 6) (hRT : RT bt rlength rmostBytes gp rkind rbegin rplace rword rnumber rletters) (hNL : NL gnu 0 lumps lumpNamesF) (hcc : ccodeCount ≤ 2 * cones) (p2 : r1 = rword) (c3 : rkind ≠ nI 40) (c5 : r1 < nI 22) (p12 : rfaultKindG_9 = (nI 1)) (p13 : rfaultPlaceG_10 = nI rbegin) : rfaultKindG_9 = nI (erA (sOne bt rlength rmostBytes gnu lumps 0 gp cones)) := by
  have k40 := RT_k hRT (c := 40) (by decide)
  have w3 := RT_w3 hRT
  have n40 : ¬ tK bt rlength rmostBytes gp = 40 := fun h9 => absurd (k40.mpr h9) (by assumption)
  have ns : ¬ sFst bt rlength rmostBytes gp := by
    unfold sFst
    rintro (h | h)
    · exact n40 h
    · exfalso
      have b_rkind := ia_b rkind
      have b_rword := ia_b rword
      have b_rnumber := ia_b rnumber
      have b_r1 := ia_b r1
      have b_rfaultKindG_9 := ia_b rfaultKindG_9
      have b_rfaultPlaceG_10 := ia_b rfaultPlaceG_10
      have b_rletters := Int64.toInt_lt rletters
      try have k_0 := ia_n 40 (by first | decide | omega)
      try have k_1 := ia_n 22 (by first | decide | omega)
      try have k_2 := ia_n 1 (by first | decide | omega)
      try have k_3 := ia_n rbegin (by first | decide | omega)
      try have k_4 := ia_n (erA (sOne bt rlength rmostBytes gnu lumps 0 gp cones)) (by first | decide | omega)
      try simp only [ia_lt, ia_le, ia_eq, ia_m1, ia_0, ia_1, ne_eq, true_and, and_true, false_and, and_false, or_false, false_or, or_true, true_or, not_true_eq_false, not_false_eq_true] at *
      all_goals omega
  rw [so_bad ns]
  assumption
set_option maxRecDepth 20000 in
theorem lf_f_sn19_4 (ccodeCount : Nat) (cones : Nat) (bt : Nat → Nat) (rlength : Nat) (rmostBytes : Nat) (rplace : Nat) (rkind : Int32) (rbegin : Nat) (rword : Int32) (rnumber : Int32) (rletters : Int64) (rtapeF : Nat → Int32) (lumps : Nat) (lumpNamesF : Nat → Int64) (gp : Nat) (gnu : Nat → Nat) (r1 : Int32) (rfaultPlaceG_10 : Int32) (iv_cse_0 : ccodeCount ≤ 40) (iv_cse_1 : cones ≤ 20) (iv_rreader_0 : rlength ≤ 940) (iv_rreader_1 : rplace ≤ rlength) (iv_rreader_2 : rmostBytes ≤ 900) (iv_rreader_3 : rbegin ≤ 940) (hTC : TC bt rtapeF) (iv_a_4 : lumps ≤ 6) (hRT : RT bt rlength rmostBytes gp rkind rbegin rplace rword rnumber rletters) (hNL : NL gnu 0 lumps lumpNamesF) (hcc : ccodeCount ≤ 2 * cones) (p2 : r1 = rword) (c3 : rkind ≠ nI 40) (c5 : r1 < nI 22) (p13 : rfaultPlaceG_10 = nI rbegin) : rfaultPlaceG_10 = nI (erB (sOne bt rlength rmostBytes gnu lumps 0 gp cones)) := by
  have k40 := RT_k hRT (c := 40) (by decide)
  have w3 := RT_w3 hRT
  have n40 : ¬ tK bt rlength rmostBytes gp = 40 := fun h9 => absurd (k40.mpr h9) (by assumption)
  have ns : ¬ sFst bt rlength rmostBytes gp := by
    unfold sFst
    rintro (h | h)
    · exact n40 h
    · exfalso
      have b_rkind := ia_b rkind
      have b_rword := ia_b rword
      have b_rnumber := ia_b rnumber
      have b_r1 := ia_b r1
      have b_rfaultPlaceG_10 := ia_b rfaultPlaceG_10
      have b_rletters := Int64.toInt_lt rletters
      try have k_0 := ia_n 40 (by first | decide | omega)
      try have k_1 := ia_n 22 (by first | decide | omega)
      try have k_2 := ia_n rbegin (by first | decide | omega)
      try have k_3 := ia_n (erB (sOne bt rlength rmostBytes gnu lumps 0 gp cones)) (by first | decide | omega)
      try simp only [ia_lt, ia_le, ia_eq, ia_m1, ia_0, ia_1, ne_eq, true_and, and_true, false_and, and_false, or_false, false_or, or_true, true_or, not_true_eq_false, not_false_eq_true] at *
      all_goals omega
  rw [so_bad ns]
  exact (Eq.trans (by assumption : _ = nI rbegin) (congrArg nI hRT.2.1))
set_option maxRecDepth 20000 in
theorem lf_f_sn19_5   : (nI 0) = nI 0 := by
  try have k_0 := ia_n 0 (by first | decide | omega)
  try simp only [ia_lt, ia_le, ia_eq, ia_m1, ia_0, ia_1, ne_eq, true_and, and_true, false_and, and_false, or_false, false_or, or_true, true_or, not_true_eq_false, not_false_eq_true] at *
  all_goals omega
set_option maxRecDepth 20000 in
theorem lf_f_sn19_6 (ccodeCount : Nat) (cones : Nat) (bt : Nat → Nat) (rlength : Nat) (rmostBytes : Nat) (rplace : Nat) (rkind : Int32) (rbegin : Nat) (rword : Int32) (rnumber : Int32) (rletters : Int64) (rtapeF : Nat → Int32) (lumps : Nat) (lumpNamesF : Nat → Int64) (gp : Nat) (gnu : Nat → Nat) (r1 : Int32) (rfaultPlaceG_20 : Int32) (iv_cse_0 : ccodeCount ≤ 40) (iv_cse_1 : cones ≤ 20) (iv_rreader_0 : rlength ≤ 940) (iv_rreader_1 : rplace ≤ rlength) (iv_rreader_2 : rmostBytes ≤ 900) (iv_rreader_3 : rbegin ≤ 940) (hTC : TC bt rtapeF) (iv_a_4 : lumps ≤ 6) (hRT : RT bt rlength rmostBytes gp rkind rbegin rplace rword rnumber rletters) (hNL : NL gnu 0 lumps lumpNamesF) (hcc : ccodeCount ≤ 2 * cones) (p2 : r1 = rword) (c3 : rkind ≠ nI 40) (c5 : ¬ r1 < nI 22) (c14 : r1 ≤ nI 30) (c15 : 20 ≤ cones) (p23 : rfaultPlaceG_20 = nI rbegin) : isO (sOne bt rlength rmostBytes gnu lumps 0 gp cones) = false := by
  have k40 := RT_k hRT (c := 40) (by decide)
  have w3 := RT_w3 hRT
  have r9 : 22 ≤ tW bt rlength rmostBytes gp ∧ tW bt rlength rmostBytes gp ≤ 30 := by
    have b_rkind := ia_b rkind
    have b_rword := ia_b rword
    have b_rnumber := ia_b rnumber
    have b_r1 := ia_b r1
    have b_rfaultPlaceG_20 := ia_b rfaultPlaceG_20
    have b_rletters := Int64.toInt_lt rletters
    try have k_0 := ia_n 40 (by first | decide | omega)
    try have k_1 := ia_n 22 (by first | decide | omega)
    try have k_2 := ia_n 30 (by first | decide | omega)
    try have k_3 := ia_n rbegin (by first | decide | omega)
    try simp only [ia_lt, ia_le, ia_eq, ia_m1, ia_0, ia_1, ne_eq, true_and, and_true, false_and, and_false, or_false, false_or, or_true, true_or, not_true_eq_false, not_false_eq_true] at *
    all_goals omega
  have ys : sFst bt rlength rmostBytes gp := Or.inr r9
  rw [so_deep ys]
  exact rfl
set_option maxRecDepth 20000 in
theorem lf_f_sn19_7 (ccodeCount : Nat) (cones : Nat) (bt : Nat → Nat) (rlength : Nat) (rmostBytes : Nat) (rplace : Nat) (rkind : Int32) (rbegin : Nat) (rword : Int32) (rnumber : Int32) (rletters : Int64) (rtapeF : Nat → Int32) (lumps : Nat) (lumpNamesF : Nat → Int64) (gp : Nat) (gnu : Nat → Nat) (r1 : Int32) (rfaultKindG_19 : Int32) (rfaultPlaceG_20 : Int32) (iv_cse_0 : ccodeCount ≤ 40) (iv_cse_1 : cones ≤ 20) (iv_rreader_0 : rlength ≤ 940) (iv_rreader_1 : rplace ≤ rlength) (iv_rreader_2 : rmostBytes ≤ 900) (iv_rreader_3 : rbegin ≤ 940) (hTC : TC bt rtapeF) (iv_a_4 : lumps ≤ 6) (hRT : RT bt rlength rmostBytes gp rkind rbegin rplace rword rnumber rletters) (hNL : NL gnu 0 lumps lumpNamesF) (hcc : ccodeCount ≤ 2 * cones) (p2 : r1 = rword) (c3 : rkind ≠ nI 40) (c5 : ¬ r1 < nI 22) (c14 : r1 ≤ nI 30) (c15 : 20 ≤ cones) (p22 : rfaultKindG_19 = (nI 4)) (p23 : rfaultPlaceG_20 = nI rbegin) : rfaultKindG_19 = nI (erA (sOne bt rlength rmostBytes gnu lumps 0 gp cones)) := by
  have k40 := RT_k hRT (c := 40) (by decide)
  have w3 := RT_w3 hRT
  have r9 : 22 ≤ tW bt rlength rmostBytes gp ∧ tW bt rlength rmostBytes gp ≤ 30 := by
    have b_rkind := ia_b rkind
    have b_rword := ia_b rword
    have b_rnumber := ia_b rnumber
    have b_r1 := ia_b r1
    have b_rfaultKindG_19 := ia_b rfaultKindG_19
    have b_rfaultPlaceG_20 := ia_b rfaultPlaceG_20
    have b_rletters := Int64.toInt_lt rletters
    try have k_0 := ia_n 40 (by first | decide | omega)
    try have k_1 := ia_n 22 (by first | decide | omega)
    try have k_2 := ia_n 30 (by first | decide | omega)
    try have k_3 := ia_n 4 (by first | decide | omega)
    try have k_4 := ia_n rbegin (by first | decide | omega)
    try have k_5 := ia_n (erA (sOne bt rlength rmostBytes gnu lumps 0 gp cones)) (by first | decide | omega)
    try simp only [ia_lt, ia_le, ia_eq, ia_m1, ia_0, ia_1, ne_eq, true_and, and_true, false_and, and_false, or_false, false_or, or_true, true_or, not_true_eq_false, not_false_eq_true] at *
    all_goals omega
  have ys : sFst bt rlength rmostBytes gp := Or.inr r9
  rw [so_deep ys]
  assumption
set_option maxRecDepth 20000 in
theorem lf_f_sn19_8 (ccodeCount : Nat) (cones : Nat) (bt : Nat → Nat) (rlength : Nat) (rmostBytes : Nat) (rplace : Nat) (rkind : Int32) (rbegin : Nat) (rword : Int32) (rnumber : Int32) (rletters : Int64) (rtapeF : Nat → Int32) (lumps : Nat) (lumpNamesF : Nat → Int64) (gp : Nat) (gnu : Nat → Nat) (r1 : Int32) (rfaultPlaceG_20 : Int32) (iv_cse_0 : ccodeCount ≤ 40) (iv_cse_1 : cones ≤ 20) (iv_rreader_0 : rlength ≤ 940) (iv_rreader_1 : rplace ≤ rlength) (iv_rreader_2 : rmostBytes ≤ 900) (iv_rreader_3 : rbegin ≤ 940) (hTC : TC bt rtapeF) (iv_a_4 : lumps ≤ 6) (hRT : RT bt rlength rmostBytes gp rkind rbegin rplace rword rnumber rletters) (hNL : NL gnu 0 lumps lumpNamesF) (hcc : ccodeCount ≤ 2 * cones) (p2 : r1 = rword) (c3 : rkind ≠ nI 40) (c5 : ¬ r1 < nI 22) (c14 : r1 ≤ nI 30) (c15 : 20 ≤ cones) (p23 : rfaultPlaceG_20 = nI rbegin) : rfaultPlaceG_20 = nI (erB (sOne bt rlength rmostBytes gnu lumps 0 gp cones)) := by
  have k40 := RT_k hRT (c := 40) (by decide)
  have w3 := RT_w3 hRT
  have r9 : 22 ≤ tW bt rlength rmostBytes gp ∧ tW bt rlength rmostBytes gp ≤ 30 := by
    have b_rkind := ia_b rkind
    have b_rword := ia_b rword
    have b_rnumber := ia_b rnumber
    have b_r1 := ia_b r1
    have b_rfaultPlaceG_20 := ia_b rfaultPlaceG_20
    have b_rletters := Int64.toInt_lt rletters
    try have k_0 := ia_n 40 (by first | decide | omega)
    try have k_1 := ia_n 22 (by first | decide | omega)
    try have k_2 := ia_n 30 (by first | decide | omega)
    try have k_3 := ia_n rbegin (by first | decide | omega)
    try have k_4 := ia_n (erB (sOne bt rlength rmostBytes gnu lumps 0 gp cones)) (by first | decide | omega)
    try simp only [ia_lt, ia_le, ia_eq, ia_m1, ia_0, ia_1, ne_eq, true_and, and_true, false_and, and_false, or_false, false_or, or_true, true_or, not_true_eq_false, not_false_eq_true] at *
    all_goals omega
  have ys : sFst bt rlength rmostBytes gp := Or.inr r9
  rw [so_deep ys]
  exact (Eq.trans (by assumption : _ = nI rbegin) (congrArg nI hRT.2.1))
set_option maxRecDepth 20000 in
theorem lf_f_sn19_9   : (nI 0) = nI 0 := by
  try have k_0 := ia_n 0 (by first | decide | omega)
  try simp only [ia_lt, ia_le, ia_eq, ia_m1, ia_0, ia_1, ne_eq, true_and, and_true, false_and, and_false, or_false, false_or, or_true, true_or, not_true_eq_false, not_false_eq_true] at *
  all_goals omega
set_option maxRecDepth 20000 in
theorem lf_f_sn19_10 (ccodeCount : Nat) (cones : Nat) (bt : Nat → Nat) (rlength : Nat) (rmostBytes : Nat) (rplace : Nat) (rkind : Int32) (rbegin : Nat) (rword : Int32) (rnumber : Int32) (rletters : Int64) (rtapeF : Nat → Int32) (lumps : Nat) (lumpNamesF : Nat → Int64) (gp : Nat) (gnu : Nat → Nat) (r1 : Int32) (rfaultPlaceG_29 : Int32) (iv_cse_0 : ccodeCount ≤ 40) (iv_cse_1 : cones ≤ 20) (iv_rreader_0 : rlength ≤ 940) (iv_rreader_1 : rplace ≤ rlength) (iv_rreader_2 : rmostBytes ≤ 900) (iv_rreader_3 : rbegin ≤ 940) (hTC : TC bt rtapeF) (iv_a_4 : lumps ≤ 6) (hRT : RT bt rlength rmostBytes gp rkind rbegin rplace rword rnumber rletters) (hNL : NL gnu 0 lumps lumpNamesF) (hcc : ccodeCount ≤ 2 * cones) (p2 : r1 = rword) (c3 : rkind ≠ nI 40) (c5 : ¬ r1 < nI 22) (c14 : r1 ≤ nI 30) (c15 : cones < 20) (p32 : rfaultPlaceG_29 = nI rbegin) : isO (sOne bt rlength rmostBytes gnu lumps 0 gp cones) = false := by
  have k40 := RT_k hRT (c := 40) (by decide)
  have w3 := RT_w3 hRT
  have r9 : 22 ≤ tW bt rlength rmostBytes gp ∧ tW bt rlength rmostBytes gp ≤ 30 := by
    have b_rkind := ia_b rkind
    have b_rword := ia_b rword
    have b_rnumber := ia_b rnumber
    have b_r1 := ia_b r1
    have b_rfaultPlaceG_29 := ia_b rfaultPlaceG_29
    have b_rletters := Int64.toInt_lt rletters
    try have k_0 := ia_n 40 (by first | decide | omega)
    try have k_1 := ia_n 22 (by first | decide | omega)
    try have k_2 := ia_n 30 (by first | decide | omega)
    try have k_3 := ia_n rbegin (by first | decide | omega)
    try simp only [ia_lt, ia_le, ia_eq, ia_m1, ia_0, ia_1, ne_eq, true_and, and_true, false_and, and_false, or_false, false_or, or_true, true_or, not_true_eq_false, not_false_eq_true] at *
    all_goals omega
  have ys : sFst bt rlength rmostBytes gp := Or.inr r9
  rw [so_deep ys]
  exact rfl
set_option maxRecDepth 20000 in
theorem lf_f_sn19_11 (ccodeCount : Nat) (cones : Nat) (bt : Nat → Nat) (rlength : Nat) (rmostBytes : Nat) (rplace : Nat) (rkind : Int32) (rbegin : Nat) (rword : Int32) (rnumber : Int32) (rletters : Int64) (rtapeF : Nat → Int32) (lumps : Nat) (lumpNamesF : Nat → Int64) (gp : Nat) (gnu : Nat → Nat) (r1 : Int32) (rfaultKindG_28 : Int32) (rfaultPlaceG_29 : Int32) (iv_cse_0 : ccodeCount ≤ 40) (iv_cse_1 : cones ≤ 20) (iv_rreader_0 : rlength ≤ 940) (iv_rreader_1 : rplace ≤ rlength) (iv_rreader_2 : rmostBytes ≤ 900) (iv_rreader_3 : rbegin ≤ 940) (hTC : TC bt rtapeF) (iv_a_4 : lumps ≤ 6) (hRT : RT bt rlength rmostBytes gp rkind rbegin rplace rword rnumber rletters) (hNL : NL gnu 0 lumps lumpNamesF) (hcc : ccodeCount ≤ 2 * cones) (p2 : r1 = rword) (c3 : rkind ≠ nI 40) (c5 : ¬ r1 < nI 22) (c14 : r1 ≤ nI 30) (c15 : cones < 20) (p31 : rfaultKindG_28 = (nI 4)) (p32 : rfaultPlaceG_29 = nI rbegin) : rfaultKindG_28 = nI (erA (sOne bt rlength rmostBytes gnu lumps 0 gp cones)) := by
  have k40 := RT_k hRT (c := 40) (by decide)
  have w3 := RT_w3 hRT
  have r9 : 22 ≤ tW bt rlength rmostBytes gp ∧ tW bt rlength rmostBytes gp ≤ 30 := by
    have b_rkind := ia_b rkind
    have b_rword := ia_b rword
    have b_rnumber := ia_b rnumber
    have b_r1 := ia_b r1
    have b_rfaultKindG_28 := ia_b rfaultKindG_28
    have b_rfaultPlaceG_29 := ia_b rfaultPlaceG_29
    have b_rletters := Int64.toInt_lt rletters
    try have k_0 := ia_n 40 (by first | decide | omega)
    try have k_1 := ia_n 22 (by first | decide | omega)
    try have k_2 := ia_n 30 (by first | decide | omega)
    try have k_3 := ia_n 4 (by first | decide | omega)
    try have k_4 := ia_n rbegin (by first | decide | omega)
    try have k_5 := ia_n (erA (sOne bt rlength rmostBytes gnu lumps 0 gp cones)) (by first | decide | omega)
    try simp only [ia_lt, ia_le, ia_eq, ia_m1, ia_0, ia_1, ne_eq, true_and, and_true, false_and, and_false, or_false, false_or, or_true, true_or, not_true_eq_false, not_false_eq_true] at *
    all_goals omega
  have ys : sFst bt rlength rmostBytes gp := Or.inr r9
  rw [so_deep ys]
  assumption
set_option maxRecDepth 20000 in
theorem lf_f_sn19_12 (ccodeCount : Nat) (cones : Nat) (bt : Nat → Nat) (rlength : Nat) (rmostBytes : Nat) (rplace : Nat) (rkind : Int32) (rbegin : Nat) (rword : Int32) (rnumber : Int32) (rletters : Int64) (rtapeF : Nat → Int32) (lumps : Nat) (lumpNamesF : Nat → Int64) (gp : Nat) (gnu : Nat → Nat) (r1 : Int32) (rfaultPlaceG_29 : Int32) (iv_cse_0 : ccodeCount ≤ 40) (iv_cse_1 : cones ≤ 20) (iv_rreader_0 : rlength ≤ 940) (iv_rreader_1 : rplace ≤ rlength) (iv_rreader_2 : rmostBytes ≤ 900) (iv_rreader_3 : rbegin ≤ 940) (hTC : TC bt rtapeF) (iv_a_4 : lumps ≤ 6) (hRT : RT bt rlength rmostBytes gp rkind rbegin rplace rword rnumber rletters) (hNL : NL gnu 0 lumps lumpNamesF) (hcc : ccodeCount ≤ 2 * cones) (p2 : r1 = rword) (c3 : rkind ≠ nI 40) (c5 : ¬ r1 < nI 22) (c14 : r1 ≤ nI 30) (c15 : cones < 20) (p32 : rfaultPlaceG_29 = nI rbegin) : rfaultPlaceG_29 = nI (erB (sOne bt rlength rmostBytes gnu lumps 0 gp cones)) := by
  have k40 := RT_k hRT (c := 40) (by decide)
  have w3 := RT_w3 hRT
  have r9 : 22 ≤ tW bt rlength rmostBytes gp ∧ tW bt rlength rmostBytes gp ≤ 30 := by
    have b_rkind := ia_b rkind
    have b_rword := ia_b rword
    have b_rnumber := ia_b rnumber
    have b_r1 := ia_b r1
    have b_rfaultPlaceG_29 := ia_b rfaultPlaceG_29
    have b_rletters := Int64.toInt_lt rletters
    try have k_0 := ia_n 40 (by first | decide | omega)
    try have k_1 := ia_n 22 (by first | decide | omega)
    try have k_2 := ia_n 30 (by first | decide | omega)
    try have k_3 := ia_n rbegin (by first | decide | omega)
    try have k_4 := ia_n (erB (sOne bt rlength rmostBytes gnu lumps 0 gp cones)) (by first | decide | omega)
    try simp only [ia_lt, ia_le, ia_eq, ia_m1, ia_0, ia_1, ne_eq, true_and, and_true, false_and, and_false, or_false, false_or, or_true, true_or, not_true_eq_false, not_false_eq_true] at *
    all_goals omega
  have ys : sFst bt rlength rmostBytes gp := Or.inr r9
  rw [so_deep ys]
  exact (Eq.trans (by assumption : _ = nI rbegin) (congrArg nI hRT.2.1))
set_option maxRecDepth 20000 in
theorem lf_f_sn19_13   : (nI 0) = nI 0 := by
  try have k_0 := ia_n 0 (by first | decide | omega)
  try simp only [ia_lt, ia_le, ia_eq, ia_m1, ia_0, ia_1, ne_eq, true_and, and_true, false_and, and_false, or_false, false_or, or_true, true_or, not_true_eq_false, not_false_eq_true] at *
  all_goals omega
set_option maxRecDepth 20000 in
theorem lf_f_sn19_14 (ccodeCount : Nat) (cones : Nat) (bt : Nat → Nat) (rlength : Nat) (rmostBytes : Nat) (rplace : Nat) (rkind : Int32) (rbegin : Nat) (rword : Int32) (rnumber : Int32) (rletters : Int64) (rtapeF : Nat → Int32) (lumps : Nat) (lumpNamesF : Nat → Int64) (gp : Nat) (gnu : Nat → Nat) (r1 : Int32) (rfaultPlaceG_37 : Int32) (iv_cse_0 : ccodeCount ≤ 40) (iv_cse_1 : cones ≤ 20) (iv_rreader_0 : rlength ≤ 940) (iv_rreader_1 : rplace ≤ rlength) (iv_rreader_2 : rmostBytes ≤ 900) (iv_rreader_3 : rbegin ≤ 940) (hTC : TC bt rtapeF) (iv_a_4 : lumps ≤ 6) (hRT : RT bt rlength rmostBytes gp rkind rbegin rplace rword rnumber rletters) (hNL : NL gnu 0 lumps lumpNamesF) (hcc : ccodeCount ≤ 2 * cones) (p2 : r1 = rword) (c3 : rkind ≠ nI 40) (c5 : ¬ r1 < nI 22) (c14 : ¬ r1 ≤ nI 30) (p40 : rfaultPlaceG_37 = nI rbegin) : isO (sOne bt rlength rmostBytes gnu lumps 0 gp cones) = false := by
  have k40 := RT_k hRT (c := 40) (by decide)
  have w3 := RT_w3 hRT
  have n40 : ¬ tK bt rlength rmostBytes gp = 40 := fun h9 => absurd (k40.mpr h9) (by assumption)
  have ns : ¬ sFst bt rlength rmostBytes gp := by
    unfold sFst
    rintro (h | h)
    · exact n40 h
    · exfalso
      have b_rkind := ia_b rkind
      have b_rword := ia_b rword
      have b_rnumber := ia_b rnumber
      have b_r1 := ia_b r1
      have b_rfaultPlaceG_37 := ia_b rfaultPlaceG_37
      have b_rletters := Int64.toInt_lt rletters
      try have k_0 := ia_n 40 (by first | decide | omega)
      try have k_1 := ia_n 22 (by first | decide | omega)
      try have k_2 := ia_n 30 (by first | decide | omega)
      try have k_3 := ia_n rbegin (by first | decide | omega)
      try simp only [ia_lt, ia_le, ia_eq, ia_m1, ia_0, ia_1, ne_eq, true_and, and_true, false_and, and_false, or_false, false_or, or_true, true_or, not_true_eq_false, not_false_eq_true] at *
      all_goals omega
  rw [so_bad ns]
  exact rfl
set_option maxRecDepth 20000 in
theorem lf_f_sn19_15 (ccodeCount : Nat) (cones : Nat) (bt : Nat → Nat) (rlength : Nat) (rmostBytes : Nat) (rplace : Nat) (rkind : Int32) (rbegin : Nat) (rword : Int32) (rnumber : Int32) (rletters : Int64) (rtapeF : Nat → Int32) (lumps : Nat) (lumpNamesF : Nat → Int64) (gp : Nat) (gnu : Nat → Nat) (r1 : Int32) (rfaultKindG_36 : Int32) (rfaultPlaceG_37 : Int32) (iv_cse_0 : ccodeCount ≤ 40) (iv_cse_1 : cones ≤ 20) (iv_rreader_0 : rlength ≤ 940) (iv_rreader_1 : rplace ≤ rlength) (iv_rreader_2 : rmostBytes ≤ 900) (iv_rreader_3 : rbegin ≤ 940) (hTC : TC bt rtapeF) (iv_a_4 : lumps ≤ 6) (hRT : RT bt rlength rmostBytes gp rkind rbegin rplace rword rnumber rletters) (hNL : NL gnu 0 lumps lumpNamesF) (hcc : ccodeCount ≤ 2 * cones) (p2 : r1 = rword) (c3 : rkind ≠ nI 40) (c5 : ¬ r1 < nI 22) (c14 : ¬ r1 ≤ nI 30) (p39 : rfaultKindG_36 = (nI 1)) (p40 : rfaultPlaceG_37 = nI rbegin) : rfaultKindG_36 = nI (erA (sOne bt rlength rmostBytes gnu lumps 0 gp cones)) := by
  have k40 := RT_k hRT (c := 40) (by decide)
  have w3 := RT_w3 hRT
  have n40 : ¬ tK bt rlength rmostBytes gp = 40 := fun h9 => absurd (k40.mpr h9) (by assumption)
  have ns : ¬ sFst bt rlength rmostBytes gp := by
    unfold sFst
    rintro (h | h)
    · exact n40 h
    · exfalso
      have b_rkind := ia_b rkind
      have b_rword := ia_b rword
      have b_rnumber := ia_b rnumber
      have b_r1 := ia_b r1
      have b_rfaultKindG_36 := ia_b rfaultKindG_36
      have b_rfaultPlaceG_37 := ia_b rfaultPlaceG_37
      have b_rletters := Int64.toInt_lt rletters
      try have k_0 := ia_n 40 (by first | decide | omega)
      try have k_1 := ia_n 22 (by first | decide | omega)
      try have k_2 := ia_n 30 (by first | decide | omega)
      try have k_3 := ia_n 1 (by first | decide | omega)
      try have k_4 := ia_n rbegin (by first | decide | omega)
      try have k_5 := ia_n (erA (sOne bt rlength rmostBytes gnu lumps 0 gp cones)) (by first | decide | omega)
      try simp only [ia_lt, ia_le, ia_eq, ia_m1, ia_0, ia_1, ne_eq, true_and, and_true, false_and, and_false, or_false, false_or, or_true, true_or, not_true_eq_false, not_false_eq_true] at *
      all_goals omega
  rw [so_bad ns]
  assumption
set_option maxRecDepth 20000 in
theorem lf_f_sn19_16 (ccodeCount : Nat) (cones : Nat) (bt : Nat → Nat) (rlength : Nat) (rmostBytes : Nat) (rplace : Nat) (rkind : Int32) (rbegin : Nat) (rword : Int32) (rnumber : Int32) (rletters : Int64) (rtapeF : Nat → Int32) (lumps : Nat) (lumpNamesF : Nat → Int64) (gp : Nat) (gnu : Nat → Nat) (r1 : Int32) (rfaultPlaceG_37 : Int32) (iv_cse_0 : ccodeCount ≤ 40) (iv_cse_1 : cones ≤ 20) (iv_rreader_0 : rlength ≤ 940) (iv_rreader_1 : rplace ≤ rlength) (iv_rreader_2 : rmostBytes ≤ 900) (iv_rreader_3 : rbegin ≤ 940) (hTC : TC bt rtapeF) (iv_a_4 : lumps ≤ 6) (hRT : RT bt rlength rmostBytes gp rkind rbegin rplace rword rnumber rletters) (hNL : NL gnu 0 lumps lumpNamesF) (hcc : ccodeCount ≤ 2 * cones) (p2 : r1 = rword) (c3 : rkind ≠ nI 40) (c5 : ¬ r1 < nI 22) (c14 : ¬ r1 ≤ nI 30) (p40 : rfaultPlaceG_37 = nI rbegin) : rfaultPlaceG_37 = nI (erB (sOne bt rlength rmostBytes gnu lumps 0 gp cones)) := by
  have k40 := RT_k hRT (c := 40) (by decide)
  have w3 := RT_w3 hRT
  have n40 : ¬ tK bt rlength rmostBytes gp = 40 := fun h9 => absurd (k40.mpr h9) (by assumption)
  have ns : ¬ sFst bt rlength rmostBytes gp := by
    unfold sFst
    rintro (h | h)
    · exact n40 h
    · exfalso
      have b_rkind := ia_b rkind
      have b_rword := ia_b rword
      have b_rnumber := ia_b rnumber
      have b_r1 := ia_b r1
      have b_rfaultPlaceG_37 := ia_b rfaultPlaceG_37
      have b_rletters := Int64.toInt_lt rletters
      try have k_0 := ia_n 40 (by first | decide | omega)
      try have k_1 := ia_n 22 (by first | decide | omega)
      try have k_2 := ia_n 30 (by first | decide | omega)
      try have k_3 := ia_n rbegin (by first | decide | omega)
      try have k_4 := ia_n (erB (sOne bt rlength rmostBytes gnu lumps 0 gp cones)) (by first | decide | omega)
      try simp only [ia_lt, ia_le, ia_eq, ia_m1, ia_0, ia_1, ne_eq, true_and, and_true, false_and, and_false, or_false, false_or, or_true, true_or, not_true_eq_false, not_false_eq_true] at *
      all_goals omega
  rw [so_bad ns]
  exact (Eq.trans (by assumption : _ = nI rbegin) (congrArg nI hRT.2.1))
set_option maxRecDepth 20000 in
theorem lf_f_sn19_17   : (nI 0) = nI 0 := by
  try have k_0 := ia_n 0 (by first | decide | omega)
  try simp only [ia_lt, ia_le, ia_eq, ia_m1, ia_0, ia_1, ne_eq, true_and, and_true, false_and, and_false, or_false, false_or, or_true, true_or, not_true_eq_false, not_false_eq_true] at *
  all_goals omega
set_option maxRecDepth 20000 in
theorem lf_f_sn19_18 (ccodeCount : Nat) (cones : Nat) (bt : Nat → Nat) (rlength : Nat) (rmostBytes : Nat) (rplace : Nat) (rkind : Int32) (rbegin : Nat) (rword : Int32) (rnumber : Int32) (rletters : Int64) (rtapeF : Nat → Int32) (lumps : Nat) (lumpNamesF : Nat → Int64) (gp : Nat) (gnu : Nat → Nat) (r1 : Int32) (rfaultPlaceG_47 : Int32) (iv_cse_0 : ccodeCount ≤ 40) (iv_cse_1 : cones ≤ 20) (iv_rreader_0 : rlength ≤ 940) (iv_rreader_1 : rplace ≤ rlength) (iv_rreader_2 : rmostBytes ≤ 900) (iv_rreader_3 : rbegin ≤ 940) (hTC : TC bt rtapeF) (iv_a_4 : lumps ≤ 6) (hRT : RT bt rlength rmostBytes gp rkind rbegin rplace rword rnumber rletters) (hNL : NL gnu 0 lumps lumpNamesF) (hcc : ccodeCount ≤ 2 * cones) (p2 : r1 = rword) (c3 : rkind = nI 40) (c42 : 20 ≤ cones) (p50 : rfaultPlaceG_47 = nI rbegin) : isO (sOne bt rlength rmostBytes gnu lumps 0 gp cones) = false := by
  have k40 := RT_k hRT (c := 40) (by decide)
  have w3 := RT_w3 hRT
  have y40 : tK bt rlength rmostBytes gp = 40 := k40.mp (by first | rfl | assumption)
  have ys : sFst bt rlength rmostBytes gp := Or.inl y40
  rw [so_deep ys]
  exact rfl
set_option maxRecDepth 20000 in
theorem lf_f_sn19_19 (ccodeCount : Nat) (cones : Nat) (bt : Nat → Nat) (rlength : Nat) (rmostBytes : Nat) (rplace : Nat) (rkind : Int32) (rbegin : Nat) (rword : Int32) (rnumber : Int32) (rletters : Int64) (rtapeF : Nat → Int32) (lumps : Nat) (lumpNamesF : Nat → Int64) (gp : Nat) (gnu : Nat → Nat) (r1 : Int32) (rfaultKindG_46 : Int32) (rfaultPlaceG_47 : Int32) (iv_cse_0 : ccodeCount ≤ 40) (iv_cse_1 : cones ≤ 20) (iv_rreader_0 : rlength ≤ 940) (iv_rreader_1 : rplace ≤ rlength) (iv_rreader_2 : rmostBytes ≤ 900) (iv_rreader_3 : rbegin ≤ 940) (hTC : TC bt rtapeF) (iv_a_4 : lumps ≤ 6) (hRT : RT bt rlength rmostBytes gp rkind rbegin rplace rword rnumber rletters) (hNL : NL gnu 0 lumps lumpNamesF) (hcc : ccodeCount ≤ 2 * cones) (p2 : r1 = rword) (c3 : rkind = nI 40) (c42 : 20 ≤ cones) (p49 : rfaultKindG_46 = (nI 4)) (p50 : rfaultPlaceG_47 = nI rbegin) : rfaultKindG_46 = nI (erA (sOne bt rlength rmostBytes gnu lumps 0 gp cones)) := by
  have k40 := RT_k hRT (c := 40) (by decide)
  have w3 := RT_w3 hRT
  have y40 : tK bt rlength rmostBytes gp = 40 := k40.mp (by first | rfl | assumption)
  have ys : sFst bt rlength rmostBytes gp := Or.inl y40
  rw [so_deep ys]
  assumption
set_option maxRecDepth 20000 in
theorem lf_f_sn19_20 (ccodeCount : Nat) (cones : Nat) (bt : Nat → Nat) (rlength : Nat) (rmostBytes : Nat) (rplace : Nat) (rkind : Int32) (rbegin : Nat) (rword : Int32) (rnumber : Int32) (rletters : Int64) (rtapeF : Nat → Int32) (lumps : Nat) (lumpNamesF : Nat → Int64) (gp : Nat) (gnu : Nat → Nat) (r1 : Int32) (rfaultPlaceG_47 : Int32) (iv_cse_0 : ccodeCount ≤ 40) (iv_cse_1 : cones ≤ 20) (iv_rreader_0 : rlength ≤ 940) (iv_rreader_1 : rplace ≤ rlength) (iv_rreader_2 : rmostBytes ≤ 900) (iv_rreader_3 : rbegin ≤ 940) (hTC : TC bt rtapeF) (iv_a_4 : lumps ≤ 6) (hRT : RT bt rlength rmostBytes gp rkind rbegin rplace rword rnumber rletters) (hNL : NL gnu 0 lumps lumpNamesF) (hcc : ccodeCount ≤ 2 * cones) (p2 : r1 = rword) (c3 : rkind = nI 40) (c42 : 20 ≤ cones) (p50 : rfaultPlaceG_47 = nI rbegin) : rfaultPlaceG_47 = nI (erB (sOne bt rlength rmostBytes gnu lumps 0 gp cones)) := by
  have k40 := RT_k hRT (c := 40) (by decide)
  have w3 := RT_w3 hRT
  have y40 : tK bt rlength rmostBytes gp = 40 := k40.mp (by first | rfl | assumption)
  have ys : sFst bt rlength rmostBytes gp := Or.inl y40
  rw [so_deep ys]
  exact (Eq.trans (by assumption : _ = nI rbegin) (congrArg nI hRT.2.1))
set_option maxRecDepth 20000 in
theorem lf_f_sn19_21   : (nI 0) = nI 0 := by
  try have k_0 := ia_n 0 (by first | decide | omega)
  try simp only [ia_lt, ia_le, ia_eq, ia_m1, ia_0, ia_1, ne_eq, true_and, and_true, false_and, and_false, or_false, false_or, or_true, true_or, not_true_eq_false, not_false_eq_true] at *
  all_goals omega
set_option maxRecDepth 20000 in
theorem lf_f_sn19_22 (ccodeCount : Nat) (cones : Nat) (bt : Nat → Nat) (rlength : Nat) (rmostBytes : Nat) (rplace : Nat) (rkind : Int32) (rbegin : Nat) (rword : Int32) (rnumber : Int32) (rletters : Int64) (rtapeF : Nat → Int32) (lumps : Nat) (lumpNamesF : Nat → Int64) (gp : Nat) (gnu : Nat → Nat) (r1 : Int32) (rfaultPlaceG_56 : Int32) (iv_cse_0 : ccodeCount ≤ 40) (iv_cse_1 : cones ≤ 20) (iv_rreader_0 : rlength ≤ 940) (iv_rreader_1 : rplace ≤ rlength) (iv_rreader_2 : rmostBytes ≤ 900) (iv_rreader_3 : rbegin ≤ 940) (hTC : TC bt rtapeF) (iv_a_4 : lumps ≤ 6) (hRT : RT bt rlength rmostBytes gp rkind rbegin rplace rword rnumber rletters) (hNL : NL gnu 0 lumps lumpNamesF) (hcc : ccodeCount ≤ 2 * cones) (p2 : r1 = rword) (c3 : rkind = nI 40) (c42 : cones < 20) (p59 : rfaultPlaceG_56 = nI rbegin) : isO (sOne bt rlength rmostBytes gnu lumps 0 gp cones) = false := by
  have k40 := RT_k hRT (c := 40) (by decide)
  have w3 := RT_w3 hRT
  have y40 : tK bt rlength rmostBytes gp = 40 := k40.mp (by first | rfl | assumption)
  have ys : sFst bt rlength rmostBytes gp := Or.inl y40
  rw [so_deep ys]
  exact rfl
set_option maxRecDepth 20000 in
theorem lf_f_sn19_23 (ccodeCount : Nat) (cones : Nat) (bt : Nat → Nat) (rlength : Nat) (rmostBytes : Nat) (rplace : Nat) (rkind : Int32) (rbegin : Nat) (rword : Int32) (rnumber : Int32) (rletters : Int64) (rtapeF : Nat → Int32) (lumps : Nat) (lumpNamesF : Nat → Int64) (gp : Nat) (gnu : Nat → Nat) (r1 : Int32) (rfaultKindG_55 : Int32) (rfaultPlaceG_56 : Int32) (iv_cse_0 : ccodeCount ≤ 40) (iv_cse_1 : cones ≤ 20) (iv_rreader_0 : rlength ≤ 940) (iv_rreader_1 : rplace ≤ rlength) (iv_rreader_2 : rmostBytes ≤ 900) (iv_rreader_3 : rbegin ≤ 940) (hTC : TC bt rtapeF) (iv_a_4 : lumps ≤ 6) (hRT : RT bt rlength rmostBytes gp rkind rbegin rplace rword rnumber rletters) (hNL : NL gnu 0 lumps lumpNamesF) (hcc : ccodeCount ≤ 2 * cones) (p2 : r1 = rword) (c3 : rkind = nI 40) (c42 : cones < 20) (p58 : rfaultKindG_55 = (nI 4)) (p59 : rfaultPlaceG_56 = nI rbegin) : rfaultKindG_55 = nI (erA (sOne bt rlength rmostBytes gnu lumps 0 gp cones)) := by
  have k40 := RT_k hRT (c := 40) (by decide)
  have w3 := RT_w3 hRT
  have y40 : tK bt rlength rmostBytes gp = 40 := k40.mp (by first | rfl | assumption)
  have ys : sFst bt rlength rmostBytes gp := Or.inl y40
  rw [so_deep ys]
  assumption
set_option maxRecDepth 20000 in
theorem lf_f_sn19_24 (ccodeCount : Nat) (cones : Nat) (bt : Nat → Nat) (rlength : Nat) (rmostBytes : Nat) (rplace : Nat) (rkind : Int32) (rbegin : Nat) (rword : Int32) (rnumber : Int32) (rletters : Int64) (rtapeF : Nat → Int32) (lumps : Nat) (lumpNamesF : Nat → Int64) (gp : Nat) (gnu : Nat → Nat) (r1 : Int32) (rfaultPlaceG_56 : Int32) (iv_cse_0 : ccodeCount ≤ 40) (iv_cse_1 : cones ≤ 20) (iv_rreader_0 : rlength ≤ 940) (iv_rreader_1 : rplace ≤ rlength) (iv_rreader_2 : rmostBytes ≤ 900) (iv_rreader_3 : rbegin ≤ 940) (hTC : TC bt rtapeF) (iv_a_4 : lumps ≤ 6) (hRT : RT bt rlength rmostBytes gp rkind rbegin rplace rword rnumber rletters) (hNL : NL gnu 0 lumps lumpNamesF) (hcc : ccodeCount ≤ 2 * cones) (p2 : r1 = rword) (c3 : rkind = nI 40) (c42 : cones < 20) (p59 : rfaultPlaceG_56 = nI rbegin) : rfaultPlaceG_56 = nI (erB (sOne bt rlength rmostBytes gnu lumps 0 gp cones)) := by
  have k40 := RT_k hRT (c := 40) (by decide)
  have w3 := RT_w3 hRT
  have y40 : tK bt rlength rmostBytes gp = 40 := k40.mp (by first | rfl | assumption)
  have ys : sFst bt rlength rmostBytes gp := Or.inl y40
  rw [so_deep ys]
  exact (Eq.trans (by assumption : _ = nI rbegin) (congrArg nI hRT.2.1))
set_option maxHeartbeats 4000000 in
set_option maxRecDepth 100000 in
theorem c_f_sn19 (l : Launch) (dC : Nat → ClassId) (dI : Nat → Nat → Nat) (ky : Nat → ClassId) (sz : Nat) (adK : Nat → Nat) (adV : Nat → Nat) (se : Nat) (ccodes : Nat) (ccodeCount : Nat) (cones : Nat) (ccodesF : Nat → Int32) (bt : Nat → Nat) (reader : Nat) (rtape : Nat) (rlength : Nat) (rmostBytes : Nat) (rplace : Nat) (rkind : Int32) (rbegin : Nat) (rword : Int32) (rnumber : Int32) (rletters : Int64) (rfaultKind : Int32) (rfaultPlace : Int32) (rtapeF : Nat → Int32) (a : Nat) (wide : Nat) (high : Nat) (heat : Int32) (cools : Int32) (skinHeat : Int32) (today : Int32) (stirs : Int32) (steps : Int32) (lumps : Nat) (boats : Nat) (thickness : Nat) (lumpNames : Nat) (lumpCells : Nat) (boatNames : Nat) (boatCells : Nat) (loads : Nat) (spoons : Nat) (spoonsLeft : Nat) (depths : Nat) (lumpNamesF : Nat → Int64) (gp : Nat) (gnu : Nat → Nat) (iv_cse_0 : ccodeCount ≤ 40) (iv_cse_1 : cones ≤ 20) (iv_rreader_0 : rlength ≤ 940) (iv_rreader_1 : rplace ≤ rlength) (iv_rreader_2 : rmostBytes ≤ 900) (iv_rreader_3 : rbegin ≤ 940) (hTC : TC bt rtapeF) (iv_a_0 : 2 ≤ wide) (iv_a_1 : wide ≤ 6) (iv_a_2 : 2 ≤ high) (iv_a_3 : high ≤ 6) (iv_a_4 : lumps ≤ 6) (iv_a_5 : boats ≤ 6) (hRT : RT bt rlength rmostBytes gp rkind rbegin rplace rword rnumber rletters) (hNL : NL gnu 0 lumps lumpNamesF) (hcc : ccodeCount ≤ 2 * cones) : Met l yX9_readOne wsX9_readOne ({ frames := 2, cells := 0, slots := 0, locals := 43 }) (PcUE dC dI ky adK adV [.ref se, .ref reader, .ref a, .int (nI 9)] [(se, .inr (9, [.ref ccodes, .int (nI ccodeCount), .int (nI cones)])), (ccodes, .inl (ky 0, 40, .inl ccodesF)), (reader, .inr (5, [.ref rtape, .int (nI rlength), .int (nI rmostBytes), .int (nI rplace), .int rkind, .int (nI rbegin), .int rword, .int rnumber, .long rletters, .int rfaultKind, .int rfaultPlace])), (rtape, .inl (ky 2, 940, .inl rtapeF)), (a, .inr (7, [.int (nI wide), .int (nI high), .int heat, .int cools, .int skinHeat, .int today, .int stirs, .int steps, .int (nI lumps), .int (nI boats), .ref thickness, .ref lumpNames, .ref lumpCells, .ref boatNames, .ref boatCells, .ref loads, .ref spoons, .ref spoonsLeft, .ref depths])), (lumpNames, .inl (ky 1, 6, .inr (.inl lumpNamesF)))] sz) (va_Qi (fun (r : Int32) (u : Int32 × Int32) => match u with | (rfaultKindG, rfaultPlaceG) => (r = nI 0) ∧ (isO (sOne bt rlength rmostBytes gnu lumps 0 gp cones) = false) ∧ (rfaultKindG = nI (erA (sOne bt rlength rmostBytes gnu lumps 0 gp cones))) ∧ (rfaultPlaceG = nI (erB (sOne bt rlength rmostBytes gnu lumps 0 gp cones)))) (BU dC dI ky (fun (u : Int32 × Int32) => match u with | (rfaultKindG, rfaultPlaceG) => [(se, .inr (9, [.ref ccodes, .int (nI ccodeCount), .int (nI cones)])), (ccodes, .inl (ky 0, 40, .inl ccodesF)), (reader, .inr (5, [.ref rtape, .int (nI rlength), .int (nI rmostBytes), .int (nI rplace), .int rkind, .int (nI rbegin), .int rword, .int rnumber, .long rletters, .int rfaultKindG, .int rfaultPlaceG])), (rtape, .inl (ky 2, 940, .inl rtapeF)), (a, .inr (7, [.int (nI wide), .int (nI high), .int heat, .int cools, .int skinHeat, .int today, .int stirs, .int steps, .int (nI lumps), .int (nI boats), .ref thickness, .ref lumpNames, .ref lumpCells, .ref boatNames, .ref boatCells, .ref loads, .ref spoons, .ref spoonsLeft, .ref depths])), (lumpNames, .inl (ky 1, 6, .inr (.inl lumpNamesF)))]) (va_A [(se, .inr (9, [.ref ccodes, .int (nI ccodeCount), .int (nI cones)])), (ccodes, .inl (ky 0, 40, .inl ccodesF)), (reader, .inr (5, [.ref rtape, .int (nI rlength), .int (nI rmostBytes), .int (nI rplace), .int rkind, .int (nI rbegin), .int rword, .int rnumber, .long rletters, .int rfaultKind, .int rfaultPlace])), (rtape, .inl (ky 2, 940, .inl rtapeF)), (a, .inr (7, [.int (nI wide), .int (nI high), .int heat, .int cools, .int skinHeat, .int today, .int stirs, .int steps, .int (nI lumps), .int (nI boats), .ref thickness, .ref lumpNames, .ref lumpCells, .ref boatNames, .ref boatCells, .ref loads, .ref spoons, .ref spoonsLeft, .ref depths])), (lumpNames, .inl (ky 1, 6, .inr (.inl lumpNamesF)))] sz)) (va_A [(se, .inr (9, [.ref ccodes, .int (nI ccodeCount), .int (nI cones)])), (ccodes, .inl (ky 0, 40, .inl ccodesF)), (reader, .inr (5, [.ref rtape, .int (nI rlength), .int (nI rmostBytes), .int (nI rplace), .int rkind, .int (nI rbegin), .int rword, .int rnumber, .long rletters, .int rfaultKind, .int rfaultPlace])), (rtape, .inl (ky 2, 940, .inl rtapeF)), (a, .inr (7, [.int (nI wide), .int (nI high), .int heat, .int cools, .int skinHeat, .int today, .int stirs, .int steps, .int (nI lumps), .int (nI boats), .ref thickness, .ref lumpNames, .ref lumpCells, .ref boatNames, .ref boatCells, .ref loads, .ref spoons, .ref spoonsLeft, .ref depths])), (lumpNames, .inl (ky 1, 6, .inr (.inl lumpNamesF)))] sz)) 0 0 (va_A [(se, .inr (9, [.ref ccodes, .int (nI ccodeCount), .int (nI cones)])), (ccodes, .inl (ky 0, 40, .inl ccodesF)), (reader, .inr (5, [.ref rtape, .int (nI rlength), .int (nI rmostBytes), .int (nI rplace), .int rkind, .int (nI rbegin), .int rword, .int rnumber, .long rletters, .int rfaultKind, .int rfaultPlace])), (rtape, .inl (ky 2, 940, .inl rtapeF)), (a, .inr (7, [.int (nI wide), .int (nI high), .int heat, .int cools, .int skinHeat, .int today, .int stirs, .int steps, .int (nI lumps), .int (nI boats), .ref thickness, .ref lumpNames, .ref lumpCells, .ref boatNames, .ref boatCells, .ref loads, .ref spoons, .ref spoonsLeft, .ref depths])), (lumpNames, .inl (ky 1, 6, .inr (.inl lumpNamesF)))] sz) := by
  refine Met.ofW (cc := cX9_readOne) (maxL := 6) (ret := (some .boolean)) (by decide) rfl ?_
  intro p e s m args below meth c s₁ B hml hv
  obtain ⟨rfl, hsz, hP, hK, hD0, hE⟩ := hv
  have hx := B.exec
  have hb := B.bytes
  have hr := B.returns
  have hts := atoms_spec (ws := wsX9_readOne) B.pre
  have hown : s.vm.findClass RX9 = some m.cls := findClass_of_methodNamed B.named
  have hlocks := B.notSynchronized
  have hin5 : ∀ w ∈ u_ws RX5 TX5 11, w ∈ wsX9_readOne := by decide +kernel
  have hin9 : ∀ w ∈ u_ws RX9 TX9 3, w ∈ wsX9_readOne := by decide +kernel
  subst hsz
  have hD := hD0.self (sz := s.heap.size)
  generalize hAe : va_A [(se, .inr (9, [.ref ccodes, .int (nI ccodeCount), .int (nI cones)])), (ccodes, .inl (ky 0, 40, .inl ccodesF)), (reader, .inr (5, [.ref rtape, .int (nI rlength), .int (nI rmostBytes), .int (nI rplace), .int rkind, .int (nI rbegin), .int rword, .int rnumber, .long rletters, .int rfaultKind, .int rfaultPlace])), (rtape, .inl (ky 2, 940, .inl rtapeF)), (a, .inr (7, [.int (nI wide), .int (nI high), .int heat, .int cools, .int skinHeat, .int today, .int stirs, .int steps, .int (nI lumps), .int (nI boats), .ref thickness, .ref lumpNames, .ref lumpCells, .ref boatNames, .ref boatCells, .ref loads, .ref spoons, .ref spoonsLeft, .ref depths])), (lumpNames, .inl (ky 1, 6, .inr (.inl lumpNamesF)))] s.heap.size = A at hD hE ⊢
  have hA : ∀ q : Nat, s.heap.size ≤ q → A q := fun q h => by rw [← hAe]; exact Or.inr h
  have hS : va_S A s.heap s.heap [] := va_S.rf
  have hl := lv_entry ([.ref se, .ref reader, .ref a, .int (nI 9)]) (n := 6) (Nat.le_of_ble_eq_true rfl)
  rw [lg_entry_eq]
  generalize (lg_sl ([.ref se, .ref reader, .ref a, .int (nI 9)]) ++ List.replicate (6 - (lg_sl ([.ref se, .ref reader, .ref a, .int (nI 9)])).length) Slot.unset).toArray = ls at hl ⊢
  have hl : lv_has ls 6 [(0, .ref se), (1, .ref reader), (2, .ref a), (3, .int (nI 9))] := hl
  refine q_name (fun Q hQ => ?_)
  generalize ([.ref se, .ref reader, .ref a, .int (nI 9)] : List Value).toArray = args at hts hQ ⊢
  refine lv_aload_n hx hb dX9_readOne_0 rfl (lv_at hl 1 rfl) ?_
  refine vp_callSi (W.runV (As := []) (rest := []) ⟨hx, hb, hml, hown, hts⟩ (c_f_nextWord l dC dI ky reader rtape rlength rmostBytes rplace rkind rbegin rword rnumber rletters rfaultKind rfaultPlace iv_rreader_0 iv_rreader_1 iv_rreader_2 iv_rreader_3) (cwV 0 hts gX9_readOne_X5_nextWord rfl rfl rfl (by decide +kernel) ⟨(Nat.le_of_ble_eq_true rfl), (Nat.le_of_ble_eq_true rfl)⟩) (pre_PV hK hP [2] rfl (ci := 5) (q0 := 2) rfl rfl) rfl rfl hl.1 rfl (lv_room (Nat.le_of_ble_eq_true rfl)) dX9_readOne_1 ⟨(Nat.le_of_ble_eq_true rfl), (Nat.le_of_ble_eq_true rfl)⟩) (fun r1 p2 => ?_)
  refine lv_istore (lv' := [(4, .int r1), (0, .ref se), (1, .ref reader), (2, .ref a), (3, .int (nI 9))]) hx hb dX9_readOne_4 hl (by decide) rfl (fun ls hl => ?_)
  refine lv_aload_n hx hb dX9_readOne_6 rfl (lv_at hl 2 rfl) ?_
  refine va_get (D := (dC, dI)) (ci := 5) (v := .int rkind) (C := RX5) (T := TX5) (N := 11) hx hb hts hin5 hown hK hP 2 rfl rfl 4 (by decide) (hts (.fieldLink RX9 35 "PorridgeSea$Reader" "kind" "I") (List.mem_of_getElem? (i := 1) rfl)) (fun _ h9 => h9) rfl dX9_readOne_7 ?_
  refine lv_bipush (v := nI 40) hx hb dX9_readOne_10 (by decide) ?_
  refine lv_icmp_ne (tgt := 19) hx hb dX9_readOne_12 (by decide) (fun c3 => ?_) (fun c3 => ?_)
  · refine lv_iconst (v := nI 0) hx hb dX9_readOne_19 (by decide) ?_
    refine lv_istore (lv' := [(5, .int (nI 0)), (4, .int r1), (0, .ref se), (1, .ref reader), (2, .ref a), (3, .int (nI 9))]) hx hb dX9_readOne_20 hl (by decide) rfl (fun ls hl => ?_)
    refine lv_iload hx hb dX9_readOne_22 (lv_at hl 0 rfl) ?_
    refine lv_if_ne (tgt := 47) hx hb dX9_readOne_24 (by decide) (fun c4 => absurd c4 (by decide)) (fun c4 => ?_)
    refine lv_iload hx hb dX9_readOne_27 (lv_at hl 1 rfl) ?_
    refine lv_bipush (v := nI 22) hx hb dX9_readOne_29 (by decide) ?_
    refine lv_icmp_lt (tgt := 41) hx hb dX9_readOne_31 (by decide) (fun c5 => ?_) (fun c5 => ?_)
    · refine lv_aload_n hx hb dX9_readOne_41 rfl (lv_at hl 3 rfl) ?_
      refine lv_iconst (v := nI 1) hx hb dX9_readOne_42 (by decide) ?_
      refine r_call_i (wr := [(se, .inr (9, [.ref ccodes, .int (nI ccodeCount), .int (nI cones)])), (ccodes, .inl (ky 0, 40, .inl ccodesF)), (rtape, .inl (ky 2, 940, .inl rtapeF)), (a, .inr (7, [.int (nI wide), .int (nI high), .int heat, .int cools, .int skinHeat, .int today, .int stirs, .int steps, .int (nI lumps), .int (nI boats), .ref thickness, .ref lumpNames, .ref lumpCells, .ref boatNames, .ref boatCells, .ref loads, .ref spoons, .ref spoonsLeft, .ref depths])), (lumpNames, .inl (ky 1, 6, .inr (.inl lumpNamesF)))]) (va_runV (As := [.int (nI 1)]) (rest := []) ⟨hx, hb, hml, hown, hts⟩ (c_f_refuse l dC dI ky s.heap.size reader rtape rlength rmostBytes rplace rkind rbegin rword rnumber rletters rfaultKind rfaultPlace (nI 1) iv_rreader_0 iv_rreader_1 iv_rreader_2 iv_rreader_3) (cwV 1 hts gX9_readOne_X5_refuse rfl rfl rfl (by decide +kernel) ⟨(Nat.le_of_ble_eq_true rfl), (Nat.le_of_ble_eq_true rfl)⟩) (pre_UV hK hP hD [2] (by decide) rfl (ci := 5) (q0 := 2) rfl rfl) rfl rfl hl.1 rfl (lv_room (Nat.le_of_ble_eq_true rfl)) dX9_readOne_43 ⟨(Nat.le_of_ble_eq_true rfl), (Nat.le_of_ble_eq_true rfl)⟩) hP hD hS hA [2] [0, 1, 3, 4, 5] rfl rfl (by decide) (by decide) (fun r8 u6 H locs p7 hP hD hS => ?_)
      obtain ⟨rfaultKindG_9, rfaultPlaceG_10⟩ := u6
      try dsimp only at p7
      obtain ⟨p11, p12, p13⟩ := p7
      refine W.widen (k := 0) (n := 0) (Nat.le_of_ble_eq_true rfl) (Nat.le_of_ble_eq_true rfl) ?_
      have hP : va_P (dC, dI) vwCl [(se, .inr (9, [.ref ccodes, .int (nI ccodeCount), .int (nI cones)])), (ccodes, .inl (ky 0, 40, .inl ccodesF)), (rtape, .inl (ky 2, 940, .inl rtapeF)), (a, .inr (7, [.int (nI wide), .int (nI high), .int heat, .int cools, .int skinHeat, .int today, .int stirs, .int steps, .int (nI lumps), .int (nI boats), .ref thickness, .ref lumpNames, .ref lumpCells, .ref boatNames, .ref boatCells, .ref loads, .ref spoons, .ref spoonsLeft, .ref depths])), (lumpNames, .inl (ky 1, 6, .inr (.inl lumpNamesF))), (reader, .inr (5, [.ref rtape, .int (nI rlength), .int (nI rmostBytes), .int (nI rplace), .int rkind, .int (nI rbegin), .int rword, .int rnumber, .long rletters, .int rfaultKindG_9, .int rfaultPlaceG_10]))] H := hP
      have hD : va_D A [(se, .inr (9, [.ref ccodes, .int (nI ccodeCount), .int (nI cones)])), (ccodes, .inl (ky 0, 40, .inl ccodesF)), (rtape, .inl (ky 2, 940, .inl rtapeF)), (a, .inr (7, [.int (nI wide), .int (nI high), .int heat, .int cools, .int skinHeat, .int today, .int stirs, .int steps, .int (nI lumps), .int (nI boats), .ref thickness, .ref lumpNames, .ref lumpCells, .ref boatNames, .ref boatCells, .ref loads, .ref spoons, .ref spoonsLeft, .ref depths])), (lumpNames, .inl (ky 1, 6, .inr (.inl lumpNamesF))), (reader, .inr (5, [.ref rtape, .int (nI rlength), .int (nI rmostBytes), .int (nI rplace), .int rkind, .int (nI rbegin), .int rword, .int rnumber, .long rletters, .int rfaultKindG_9, .int rfaultPlaceG_10]))] := hD
      subst p11
      rw [hQ]
      have hP9 := hP.sub (ws' := [(se, .inr (9, [.ref ccodes, .int (nI ccodeCount), .int (nI cones)])), (ccodes, .inl (ky 0, 40, .inl ccodesF)), (reader, .inr (5, [.ref rtape, .int (nI rlength), .int (nI rmostBytes), .int (nI rplace), .int rkind, .int (nI rbegin), .int rword, .int rnumber, .long rletters, .int rfaultKindG_9, .int rfaultPlaceG_10])), (rtape, .inl (ky 2, 940, .inl rtapeF)), (a, .inr (7, [.int (nI wide), .int (nI high), .int heat, .int cools, .int skinHeat, .int today, .int stirs, .int steps, .int (nI lumps), .int (nI boats), .ref thickness, .ref lumpNames, .ref lumpCells, .ref boatNames, .ref boatCells, .ref loads, .ref spoons, .ref spoonsLeft, .ref depths])), (lumpNames, .inl (ky 1, 6, .inr (.inl lumpNamesF)))]) [0, 1, 5, 2, 3, 4] rfl
      have hD9 := hD.sub (ws' := [(se, .inr (9, [.ref ccodes, .int (nI ccodeCount), .int (nI cones)])), (ccodes, .inl (ky 0, 40, .inl ccodesF)), (reader, .inr (5, [.ref rtape, .int (nI rlength), .int (nI rmostBytes), .int (nI rplace), .int rkind, .int (nI rbegin), .int rword, .int rnumber, .long rletters, .int rfaultKindG_9, .int rfaultPlaceG_10])), (rtape, .inl (ky 2, 940, .inl rtapeF)), (a, .inr (7, [.int (nI wide), .int (nI high), .int heat, .int cools, .int skinHeat, .int today, .int stirs, .int steps, .int (nI lumps), .int (nI boats), .ref thickness, .ref lumpNames, .ref lumpCells, .ref boatNames, .ref boatCells, .ref loads, .ref spoons, .ref spoonsLeft, .ref depths])), (lumpNames, .inl (ky 1, 6, .inr (.inl lumpNamesF)))]) [0, 1, 5, 2, 3, 4] (by decide) rfl
      exact W.zret (v := nI 0) hx hb hr (by decide) (fun t9 ht9 hW9 => ⟨⟨nI 0, (rfaultKindG_9, rfaultPlaceG_10), rfl, ⟨(lf_f_sn19_1), (lf_f_sn19_2 ccodeCount cones bt rlength rmostBytes rplace rkind rbegin rword rnumber rletters rtapeF lumps lumpNamesF gp gnu r1 rfaultPlaceG_10 iv_cse_0 iv_cse_1 iv_rreader_0 iv_rreader_1 iv_rreader_2 iv_rreader_3 hTC iv_a_4 hRT hNL hcc p2 c3 c5 p13), (lf_f_sn19_3 ccodeCount cones bt rlength rmostBytes rplace rkind rbegin rword rnumber rletters rtapeF lumps lumpNamesF gp gnu r1 rfaultKindG_9 rfaultPlaceG_10 iv_cse_0 iv_cse_1 iv_rreader_0 iv_rreader_1 iv_rreader_2 iv_rreader_3 hTC iv_a_4 hRT hNL hcc p2 c3 c5 p12 p13), (lf_f_sn19_4 ccodeCount cones bt rlength rmostBytes rplace rkind rbegin rword rnumber rletters rtapeF lumps lumpNamesF gp gnu r1 rfaultPlaceG_10 iv_cse_0 iv_cse_1 iv_rreader_0 iv_rreader_1 iv_rreader_2 iv_rreader_3 hTC iv_a_4 hRT hNL hcc p2 c3 c5 p13)⟩, by rw [ht9]; exact hP9, va_K.moved hW9.alike hK, hD9⟩, hS.F ht9⟩) hS.2.2 dX9_readOne_46
    · refine lv_iload hx hb dX9_readOne_34 (lv_at hl 1 rfl) ?_
      refine lv_bipush (v := nI 30) hx hb dX9_readOne_36 (by decide) ?_
      refine lv_icmp_le (tgt := 47) hx hb dX9_readOne_38 (by decide) (fun c14 => ?_) (fun c14 => ?_)
      · refine lv_aload_n hx hb dX9_readOne_47 rfl (lv_at hl 2 rfl) ?_
        refine va_get (D := (dC, dI)) (ci := 9) (v := .int (nI cones)) (C := RX9) (T := TX9) (N := 3) hx hb hts hin9 hown hK hP 0 rfl rfl 2 (by decide) (hts (.fieldLink RX9 19 "PorridgeSea$Sentence" "ones" "I") (List.mem_of_getElem? (i := 2) rfl)) (fun _ h9 => h9) rfl dX9_readOne_48 ?_
        refine lv_bipush (v := nI 20) hx hb dX9_readOne_51 (by decide) ?_
        refine n_icmp_ge (x := cones) (y := 20) (tgt := 62) hx hb (by omega) (by omega) dX9_readOne_53 (by decide) (fun c15 => ?_) (fun c15 => ?_)
        · refine lv_aload_n hx hb dX9_readOne_62 rfl (lv_at hl 3 rfl) ?_
          refine lv_iconst (v := nI 4) hx hb dX9_readOne_63 (by decide) ?_
          refine r_call_i (wr := [(se, .inr (9, [.ref ccodes, .int (nI ccodeCount), .int (nI cones)])), (ccodes, .inl (ky 0, 40, .inl ccodesF)), (rtape, .inl (ky 2, 940, .inl rtapeF)), (a, .inr (7, [.int (nI wide), .int (nI high), .int heat, .int cools, .int skinHeat, .int today, .int stirs, .int steps, .int (nI lumps), .int (nI boats), .ref thickness, .ref lumpNames, .ref lumpCells, .ref boatNames, .ref boatCells, .ref loads, .ref spoons, .ref spoonsLeft, .ref depths])), (lumpNames, .inl (ky 1, 6, .inr (.inl lumpNamesF)))]) (va_runV (As := [.int (nI 4)]) (rest := []) ⟨hx, hb, hml, hown, hts⟩ (c_f_refuse l dC dI ky s.heap.size reader rtape rlength rmostBytes rplace rkind rbegin rword rnumber rletters rfaultKind rfaultPlace (nI 4) iv_rreader_0 iv_rreader_1 iv_rreader_2 iv_rreader_3) (cwV 1 hts gX9_readOne_X5_refuse rfl rfl rfl (by decide +kernel) ⟨(Nat.le_of_ble_eq_true rfl), (Nat.le_of_ble_eq_true rfl)⟩) (pre_UV hK hP hD [2] (by decide) rfl (ci := 5) (q0 := 2) rfl rfl) rfl rfl hl.1 rfl (lv_room (Nat.le_of_ble_eq_true rfl)) dX9_readOne_64 ⟨(Nat.le_of_ble_eq_true rfl), (Nat.le_of_ble_eq_true rfl)⟩) hP hD hS hA [2] [0, 1, 3, 4, 5] rfl rfl (by decide) (by decide) (fun r18 u16 H locs p17 hP hD hS => ?_)
          obtain ⟨rfaultKindG_19, rfaultPlaceG_20⟩ := u16
          try dsimp only at p17
          obtain ⟨p21, p22, p23⟩ := p17
          refine W.widen (k := 0) (n := 0) (Nat.le_of_ble_eq_true rfl) (Nat.le_of_ble_eq_true rfl) ?_
          have hP : va_P (dC, dI) vwCl [(se, .inr (9, [.ref ccodes, .int (nI ccodeCount), .int (nI cones)])), (ccodes, .inl (ky 0, 40, .inl ccodesF)), (rtape, .inl (ky 2, 940, .inl rtapeF)), (a, .inr (7, [.int (nI wide), .int (nI high), .int heat, .int cools, .int skinHeat, .int today, .int stirs, .int steps, .int (nI lumps), .int (nI boats), .ref thickness, .ref lumpNames, .ref lumpCells, .ref boatNames, .ref boatCells, .ref loads, .ref spoons, .ref spoonsLeft, .ref depths])), (lumpNames, .inl (ky 1, 6, .inr (.inl lumpNamesF))), (reader, .inr (5, [.ref rtape, .int (nI rlength), .int (nI rmostBytes), .int (nI rplace), .int rkind, .int (nI rbegin), .int rword, .int rnumber, .long rletters, .int rfaultKindG_19, .int rfaultPlaceG_20]))] H := hP
          have hD : va_D A [(se, .inr (9, [.ref ccodes, .int (nI ccodeCount), .int (nI cones)])), (ccodes, .inl (ky 0, 40, .inl ccodesF)), (rtape, .inl (ky 2, 940, .inl rtapeF)), (a, .inr (7, [.int (nI wide), .int (nI high), .int heat, .int cools, .int skinHeat, .int today, .int stirs, .int steps, .int (nI lumps), .int (nI boats), .ref thickness, .ref lumpNames, .ref lumpCells, .ref boatNames, .ref boatCells, .ref loads, .ref spoons, .ref spoonsLeft, .ref depths])), (lumpNames, .inl (ky 1, 6, .inr (.inl lumpNamesF))), (reader, .inr (5, [.ref rtape, .int (nI rlength), .int (nI rmostBytes), .int (nI rplace), .int rkind, .int (nI rbegin), .int rword, .int rnumber, .long rletters, .int rfaultKindG_19, .int rfaultPlaceG_20]))] := hD
          subst p21
          rw [hQ]
          have hP9 := hP.sub (ws' := [(se, .inr (9, [.ref ccodes, .int (nI ccodeCount), .int (nI cones)])), (ccodes, .inl (ky 0, 40, .inl ccodesF)), (reader, .inr (5, [.ref rtape, .int (nI rlength), .int (nI rmostBytes), .int (nI rplace), .int rkind, .int (nI rbegin), .int rword, .int rnumber, .long rletters, .int rfaultKindG_19, .int rfaultPlaceG_20])), (rtape, .inl (ky 2, 940, .inl rtapeF)), (a, .inr (7, [.int (nI wide), .int (nI high), .int heat, .int cools, .int skinHeat, .int today, .int stirs, .int steps, .int (nI lumps), .int (nI boats), .ref thickness, .ref lumpNames, .ref lumpCells, .ref boatNames, .ref boatCells, .ref loads, .ref spoons, .ref spoonsLeft, .ref depths])), (lumpNames, .inl (ky 1, 6, .inr (.inl lumpNamesF)))]) [0, 1, 5, 2, 3, 4] rfl
          have hD9 := hD.sub (ws' := [(se, .inr (9, [.ref ccodes, .int (nI ccodeCount), .int (nI cones)])), (ccodes, .inl (ky 0, 40, .inl ccodesF)), (reader, .inr (5, [.ref rtape, .int (nI rlength), .int (nI rmostBytes), .int (nI rplace), .int rkind, .int (nI rbegin), .int rword, .int rnumber, .long rletters, .int rfaultKindG_19, .int rfaultPlaceG_20])), (rtape, .inl (ky 2, 940, .inl rtapeF)), (a, .inr (7, [.int (nI wide), .int (nI high), .int heat, .int cools, .int skinHeat, .int today, .int stirs, .int steps, .int (nI lumps), .int (nI boats), .ref thickness, .ref lumpNames, .ref lumpCells, .ref boatNames, .ref boatCells, .ref loads, .ref spoons, .ref spoonsLeft, .ref depths])), (lumpNames, .inl (ky 1, 6, .inr (.inl lumpNamesF)))]) [0, 1, 5, 2, 3, 4] (by decide) rfl
          exact W.zret (v := nI 0) hx hb hr (by decide) (fun t9 ht9 hW9 => ⟨⟨nI 0, (rfaultKindG_19, rfaultPlaceG_20), rfl, ⟨(lf_f_sn19_5), (lf_f_sn19_6 ccodeCount cones bt rlength rmostBytes rplace rkind rbegin rword rnumber rletters rtapeF lumps lumpNamesF gp gnu r1 rfaultPlaceG_20 iv_cse_0 iv_cse_1 iv_rreader_0 iv_rreader_1 iv_rreader_2 iv_rreader_3 hTC iv_a_4 hRT hNL hcc p2 c3 c5 c14 c15 p23), (lf_f_sn19_7 ccodeCount cones bt rlength rmostBytes rplace rkind rbegin rword rnumber rletters rtapeF lumps lumpNamesF gp gnu r1 rfaultKindG_19 rfaultPlaceG_20 iv_cse_0 iv_cse_1 iv_rreader_0 iv_rreader_1 iv_rreader_2 iv_rreader_3 hTC iv_a_4 hRT hNL hcc p2 c3 c5 c14 c15 p22 p23), (lf_f_sn19_8 ccodeCount cones bt rlength rmostBytes rplace rkind rbegin rword rnumber rletters rtapeF lumps lumpNamesF gp gnu r1 rfaultPlaceG_20 iv_cse_0 iv_cse_1 iv_rreader_0 iv_rreader_1 iv_rreader_2 iv_rreader_3 hTC iv_a_4 hRT hNL hcc p2 c3 c5 c14 c15 p23)⟩, by rw [ht9]; exact hP9, va_K.moved hW9.alike hK, hD9⟩, hS.F ht9⟩) hS.2.2 dX9_readOne_67
        · refine lv_iload_n hx hb dX9_readOne_56 rfl (lv_at hl 5 rfl) ?_
          refine lv_bipush (v := nI 8) hx hb dX9_readOne_57 (by decide) ?_
          refine lv_icmp_le (tgt := 68) hx hb dX9_readOne_59 (by decide) (fun c24 => absurd c24 (by decide)) (fun c24 => ?_)
          refine lv_aload_n hx hb dX9_readOne_62 rfl (lv_at hl 3 rfl) ?_
          refine lv_iconst (v := nI 4) hx hb dX9_readOne_63 (by decide) ?_
          refine r_call_i (wr := [(se, .inr (9, [.ref ccodes, .int (nI ccodeCount), .int (nI cones)])), (ccodes, .inl (ky 0, 40, .inl ccodesF)), (rtape, .inl (ky 2, 940, .inl rtapeF)), (a, .inr (7, [.int (nI wide), .int (nI high), .int heat, .int cools, .int skinHeat, .int today, .int stirs, .int steps, .int (nI lumps), .int (nI boats), .ref thickness, .ref lumpNames, .ref lumpCells, .ref boatNames, .ref boatCells, .ref loads, .ref spoons, .ref spoonsLeft, .ref depths])), (lumpNames, .inl (ky 1, 6, .inr (.inl lumpNamesF)))]) (va_runV (As := [.int (nI 4)]) (rest := []) ⟨hx, hb, hml, hown, hts⟩ (c_f_refuse l dC dI ky s.heap.size reader rtape rlength rmostBytes rplace rkind rbegin rword rnumber rletters rfaultKind rfaultPlace (nI 4) iv_rreader_0 iv_rreader_1 iv_rreader_2 iv_rreader_3) (cwV 1 hts gX9_readOne_X5_refuse rfl rfl rfl (by decide +kernel) ⟨(Nat.le_of_ble_eq_true rfl), (Nat.le_of_ble_eq_true rfl)⟩) (pre_UV hK hP hD [2] (by decide) rfl (ci := 5) (q0 := 2) rfl rfl) rfl rfl hl.1 rfl (lv_room (Nat.le_of_ble_eq_true rfl)) dX9_readOne_64 ⟨(Nat.le_of_ble_eq_true rfl), (Nat.le_of_ble_eq_true rfl)⟩) hP hD hS hA [2] [0, 1, 3, 4, 5] rfl rfl (by decide) (by decide) (fun r27 u25 H locs p26 hP hD hS => ?_)
          obtain ⟨rfaultKindG_28, rfaultPlaceG_29⟩ := u25
          try dsimp only at p26
          obtain ⟨p30, p31, p32⟩ := p26
          refine W.widen (k := 0) (n := 0) (Nat.le_of_ble_eq_true rfl) (Nat.le_of_ble_eq_true rfl) ?_
          have hP : va_P (dC, dI) vwCl [(se, .inr (9, [.ref ccodes, .int (nI ccodeCount), .int (nI cones)])), (ccodes, .inl (ky 0, 40, .inl ccodesF)), (rtape, .inl (ky 2, 940, .inl rtapeF)), (a, .inr (7, [.int (nI wide), .int (nI high), .int heat, .int cools, .int skinHeat, .int today, .int stirs, .int steps, .int (nI lumps), .int (nI boats), .ref thickness, .ref lumpNames, .ref lumpCells, .ref boatNames, .ref boatCells, .ref loads, .ref spoons, .ref spoonsLeft, .ref depths])), (lumpNames, .inl (ky 1, 6, .inr (.inl lumpNamesF))), (reader, .inr (5, [.ref rtape, .int (nI rlength), .int (nI rmostBytes), .int (nI rplace), .int rkind, .int (nI rbegin), .int rword, .int rnumber, .long rletters, .int rfaultKindG_28, .int rfaultPlaceG_29]))] H := hP
          have hD : va_D A [(se, .inr (9, [.ref ccodes, .int (nI ccodeCount), .int (nI cones)])), (ccodes, .inl (ky 0, 40, .inl ccodesF)), (rtape, .inl (ky 2, 940, .inl rtapeF)), (a, .inr (7, [.int (nI wide), .int (nI high), .int heat, .int cools, .int skinHeat, .int today, .int stirs, .int steps, .int (nI lumps), .int (nI boats), .ref thickness, .ref lumpNames, .ref lumpCells, .ref boatNames, .ref boatCells, .ref loads, .ref spoons, .ref spoonsLeft, .ref depths])), (lumpNames, .inl (ky 1, 6, .inr (.inl lumpNamesF))), (reader, .inr (5, [.ref rtape, .int (nI rlength), .int (nI rmostBytes), .int (nI rplace), .int rkind, .int (nI rbegin), .int rword, .int rnumber, .long rletters, .int rfaultKindG_28, .int rfaultPlaceG_29]))] := hD
          subst p30
          rw [hQ]
          have hP9 := hP.sub (ws' := [(se, .inr (9, [.ref ccodes, .int (nI ccodeCount), .int (nI cones)])), (ccodes, .inl (ky 0, 40, .inl ccodesF)), (reader, .inr (5, [.ref rtape, .int (nI rlength), .int (nI rmostBytes), .int (nI rplace), .int rkind, .int (nI rbegin), .int rword, .int rnumber, .long rletters, .int rfaultKindG_28, .int rfaultPlaceG_29])), (rtape, .inl (ky 2, 940, .inl rtapeF)), (a, .inr (7, [.int (nI wide), .int (nI high), .int heat, .int cools, .int skinHeat, .int today, .int stirs, .int steps, .int (nI lumps), .int (nI boats), .ref thickness, .ref lumpNames, .ref lumpCells, .ref boatNames, .ref boatCells, .ref loads, .ref spoons, .ref spoonsLeft, .ref depths])), (lumpNames, .inl (ky 1, 6, .inr (.inl lumpNamesF)))]) [0, 1, 5, 2, 3, 4] rfl
          have hD9 := hD.sub (ws' := [(se, .inr (9, [.ref ccodes, .int (nI ccodeCount), .int (nI cones)])), (ccodes, .inl (ky 0, 40, .inl ccodesF)), (reader, .inr (5, [.ref rtape, .int (nI rlength), .int (nI rmostBytes), .int (nI rplace), .int rkind, .int (nI rbegin), .int rword, .int rnumber, .long rletters, .int rfaultKindG_28, .int rfaultPlaceG_29])), (rtape, .inl (ky 2, 940, .inl rtapeF)), (a, .inr (7, [.int (nI wide), .int (nI high), .int heat, .int cools, .int skinHeat, .int today, .int stirs, .int steps, .int (nI lumps), .int (nI boats), .ref thickness, .ref lumpNames, .ref lumpCells, .ref boatNames, .ref boatCells, .ref loads, .ref spoons, .ref spoonsLeft, .ref depths])), (lumpNames, .inl (ky 1, 6, .inr (.inl lumpNamesF)))]) [0, 1, 5, 2, 3, 4] (by decide) rfl
          exact W.zret (v := nI 0) hx hb hr (by decide) (fun t9 ht9 hW9 => ⟨⟨nI 0, (rfaultKindG_28, rfaultPlaceG_29), rfl, ⟨(lf_f_sn19_9), (lf_f_sn19_10 ccodeCount cones bt rlength rmostBytes rplace rkind rbegin rword rnumber rletters rtapeF lumps lumpNamesF gp gnu r1 rfaultPlaceG_29 iv_cse_0 iv_cse_1 iv_rreader_0 iv_rreader_1 iv_rreader_2 iv_rreader_3 hTC iv_a_4 hRT hNL hcc p2 c3 c5 c14 c15 p32), (lf_f_sn19_11 ccodeCount cones bt rlength rmostBytes rplace rkind rbegin rword rnumber rletters rtapeF lumps lumpNamesF gp gnu r1 rfaultKindG_28 rfaultPlaceG_29 iv_cse_0 iv_cse_1 iv_rreader_0 iv_rreader_1 iv_rreader_2 iv_rreader_3 hTC iv_a_4 hRT hNL hcc p2 c3 c5 c14 c15 p31 p32), (lf_f_sn19_12 ccodeCount cones bt rlength rmostBytes rplace rkind rbegin rword rnumber rletters rtapeF lumps lumpNamesF gp gnu r1 rfaultPlaceG_29 iv_cse_0 iv_cse_1 iv_rreader_0 iv_rreader_1 iv_rreader_2 iv_rreader_3 hTC iv_a_4 hRT hNL hcc p2 c3 c5 c14 c15 p32)⟩, by rw [ht9]; exact hP9, va_K.moved hW9.alike hK, hD9⟩, hS.F ht9⟩) hS.2.2 dX9_readOne_67
      · refine lv_aload_n hx hb dX9_readOne_41 rfl (lv_at hl 3 rfl) ?_
        refine lv_iconst (v := nI 1) hx hb dX9_readOne_42 (by decide) ?_
        refine r_call_i (wr := [(se, .inr (9, [.ref ccodes, .int (nI ccodeCount), .int (nI cones)])), (ccodes, .inl (ky 0, 40, .inl ccodesF)), (rtape, .inl (ky 2, 940, .inl rtapeF)), (a, .inr (7, [.int (nI wide), .int (nI high), .int heat, .int cools, .int skinHeat, .int today, .int stirs, .int steps, .int (nI lumps), .int (nI boats), .ref thickness, .ref lumpNames, .ref lumpCells, .ref boatNames, .ref boatCells, .ref loads, .ref spoons, .ref spoonsLeft, .ref depths])), (lumpNames, .inl (ky 1, 6, .inr (.inl lumpNamesF)))]) (va_runV (As := [.int (nI 1)]) (rest := []) ⟨hx, hb, hml, hown, hts⟩ (c_f_refuse l dC dI ky s.heap.size reader rtape rlength rmostBytes rplace rkind rbegin rword rnumber rletters rfaultKind rfaultPlace (nI 1) iv_rreader_0 iv_rreader_1 iv_rreader_2 iv_rreader_3) (cwV 1 hts gX9_readOne_X5_refuse rfl rfl rfl (by decide +kernel) ⟨(Nat.le_of_ble_eq_true rfl), (Nat.le_of_ble_eq_true rfl)⟩) (pre_UV hK hP hD [2] (by decide) rfl (ci := 5) (q0 := 2) rfl rfl) rfl rfl hl.1 rfl (lv_room (Nat.le_of_ble_eq_true rfl)) dX9_readOne_43 ⟨(Nat.le_of_ble_eq_true rfl), (Nat.le_of_ble_eq_true rfl)⟩) hP hD hS hA [2] [0, 1, 3, 4, 5] rfl rfl (by decide) (by decide) (fun r35 u33 H locs p34 hP hD hS => ?_)
        obtain ⟨rfaultKindG_36, rfaultPlaceG_37⟩ := u33
        try dsimp only at p34
        obtain ⟨p38, p39, p40⟩ := p34
        refine W.widen (k := 0) (n := 0) (Nat.le_of_ble_eq_true rfl) (Nat.le_of_ble_eq_true rfl) ?_
        have hP : va_P (dC, dI) vwCl [(se, .inr (9, [.ref ccodes, .int (nI ccodeCount), .int (nI cones)])), (ccodes, .inl (ky 0, 40, .inl ccodesF)), (rtape, .inl (ky 2, 940, .inl rtapeF)), (a, .inr (7, [.int (nI wide), .int (nI high), .int heat, .int cools, .int skinHeat, .int today, .int stirs, .int steps, .int (nI lumps), .int (nI boats), .ref thickness, .ref lumpNames, .ref lumpCells, .ref boatNames, .ref boatCells, .ref loads, .ref spoons, .ref spoonsLeft, .ref depths])), (lumpNames, .inl (ky 1, 6, .inr (.inl lumpNamesF))), (reader, .inr (5, [.ref rtape, .int (nI rlength), .int (nI rmostBytes), .int (nI rplace), .int rkind, .int (nI rbegin), .int rword, .int rnumber, .long rletters, .int rfaultKindG_36, .int rfaultPlaceG_37]))] H := hP
        have hD : va_D A [(se, .inr (9, [.ref ccodes, .int (nI ccodeCount), .int (nI cones)])), (ccodes, .inl (ky 0, 40, .inl ccodesF)), (rtape, .inl (ky 2, 940, .inl rtapeF)), (a, .inr (7, [.int (nI wide), .int (nI high), .int heat, .int cools, .int skinHeat, .int today, .int stirs, .int steps, .int (nI lumps), .int (nI boats), .ref thickness, .ref lumpNames, .ref lumpCells, .ref boatNames, .ref boatCells, .ref loads, .ref spoons, .ref spoonsLeft, .ref depths])), (lumpNames, .inl (ky 1, 6, .inr (.inl lumpNamesF))), (reader, .inr (5, [.ref rtape, .int (nI rlength), .int (nI rmostBytes), .int (nI rplace), .int rkind, .int (nI rbegin), .int rword, .int rnumber, .long rletters, .int rfaultKindG_36, .int rfaultPlaceG_37]))] := hD
        subst p38
        rw [hQ]
        have hP9 := hP.sub (ws' := [(se, .inr (9, [.ref ccodes, .int (nI ccodeCount), .int (nI cones)])), (ccodes, .inl (ky 0, 40, .inl ccodesF)), (reader, .inr (5, [.ref rtape, .int (nI rlength), .int (nI rmostBytes), .int (nI rplace), .int rkind, .int (nI rbegin), .int rword, .int rnumber, .long rletters, .int rfaultKindG_36, .int rfaultPlaceG_37])), (rtape, .inl (ky 2, 940, .inl rtapeF)), (a, .inr (7, [.int (nI wide), .int (nI high), .int heat, .int cools, .int skinHeat, .int today, .int stirs, .int steps, .int (nI lumps), .int (nI boats), .ref thickness, .ref lumpNames, .ref lumpCells, .ref boatNames, .ref boatCells, .ref loads, .ref spoons, .ref spoonsLeft, .ref depths])), (lumpNames, .inl (ky 1, 6, .inr (.inl lumpNamesF)))]) [0, 1, 5, 2, 3, 4] rfl
        have hD9 := hD.sub (ws' := [(se, .inr (9, [.ref ccodes, .int (nI ccodeCount), .int (nI cones)])), (ccodes, .inl (ky 0, 40, .inl ccodesF)), (reader, .inr (5, [.ref rtape, .int (nI rlength), .int (nI rmostBytes), .int (nI rplace), .int rkind, .int (nI rbegin), .int rword, .int rnumber, .long rletters, .int rfaultKindG_36, .int rfaultPlaceG_37])), (rtape, .inl (ky 2, 940, .inl rtapeF)), (a, .inr (7, [.int (nI wide), .int (nI high), .int heat, .int cools, .int skinHeat, .int today, .int stirs, .int steps, .int (nI lumps), .int (nI boats), .ref thickness, .ref lumpNames, .ref lumpCells, .ref boatNames, .ref boatCells, .ref loads, .ref spoons, .ref spoonsLeft, .ref depths])), (lumpNames, .inl (ky 1, 6, .inr (.inl lumpNamesF)))]) [0, 1, 5, 2, 3, 4] (by decide) rfl
        exact W.zret (v := nI 0) hx hb hr (by decide) (fun t9 ht9 hW9 => ⟨⟨nI 0, (rfaultKindG_36, rfaultPlaceG_37), rfl, ⟨(lf_f_sn19_13), (lf_f_sn19_14 ccodeCount cones bt rlength rmostBytes rplace rkind rbegin rword rnumber rletters rtapeF lumps lumpNamesF gp gnu r1 rfaultPlaceG_37 iv_cse_0 iv_cse_1 iv_rreader_0 iv_rreader_1 iv_rreader_2 iv_rreader_3 hTC iv_a_4 hRT hNL hcc p2 c3 c5 c14 p40), (lf_f_sn19_15 ccodeCount cones bt rlength rmostBytes rplace rkind rbegin rword rnumber rletters rtapeF lumps lumpNamesF gp gnu r1 rfaultKindG_36 rfaultPlaceG_37 iv_cse_0 iv_cse_1 iv_rreader_0 iv_rreader_1 iv_rreader_2 iv_rreader_3 hTC iv_a_4 hRT hNL hcc p2 c3 c5 c14 p39 p40), (lf_f_sn19_16 ccodeCount cones bt rlength rmostBytes rplace rkind rbegin rword rnumber rletters rtapeF lumps lumpNamesF gp gnu r1 rfaultPlaceG_37 iv_cse_0 iv_cse_1 iv_rreader_0 iv_rreader_1 iv_rreader_2 iv_rreader_3 hTC iv_a_4 hRT hNL hcc p2 c3 c5 c14 p40)⟩, by rw [ht9]; exact hP9, va_K.moved hW9.alike hK, hD9⟩, hS.F ht9⟩) hS.2.2 dX9_readOne_46
  · refine lv_iconst (v := nI 1) hx hb dX9_readOne_15 (by decide) ?_
    refine lv_goto (tgt := 20) hx hb dX9_readOne_16 (by decide) ?_
    refine lv_istore (lv' := [(5, .int (nI 1)), (4, .int r1), (0, .ref se), (1, .ref reader), (2, .ref a), (3, .int (nI 9))]) hx hb dX9_readOne_20 hl (by decide) rfl (fun ls hl => ?_)
    refine lv_iload hx hb dX9_readOne_22 (lv_at hl 0 rfl) ?_
    refine lv_if_ne (tgt := 47) hx hb dX9_readOne_24 (by decide) (fun c41 => ?_) (fun c41 => absurd c41 (by decide))
    refine lv_aload_n hx hb dX9_readOne_47 rfl (lv_at hl 2 rfl) ?_
    refine va_get (D := (dC, dI)) (ci := 9) (v := .int (nI cones)) (C := RX9) (T := TX9) (N := 3) hx hb hts hin9 hown hK hP 0 rfl rfl 2 (by decide) (hts (.fieldLink RX9 19 "PorridgeSea$Sentence" "ones" "I") (List.mem_of_getElem? (i := 2) rfl)) (fun _ h9 => h9) rfl dX9_readOne_48 ?_
    refine lv_bipush (v := nI 20) hx hb dX9_readOne_51 (by decide) ?_
    refine n_icmp_ge (x := cones) (y := 20) (tgt := 62) hx hb (by omega) (by omega) dX9_readOne_53 (by decide) (fun c42 => ?_) (fun c42 => ?_)
    · refine lv_aload_n hx hb dX9_readOne_62 rfl (lv_at hl 3 rfl) ?_
      refine lv_iconst (v := nI 4) hx hb dX9_readOne_63 (by decide) ?_
      refine r_call_i (wr := [(se, .inr (9, [.ref ccodes, .int (nI ccodeCount), .int (nI cones)])), (ccodes, .inl (ky 0, 40, .inl ccodesF)), (rtape, .inl (ky 2, 940, .inl rtapeF)), (a, .inr (7, [.int (nI wide), .int (nI high), .int heat, .int cools, .int skinHeat, .int today, .int stirs, .int steps, .int (nI lumps), .int (nI boats), .ref thickness, .ref lumpNames, .ref lumpCells, .ref boatNames, .ref boatCells, .ref loads, .ref spoons, .ref spoonsLeft, .ref depths])), (lumpNames, .inl (ky 1, 6, .inr (.inl lumpNamesF)))]) (va_runV (As := [.int (nI 4)]) (rest := []) ⟨hx, hb, hml, hown, hts⟩ (c_f_refuse l dC dI ky s.heap.size reader rtape rlength rmostBytes rplace rkind rbegin rword rnumber rletters rfaultKind rfaultPlace (nI 4) iv_rreader_0 iv_rreader_1 iv_rreader_2 iv_rreader_3) (cwV 1 hts gX9_readOne_X5_refuse rfl rfl rfl (by decide +kernel) ⟨(Nat.le_of_ble_eq_true rfl), (Nat.le_of_ble_eq_true rfl)⟩) (pre_UV hK hP hD [2] (by decide) rfl (ci := 5) (q0 := 2) rfl rfl) rfl rfl hl.1 rfl (lv_room (Nat.le_of_ble_eq_true rfl)) dX9_readOne_64 ⟨(Nat.le_of_ble_eq_true rfl), (Nat.le_of_ble_eq_true rfl)⟩) hP hD hS hA [2] [0, 1, 3, 4, 5] rfl rfl (by decide) (by decide) (fun r45 u43 H locs p44 hP hD hS => ?_)
      obtain ⟨rfaultKindG_46, rfaultPlaceG_47⟩ := u43
      try dsimp only at p44
      obtain ⟨p48, p49, p50⟩ := p44
      refine W.widen (k := 0) (n := 0) (Nat.le_of_ble_eq_true rfl) (Nat.le_of_ble_eq_true rfl) ?_
      have hP : va_P (dC, dI) vwCl [(se, .inr (9, [.ref ccodes, .int (nI ccodeCount), .int (nI cones)])), (ccodes, .inl (ky 0, 40, .inl ccodesF)), (rtape, .inl (ky 2, 940, .inl rtapeF)), (a, .inr (7, [.int (nI wide), .int (nI high), .int heat, .int cools, .int skinHeat, .int today, .int stirs, .int steps, .int (nI lumps), .int (nI boats), .ref thickness, .ref lumpNames, .ref lumpCells, .ref boatNames, .ref boatCells, .ref loads, .ref spoons, .ref spoonsLeft, .ref depths])), (lumpNames, .inl (ky 1, 6, .inr (.inl lumpNamesF))), (reader, .inr (5, [.ref rtape, .int (nI rlength), .int (nI rmostBytes), .int (nI rplace), .int rkind, .int (nI rbegin), .int rword, .int rnumber, .long rletters, .int rfaultKindG_46, .int rfaultPlaceG_47]))] H := hP
      have hD : va_D A [(se, .inr (9, [.ref ccodes, .int (nI ccodeCount), .int (nI cones)])), (ccodes, .inl (ky 0, 40, .inl ccodesF)), (rtape, .inl (ky 2, 940, .inl rtapeF)), (a, .inr (7, [.int (nI wide), .int (nI high), .int heat, .int cools, .int skinHeat, .int today, .int stirs, .int steps, .int (nI lumps), .int (nI boats), .ref thickness, .ref lumpNames, .ref lumpCells, .ref boatNames, .ref boatCells, .ref loads, .ref spoons, .ref spoonsLeft, .ref depths])), (lumpNames, .inl (ky 1, 6, .inr (.inl lumpNamesF))), (reader, .inr (5, [.ref rtape, .int (nI rlength), .int (nI rmostBytes), .int (nI rplace), .int rkind, .int (nI rbegin), .int rword, .int rnumber, .long rletters, .int rfaultKindG_46, .int rfaultPlaceG_47]))] := hD
      subst p48
      rw [hQ]
      have hP9 := hP.sub (ws' := [(se, .inr (9, [.ref ccodes, .int (nI ccodeCount), .int (nI cones)])), (ccodes, .inl (ky 0, 40, .inl ccodesF)), (reader, .inr (5, [.ref rtape, .int (nI rlength), .int (nI rmostBytes), .int (nI rplace), .int rkind, .int (nI rbegin), .int rword, .int rnumber, .long rletters, .int rfaultKindG_46, .int rfaultPlaceG_47])), (rtape, .inl (ky 2, 940, .inl rtapeF)), (a, .inr (7, [.int (nI wide), .int (nI high), .int heat, .int cools, .int skinHeat, .int today, .int stirs, .int steps, .int (nI lumps), .int (nI boats), .ref thickness, .ref lumpNames, .ref lumpCells, .ref boatNames, .ref boatCells, .ref loads, .ref spoons, .ref spoonsLeft, .ref depths])), (lumpNames, .inl (ky 1, 6, .inr (.inl lumpNamesF)))]) [0, 1, 5, 2, 3, 4] rfl
      have hD9 := hD.sub (ws' := [(se, .inr (9, [.ref ccodes, .int (nI ccodeCount), .int (nI cones)])), (ccodes, .inl (ky 0, 40, .inl ccodesF)), (reader, .inr (5, [.ref rtape, .int (nI rlength), .int (nI rmostBytes), .int (nI rplace), .int rkind, .int (nI rbegin), .int rword, .int rnumber, .long rletters, .int rfaultKindG_46, .int rfaultPlaceG_47])), (rtape, .inl (ky 2, 940, .inl rtapeF)), (a, .inr (7, [.int (nI wide), .int (nI high), .int heat, .int cools, .int skinHeat, .int today, .int stirs, .int steps, .int (nI lumps), .int (nI boats), .ref thickness, .ref lumpNames, .ref lumpCells, .ref boatNames, .ref boatCells, .ref loads, .ref spoons, .ref spoonsLeft, .ref depths])), (lumpNames, .inl (ky 1, 6, .inr (.inl lumpNamesF)))]) [0, 1, 5, 2, 3, 4] (by decide) rfl
      exact W.zret (v := nI 0) hx hb hr (by decide) (fun t9 ht9 hW9 => ⟨⟨nI 0, (rfaultKindG_46, rfaultPlaceG_47), rfl, ⟨(lf_f_sn19_17), (lf_f_sn19_18 ccodeCount cones bt rlength rmostBytes rplace rkind rbegin rword rnumber rletters rtapeF lumps lumpNamesF gp gnu r1 rfaultPlaceG_47 iv_cse_0 iv_cse_1 iv_rreader_0 iv_rreader_1 iv_rreader_2 iv_rreader_3 hTC iv_a_4 hRT hNL hcc p2 c3 c42 p50), (lf_f_sn19_19 ccodeCount cones bt rlength rmostBytes rplace rkind rbegin rword rnumber rletters rtapeF lumps lumpNamesF gp gnu r1 rfaultKindG_46 rfaultPlaceG_47 iv_cse_0 iv_cse_1 iv_rreader_0 iv_rreader_1 iv_rreader_2 iv_rreader_3 hTC iv_a_4 hRT hNL hcc p2 c3 c42 p49 p50), (lf_f_sn19_20 ccodeCount cones bt rlength rmostBytes rplace rkind rbegin rword rnumber rletters rtapeF lumps lumpNamesF gp gnu r1 rfaultPlaceG_47 iv_cse_0 iv_cse_1 iv_rreader_0 iv_rreader_1 iv_rreader_2 iv_rreader_3 hTC iv_a_4 hRT hNL hcc p2 c3 c42 p50)⟩, by rw [ht9]; exact hP9, va_K.moved hW9.alike hK, hD9⟩, hS.F ht9⟩) hS.2.2 dX9_readOne_67
    · refine lv_iload_n hx hb dX9_readOne_56 rfl (lv_at hl 5 rfl) ?_
      refine lv_bipush (v := nI 8) hx hb dX9_readOne_57 (by decide) ?_
      refine lv_icmp_le (tgt := 68) hx hb dX9_readOne_59 (by decide) (fun c51 => absurd c51 (by decide)) (fun c51 => ?_)
      refine lv_aload_n hx hb dX9_readOne_62 rfl (lv_at hl 3 rfl) ?_
      refine lv_iconst (v := nI 4) hx hb dX9_readOne_63 (by decide) ?_
      refine r_call_i (wr := [(se, .inr (9, [.ref ccodes, .int (nI ccodeCount), .int (nI cones)])), (ccodes, .inl (ky 0, 40, .inl ccodesF)), (rtape, .inl (ky 2, 940, .inl rtapeF)), (a, .inr (7, [.int (nI wide), .int (nI high), .int heat, .int cools, .int skinHeat, .int today, .int stirs, .int steps, .int (nI lumps), .int (nI boats), .ref thickness, .ref lumpNames, .ref lumpCells, .ref boatNames, .ref boatCells, .ref loads, .ref spoons, .ref spoonsLeft, .ref depths])), (lumpNames, .inl (ky 1, 6, .inr (.inl lumpNamesF)))]) (va_runV (As := [.int (nI 4)]) (rest := []) ⟨hx, hb, hml, hown, hts⟩ (c_f_refuse l dC dI ky s.heap.size reader rtape rlength rmostBytes rplace rkind rbegin rword rnumber rletters rfaultKind rfaultPlace (nI 4) iv_rreader_0 iv_rreader_1 iv_rreader_2 iv_rreader_3) (cwV 1 hts gX9_readOne_X5_refuse rfl rfl rfl (by decide +kernel) ⟨(Nat.le_of_ble_eq_true rfl), (Nat.le_of_ble_eq_true rfl)⟩) (pre_UV hK hP hD [2] (by decide) rfl (ci := 5) (q0 := 2) rfl rfl) rfl rfl hl.1 rfl (lv_room (Nat.le_of_ble_eq_true rfl)) dX9_readOne_64 ⟨(Nat.le_of_ble_eq_true rfl), (Nat.le_of_ble_eq_true rfl)⟩) hP hD hS hA [2] [0, 1, 3, 4, 5] rfl rfl (by decide) (by decide) (fun r54 u52 H locs p53 hP hD hS => ?_)
      obtain ⟨rfaultKindG_55, rfaultPlaceG_56⟩ := u52
      try dsimp only at p53
      obtain ⟨p57, p58, p59⟩ := p53
      refine W.widen (k := 0) (n := 0) (Nat.le_of_ble_eq_true rfl) (Nat.le_of_ble_eq_true rfl) ?_
      have hP : va_P (dC, dI) vwCl [(se, .inr (9, [.ref ccodes, .int (nI ccodeCount), .int (nI cones)])), (ccodes, .inl (ky 0, 40, .inl ccodesF)), (rtape, .inl (ky 2, 940, .inl rtapeF)), (a, .inr (7, [.int (nI wide), .int (nI high), .int heat, .int cools, .int skinHeat, .int today, .int stirs, .int steps, .int (nI lumps), .int (nI boats), .ref thickness, .ref lumpNames, .ref lumpCells, .ref boatNames, .ref boatCells, .ref loads, .ref spoons, .ref spoonsLeft, .ref depths])), (lumpNames, .inl (ky 1, 6, .inr (.inl lumpNamesF))), (reader, .inr (5, [.ref rtape, .int (nI rlength), .int (nI rmostBytes), .int (nI rplace), .int rkind, .int (nI rbegin), .int rword, .int rnumber, .long rletters, .int rfaultKindG_55, .int rfaultPlaceG_56]))] H := hP
      have hD : va_D A [(se, .inr (9, [.ref ccodes, .int (nI ccodeCount), .int (nI cones)])), (ccodes, .inl (ky 0, 40, .inl ccodesF)), (rtape, .inl (ky 2, 940, .inl rtapeF)), (a, .inr (7, [.int (nI wide), .int (nI high), .int heat, .int cools, .int skinHeat, .int today, .int stirs, .int steps, .int (nI lumps), .int (nI boats), .ref thickness, .ref lumpNames, .ref lumpCells, .ref boatNames, .ref boatCells, .ref loads, .ref spoons, .ref spoonsLeft, .ref depths])), (lumpNames, .inl (ky 1, 6, .inr (.inl lumpNamesF))), (reader, .inr (5, [.ref rtape, .int (nI rlength), .int (nI rmostBytes), .int (nI rplace), .int rkind, .int (nI rbegin), .int rword, .int rnumber, .long rletters, .int rfaultKindG_55, .int rfaultPlaceG_56]))] := hD
      subst p57
      rw [hQ]
      have hP9 := hP.sub (ws' := [(se, .inr (9, [.ref ccodes, .int (nI ccodeCount), .int (nI cones)])), (ccodes, .inl (ky 0, 40, .inl ccodesF)), (reader, .inr (5, [.ref rtape, .int (nI rlength), .int (nI rmostBytes), .int (nI rplace), .int rkind, .int (nI rbegin), .int rword, .int rnumber, .long rletters, .int rfaultKindG_55, .int rfaultPlaceG_56])), (rtape, .inl (ky 2, 940, .inl rtapeF)), (a, .inr (7, [.int (nI wide), .int (nI high), .int heat, .int cools, .int skinHeat, .int today, .int stirs, .int steps, .int (nI lumps), .int (nI boats), .ref thickness, .ref lumpNames, .ref lumpCells, .ref boatNames, .ref boatCells, .ref loads, .ref spoons, .ref spoonsLeft, .ref depths])), (lumpNames, .inl (ky 1, 6, .inr (.inl lumpNamesF)))]) [0, 1, 5, 2, 3, 4] rfl
      have hD9 := hD.sub (ws' := [(se, .inr (9, [.ref ccodes, .int (nI ccodeCount), .int (nI cones)])), (ccodes, .inl (ky 0, 40, .inl ccodesF)), (reader, .inr (5, [.ref rtape, .int (nI rlength), .int (nI rmostBytes), .int (nI rplace), .int rkind, .int (nI rbegin), .int rword, .int rnumber, .long rletters, .int rfaultKindG_55, .int rfaultPlaceG_56])), (rtape, .inl (ky 2, 940, .inl rtapeF)), (a, .inr (7, [.int (nI wide), .int (nI high), .int heat, .int cools, .int skinHeat, .int today, .int stirs, .int steps, .int (nI lumps), .int (nI boats), .ref thickness, .ref lumpNames, .ref lumpCells, .ref boatNames, .ref boatCells, .ref loads, .ref spoons, .ref spoonsLeft, .ref depths])), (lumpNames, .inl (ky 1, 6, .inr (.inl lumpNamesF)))]) [0, 1, 5, 2, 3, 4] (by decide) rfl
      exact W.zret (v := nI 0) hx hb hr (by decide) (fun t9 ht9 hW9 => ⟨⟨nI 0, (rfaultKindG_55, rfaultPlaceG_56), rfl, ⟨(lf_f_sn19_21), (lf_f_sn19_22 ccodeCount cones bt rlength rmostBytes rplace rkind rbegin rword rnumber rletters rtapeF lumps lumpNamesF gp gnu r1 rfaultPlaceG_56 iv_cse_0 iv_cse_1 iv_rreader_0 iv_rreader_1 iv_rreader_2 iv_rreader_3 hTC iv_a_4 hRT hNL hcc p2 c3 c42 p59), (lf_f_sn19_23 ccodeCount cones bt rlength rmostBytes rplace rkind rbegin rword rnumber rletters rtapeF lumps lumpNamesF gp gnu r1 rfaultKindG_55 rfaultPlaceG_56 iv_cse_0 iv_cse_1 iv_rreader_0 iv_rreader_1 iv_rreader_2 iv_rreader_3 hTC iv_a_4 hRT hNL hcc p2 c3 c42 p58 p59), (lf_f_sn19_24 ccodeCount cones bt rlength rmostBytes rplace rkind rbegin rword rnumber rletters rtapeF lumps lumpNamesF gp gnu r1 rfaultPlaceG_56 iv_cse_0 iv_cse_1 iv_rreader_0 iv_rreader_1 iv_rreader_2 iv_rreader_3 hTC iv_a_4 hRT hNL hcc p2 c3 c42 p59)⟩, by rw [ht9]; exact hP9, va_K.moved hW9.alike hK, hD9⟩, hS.F ht9⟩) hS.2.2 dX9_readOne_67
set_option maxRecDepth 20000 in
theorem lf_f_snA9_1   : (nI 0) = nI 0 := by
  try have k_0 := ia_n 0 (by first | decide | omega)
  try simp only [ia_lt, ia_le, ia_eq, ia_m1, ia_0, ia_1, ne_eq, true_and, and_true, false_and, and_false, or_false, false_or, or_true, true_or, not_true_eq_false, not_false_eq_true] at *
  all_goals omega
set_option maxRecDepth 20000 in
theorem lf_f_snA9_2 (ccodeCount : Nat) (cones : Nat) (bt : Nat → Nat) (rlength : Nat) (rmostBytes : Nat) (rplace : Nat) (rkind : Int32) (rbegin : Nat) (rword : Int32) (rnumber : Int32) (rletters : Int64) (rtapeF : Nat → Int32) (lumps : Nat) (lumpNamesF : Nat → Int64) (gp : Nat) (gnu : Nat → Nat) (rfaultKindG_4 : Int32) (rfaultPlaceG_5 : Int32) (iv_cse_0 : ccodeCount ≤ 40) (iv_cse_1 : cones ≤ 20) (iv_rreader_0 : rlength ≤ 940) (iv_rreader_1 : rplace ≤ rlength) (iv_rreader_2 : rmostBytes ≤ 900) (iv_rreader_3 : rbegin ≤ 940) (hTC : TC bt rtapeF) (iv_a_4 : lumps ≤ 6) (hRT : RT bt rlength rmostBytes gp rkind rbegin rplace rword rnumber rletters) (hNL : NL gnu 0 lumps lumpNamesF) (hcc : ccodeCount ≤ 2 * cones) (p7 : isO (sOne bt rlength rmostBytes gnu lumps 0 gp cones) = false) (p8 : rfaultKindG_4 = nI (erA (sOne bt rlength rmostBytes gnu lumps 0 gp cones))) (p9 : rfaultPlaceG_5 = nI (erB (sOne bt rlength rmostBytes gnu lumps 0 gp cones))) : isO (sAnd bt rlength rmostBytes gnu lumps 0 gp cones) = false := by
  unfold sAnd
  rw [sS_err (by assumption)]
  exact rfl
set_option maxRecDepth 20000 in
theorem lf_f_snA9_3 (ccodeCount : Nat) (cones : Nat) (bt : Nat → Nat) (rlength : Nat) (rmostBytes : Nat) (rplace : Nat) (rkind : Int32) (rbegin : Nat) (rword : Int32) (rnumber : Int32) (rletters : Int64) (rtapeF : Nat → Int32) (lumps : Nat) (lumpNamesF : Nat → Int64) (gp : Nat) (gnu : Nat → Nat) (rfaultKindG_4 : Int32) (rfaultPlaceG_5 : Int32) (iv_cse_0 : ccodeCount ≤ 40) (iv_cse_1 : cones ≤ 20) (iv_rreader_0 : rlength ≤ 940) (iv_rreader_1 : rplace ≤ rlength) (iv_rreader_2 : rmostBytes ≤ 900) (iv_rreader_3 : rbegin ≤ 940) (hTC : TC bt rtapeF) (iv_a_4 : lumps ≤ 6) (hRT : RT bt rlength rmostBytes gp rkind rbegin rplace rword rnumber rletters) (hNL : NL gnu 0 lumps lumpNamesF) (hcc : ccodeCount ≤ 2 * cones) (p7 : isO (sOne bt rlength rmostBytes gnu lumps 0 gp cones) = false) (p8 : rfaultKindG_4 = nI (erA (sOne bt rlength rmostBytes gnu lumps 0 gp cones))) (p9 : rfaultPlaceG_5 = nI (erB (sOne bt rlength rmostBytes gnu lumps 0 gp cones))) : rfaultKindG_4 = nI (erA (sAnd bt rlength rmostBytes gnu lumps 0 gp cones)) := by
  unfold sAnd
  rw [sS_err (by assumption)]
  assumption
set_option maxRecDepth 20000 in
theorem lf_f_snA9_4 (ccodeCount : Nat) (cones : Nat) (bt : Nat → Nat) (rlength : Nat) (rmostBytes : Nat) (rplace : Nat) (rkind : Int32) (rbegin : Nat) (rword : Int32) (rnumber : Int32) (rletters : Int64) (rtapeF : Nat → Int32) (lumps : Nat) (lumpNamesF : Nat → Int64) (gp : Nat) (gnu : Nat → Nat) (rfaultKindG_4 : Int32) (rfaultPlaceG_5 : Int32) (iv_cse_0 : ccodeCount ≤ 40) (iv_cse_1 : cones ≤ 20) (iv_rreader_0 : rlength ≤ 940) (iv_rreader_1 : rplace ≤ rlength) (iv_rreader_2 : rmostBytes ≤ 900) (iv_rreader_3 : rbegin ≤ 940) (hTC : TC bt rtapeF) (iv_a_4 : lumps ≤ 6) (hRT : RT bt rlength rmostBytes gp rkind rbegin rplace rword rnumber rletters) (hNL : NL gnu 0 lumps lumpNamesF) (hcc : ccodeCount ≤ 2 * cones) (p7 : isO (sOne bt rlength rmostBytes gnu lumps 0 gp cones) = false) (p8 : rfaultKindG_4 = nI (erA (sOne bt rlength rmostBytes gnu lumps 0 gp cones))) (p9 : rfaultPlaceG_5 = nI (erB (sOne bt rlength rmostBytes gnu lumps 0 gp cones))) : rfaultPlaceG_5 = nI (erB (sAnd bt rlength rmostBytes gnu lumps 0 gp cones)) := by
  unfold sAnd
  rw [sS_err (by assumption)]
  assumption
set_option maxHeartbeats 4000000 in
set_option maxRecDepth 100000 in
theorem c_f_snA9 (l : Launch) (dC : Nat → ClassId) (dI : Nat → Nat → Nat) (ky : Nat → ClassId) (sz : Nat) (adK : Nat → Nat) (adV : Nat → Nat) (se : Nat) (ccodes : Nat) (ccodeCount : Nat) (cones : Nat) (ccodesF : Nat → Int32) (bt : Nat → Nat) (reader : Nat) (rtape : Nat) (rlength : Nat) (rmostBytes : Nat) (rplace : Nat) (rkind : Int32) (rbegin : Nat) (rword : Int32) (rnumber : Int32) (rletters : Int64) (rfaultKind : Int32) (rfaultPlace : Int32) (rtapeF : Nat → Int32) (a : Nat) (wide : Nat) (high : Nat) (heat : Int32) (cools : Int32) (skinHeat : Int32) (today : Int32) (stirs : Int32) (steps : Int32) (lumps : Nat) (boats : Nat) (thickness : Nat) (lumpNames : Nat) (lumpCells : Nat) (boatNames : Nat) (boatCells : Nat) (loads : Nat) (spoons : Nat) (spoonsLeft : Nat) (depths : Nat) (lumpNamesF : Nat → Int64) (gp : Nat) (gnu : Nat → Nat) (iv_cse_0 : ccodeCount ≤ 40) (iv_cse_1 : cones ≤ 20) (iv_rreader_0 : rlength ≤ 940) (iv_rreader_1 : rplace ≤ rlength) (iv_rreader_2 : rmostBytes ≤ 900) (iv_rreader_3 : rbegin ≤ 940) (hTC : TC bt rtapeF) (iv_a_0 : 2 ≤ wide) (iv_a_1 : wide ≤ 6) (iv_a_2 : 2 ≤ high) (iv_a_3 : high ≤ 6) (iv_a_4 : lumps ≤ 6) (iv_a_5 : boats ≤ 6) (hRT : RT bt rlength rmostBytes gp rkind rbegin rplace rword rnumber rletters) (hNL : NL gnu 0 lumps lumpNamesF) (hcc : ccodeCount ≤ 2 * cones) : Met l yX9_readAll wsX9_readAll ({ frames := 3, cells := 0, slots := 0, locals := 68 }) (PcUE dC dI ky adK adV [.ref se, .ref reader, .ref a, .int (nI 9)] [(se, .inr (9, [.ref ccodes, .int (nI ccodeCount), .int (nI cones)])), (ccodes, .inl (ky 0, 40, .inl ccodesF)), (reader, .inr (5, [.ref rtape, .int (nI rlength), .int (nI rmostBytes), .int (nI rplace), .int rkind, .int (nI rbegin), .int rword, .int rnumber, .long rletters, .int rfaultKind, .int rfaultPlace])), (rtape, .inl (ky 2, 940, .inl rtapeF)), (a, .inr (7, [.int (nI wide), .int (nI high), .int heat, .int cools, .int skinHeat, .int today, .int stirs, .int steps, .int (nI lumps), .int (nI boats), .ref thickness, .ref lumpNames, .ref lumpCells, .ref boatNames, .ref boatCells, .ref loads, .ref spoons, .ref spoonsLeft, .ref depths])), (lumpNames, .inl (ky 1, 6, .inr (.inl lumpNamesF)))] sz) (va_Qi (fun (r : Int32) (u : Int32 × Int32) => match u with | (rfaultKindG, rfaultPlaceG) => (r = nI 0) ∧ (isO (sAnd bt rlength rmostBytes gnu lumps 0 gp cones) = false) ∧ (rfaultKindG = nI (erA (sAnd bt rlength rmostBytes gnu lumps 0 gp cones))) ∧ (rfaultPlaceG = nI (erB (sAnd bt rlength rmostBytes gnu lumps 0 gp cones)))) (BU dC dI ky (fun (u : Int32 × Int32) => match u with | (rfaultKindG, rfaultPlaceG) => [(se, .inr (9, [.ref ccodes, .int (nI ccodeCount), .int (nI cones)])), (ccodes, .inl (ky 0, 40, .inl ccodesF)), (reader, .inr (5, [.ref rtape, .int (nI rlength), .int (nI rmostBytes), .int (nI rplace), .int rkind, .int (nI rbegin), .int rword, .int rnumber, .long rletters, .int rfaultKindG, .int rfaultPlaceG])), (rtape, .inl (ky 2, 940, .inl rtapeF)), (a, .inr (7, [.int (nI wide), .int (nI high), .int heat, .int cools, .int skinHeat, .int today, .int stirs, .int steps, .int (nI lumps), .int (nI boats), .ref thickness, .ref lumpNames, .ref lumpCells, .ref boatNames, .ref boatCells, .ref loads, .ref spoons, .ref spoonsLeft, .ref depths])), (lumpNames, .inl (ky 1, 6, .inr (.inl lumpNamesF)))]) (va_A [(se, .inr (9, [.ref ccodes, .int (nI ccodeCount), .int (nI cones)])), (ccodes, .inl (ky 0, 40, .inl ccodesF)), (reader, .inr (5, [.ref rtape, .int (nI rlength), .int (nI rmostBytes), .int (nI rplace), .int rkind, .int (nI rbegin), .int rword, .int rnumber, .long rletters, .int rfaultKind, .int rfaultPlace])), (rtape, .inl (ky 2, 940, .inl rtapeF)), (a, .inr (7, [.int (nI wide), .int (nI high), .int heat, .int cools, .int skinHeat, .int today, .int stirs, .int steps, .int (nI lumps), .int (nI boats), .ref thickness, .ref lumpNames, .ref lumpCells, .ref boatNames, .ref boatCells, .ref loads, .ref spoons, .ref spoonsLeft, .ref depths])), (lumpNames, .inl (ky 1, 6, .inr (.inl lumpNamesF)))] sz)) (va_A [(se, .inr (9, [.ref ccodes, .int (nI ccodeCount), .int (nI cones)])), (ccodes, .inl (ky 0, 40, .inl ccodesF)), (reader, .inr (5, [.ref rtape, .int (nI rlength), .int (nI rmostBytes), .int (nI rplace), .int rkind, .int (nI rbegin), .int rword, .int rnumber, .long rletters, .int rfaultKind, .int rfaultPlace])), (rtape, .inl (ky 2, 940, .inl rtapeF)), (a, .inr (7, [.int (nI wide), .int (nI high), .int heat, .int cools, .int skinHeat, .int today, .int stirs, .int steps, .int (nI lumps), .int (nI boats), .ref thickness, .ref lumpNames, .ref lumpCells, .ref boatNames, .ref boatCells, .ref loads, .ref spoons, .ref spoonsLeft, .ref depths])), (lumpNames, .inl (ky 1, 6, .inr (.inl lumpNamesF)))] sz)) 0 0 (va_A [(se, .inr (9, [.ref ccodes, .int (nI ccodeCount), .int (nI cones)])), (ccodes, .inl (ky 0, 40, .inl ccodesF)), (reader, .inr (5, [.ref rtape, .int (nI rlength), .int (nI rmostBytes), .int (nI rplace), .int rkind, .int (nI rbegin), .int rword, .int rnumber, .long rletters, .int rfaultKind, .int rfaultPlace])), (rtape, .inl (ky 2, 940, .inl rtapeF)), (a, .inr (7, [.int (nI wide), .int (nI high), .int heat, .int cools, .int skinHeat, .int today, .int stirs, .int steps, .int (nI lumps), .int (nI boats), .ref thickness, .ref lumpNames, .ref lumpCells, .ref boatNames, .ref boatCells, .ref loads, .ref spoons, .ref spoonsLeft, .ref depths])), (lumpNames, .inl (ky 1, 6, .inr (.inl lumpNamesF)))] sz) := by
  refine Met.ofW (cc := cX9_readAll) (maxL := 6) (ret := (some .boolean)) (by decide) rfl ?_
  intro p e s m args below meth c s₁ B hml hv
  obtain ⟨rfl, hsz, hP, hK, hD0, hE⟩ := hv
  have hx := B.exec
  have hb := B.bytes
  have hr := B.returns
  have hts := atoms_spec (ws := wsX9_readAll) B.pre
  have hown : s.vm.findClass RX9 = some m.cls := findClass_of_methodNamed B.named
  have hlocks := B.notSynchronized
  subst hsz
  have hD := hD0.self (sz := s.heap.size)
  generalize hAe : va_A [(se, .inr (9, [.ref ccodes, .int (nI ccodeCount), .int (nI cones)])), (ccodes, .inl (ky 0, 40, .inl ccodesF)), (reader, .inr (5, [.ref rtape, .int (nI rlength), .int (nI rmostBytes), .int (nI rplace), .int rkind, .int (nI rbegin), .int rword, .int rnumber, .long rletters, .int rfaultKind, .int rfaultPlace])), (rtape, .inl (ky 2, 940, .inl rtapeF)), (a, .inr (7, [.int (nI wide), .int (nI high), .int heat, .int cools, .int skinHeat, .int today, .int stirs, .int steps, .int (nI lumps), .int (nI boats), .ref thickness, .ref lumpNames, .ref lumpCells, .ref boatNames, .ref boatCells, .ref loads, .ref spoons, .ref spoonsLeft, .ref depths])), (lumpNames, .inl (ky 1, 6, .inr (.inl lumpNamesF)))] s.heap.size = A at hD hE ⊢
  have hA : ∀ q : Nat, s.heap.size ≤ q → A q := fun q h => by rw [← hAe]; exact Or.inr h
  have hS : va_S A s.heap s.heap [] := va_S.rf
  have hl := lv_entry ([.ref se, .ref reader, .ref a, .int (nI 9)]) (n := 6) (Nat.le_of_ble_eq_true rfl)
  rw [lg_entry_eq]
  generalize (lg_sl ([.ref se, .ref reader, .ref a, .int (nI 9)]) ++ List.replicate (6 - (lg_sl ([.ref se, .ref reader, .ref a, .int (nI 9)])).length) Slot.unset).toArray = ls at hl ⊢
  have hl : lv_has ls 6 [(0, .ref se), (1, .ref reader), (2, .ref a), (3, .int (nI 9))] := hl
  refine q_name (fun Q hQ => ?_)
  generalize ([.ref se, .ref reader, .ref a, .int (nI 9)] : List Value).toArray = args at hts hQ ⊢
  refine lv_aload_n hx hb dX9_readAll_0 rfl (lv_at hl 0 rfl) ?_
  refine lv_aload_n hx hb dX9_readAll_1 rfl (lv_at hl 1 rfl) ?_
  refine lv_aload_n hx hb dX9_readAll_2 rfl (lv_at hl 2 rfl) ?_
  refine lv_iload_n hx hb dX9_readAll_3 rfl (lv_at hl 3 rfl) ?_
  refine r_call_i (wr := []) (va_runV (As := [.ref reader, .ref a, .int (nI 9)]) (rest := []) ⟨hx, hb, hml, hown, hts⟩ (c_f_sn19 l dC dI ky s.heap.size adK adV se ccodes ccodeCount cones ccodesF bt reader rtape rlength rmostBytes rplace rkind rbegin rword rnumber rletters rfaultKind rfaultPlace rtapeF a wide high heat cools skinHeat today stirs steps lumps boats thickness lumpNames lumpCells boatNames boatCells loads spoons spoonsLeft depths lumpNamesF gp gnu iv_cse_0 iv_cse_1 iv_rreader_0 iv_rreader_1 iv_rreader_2 iv_rreader_3 hTC iv_a_0 iv_a_1 iv_a_2 iv_a_3 iv_a_4 iv_a_5 hRT hNL hcc) (cwV 3 hts gX9_readAll_X9_readOne rfl rfl rfl (by decide +kernel) ⟨(Nat.le_of_ble_eq_true rfl), (Nat.le_of_ble_eq_true rfl)⟩) (pre_UEV hE hS hA hK hP hD [0, 1, 2, 3, 4, 5] (by decide) rfl (va_recv hK hP (ci := 9) (q0 := 0) rfl rfl)) rfl rfl hl.1 rfl (lv_room (Nat.le_of_ble_eq_true rfl)) dX9_readAll_4 ⟨(Nat.le_of_ble_eq_true rfl), (Nat.le_of_ble_eq_true rfl)⟩) hP hD hS hA [0, 1, 2, 3, 4, 5] [] rfl rfl (by decide) (by decide) (fun r3 u1 H locs p2 hP hD hS => ?_)
  obtain ⟨rfaultKindG_4, rfaultPlaceG_5⟩ := u1
  try dsimp only at p2
  obtain ⟨p6, p7, p8, p9⟩ := p2
  refine W.widen (k := 0) (n := 0) (Nat.le_of_ble_eq_true rfl) (Nat.le_of_ble_eq_true rfl) ?_
  have hP : va_P (dC, dI) vwCl [(se, .inr (9, [.ref ccodes, .int (nI ccodeCount), .int (nI cones)])), (ccodes, .inl (ky 0, 40, .inl ccodesF)), (reader, .inr (5, [.ref rtape, .int (nI rlength), .int (nI rmostBytes), .int (nI rplace), .int rkind, .int (nI rbegin), .int rword, .int rnumber, .long rletters, .int rfaultKindG_4, .int rfaultPlaceG_5])), (rtape, .inl (ky 2, 940, .inl rtapeF)), (a, .inr (7, [.int (nI wide), .int (nI high), .int heat, .int cools, .int skinHeat, .int today, .int stirs, .int steps, .int (nI lumps), .int (nI boats), .ref thickness, .ref lumpNames, .ref lumpCells, .ref boatNames, .ref boatCells, .ref loads, .ref spoons, .ref spoonsLeft, .ref depths])), (lumpNames, .inl (ky 1, 6, .inr (.inl lumpNamesF)))] H := hP
  have hD : va_D A [(se, .inr (9, [.ref ccodes, .int (nI ccodeCount), .int (nI cones)])), (ccodes, .inl (ky 0, 40, .inl ccodesF)), (reader, .inr (5, [.ref rtape, .int (nI rlength), .int (nI rmostBytes), .int (nI rplace), .int rkind, .int (nI rbegin), .int rword, .int rnumber, .long rletters, .int rfaultKindG_4, .int rfaultPlaceG_5])), (rtape, .inl (ky 2, 940, .inl rtapeF)), (a, .inr (7, [.int (nI wide), .int (nI high), .int heat, .int cools, .int skinHeat, .int today, .int stirs, .int steps, .int (nI lumps), .int (nI boats), .ref thickness, .ref lumpNames, .ref lumpCells, .ref boatNames, .ref boatCells, .ref loads, .ref spoons, .ref spoonsLeft, .ref depths])), (lumpNames, .inl (ky 1, 6, .inr (.inl lumpNamesF)))] := hD
  subst p6
  refine lv_istore (lv' := [(4, .int (nI 0)), (0, .ref se), (1, .ref reader), (2, .ref a), (3, .int (nI 9))]) hx hb dX9_readAll_7 hl (by decide) rfl (fun ls hl => ?_)
  refine lv_iconst (v := nI 0) hx hb dX9_readAll_9 (by decide) ?_
  refine lv_istore (lv' := [(5, .int (nI 0)), (4, .int (nI 0)), (0, .ref se), (1, .ref reader), (2, .ref a), (3, .int (nI 9))]) hx hb dX9_readAll_10 hl (by decide) rfl (fun ls hl => ?_)
  refine lv_iload hx hb dX9_readAll_12 (lv_at hl 0 rfl) ?_
  refine lv_bipush (v := nI 20) hx hb dX9_readAll_14 (by decide) ?_
  refine lv_icmp_ge (tgt := 69) hx hb dX9_readAll_16 (by decide) (fun c10 => absurd c10 (by decide)) (fun c10 => ?_)
  refine lv_iload hx hb dX9_readAll_19 (lv_at hl 1 rfl) ?_
  refine lv_if_eq (tgt := 69) hx hb dX9_readAll_21 (by decide) (fun c11 => ?_) (fun c11 => absurd (by decide) c11)
  refine lv_iload hx hb dX9_readAll_69 (lv_at hl 1 rfl) ?_
  rw [hQ]
  exact W.zret (v := nI 0) hx hb hr (by decide) (fun t9 ht9 hW9 => ⟨⟨nI 0, (rfaultKindG_4, rfaultPlaceG_5), rfl, ⟨(lf_f_snA9_1), (lf_f_snA9_2 ccodeCount cones bt rlength rmostBytes rplace rkind rbegin rword rnumber rletters rtapeF lumps lumpNamesF gp gnu rfaultKindG_4 rfaultPlaceG_5 iv_cse_0 iv_cse_1 iv_rreader_0 iv_rreader_1 iv_rreader_2 iv_rreader_3 hTC iv_a_4 hRT hNL hcc p7 p8 p9), (lf_f_snA9_3 ccodeCount cones bt rlength rmostBytes rplace rkind rbegin rword rnumber rletters rtapeF lumps lumpNamesF gp gnu rfaultKindG_4 rfaultPlaceG_5 iv_cse_0 iv_cse_1 iv_rreader_0 iv_rreader_1 iv_rreader_2 iv_rreader_3 hTC iv_a_4 hRT hNL hcc p7 p8 p9), (lf_f_snA9_4 ccodeCount cones bt rlength rmostBytes rplace rkind rbegin rword rnumber rletters rtapeF lumps lumpNamesF gp gnu rfaultKindG_4 rfaultPlaceG_5 iv_cse_0 iv_cse_1 iv_rreader_0 iv_rreader_1 iv_rreader_2 iv_rreader_3 hTC iv_a_4 hRT hNL hcc p7 p8 p9)⟩, by rw [ht9]; exact hP, va_K.moved hW9.alike hK, hD⟩, hS.F ht9⟩) hS.2.2 dX9_readAll_71
set_option maxRecDepth 20000 in
theorem lf_f_snC9_1   : (nI 0) = nI 0 := by
  try have k_0 := ia_n 0 (by first | decide | omega)
  try simp only [ia_lt, ia_le, ia_eq, ia_m1, ia_0, ia_1, ne_eq, true_and, and_true, false_and, and_false, or_false, false_or, or_true, true_or, not_true_eq_false, not_false_eq_true] at *
  all_goals omega
set_option maxRecDepth 20000 in
theorem lf_f_snC9_2 (ccodeCount : Nat) (cones : Nat) (bt : Nat → Nat) (rlength : Nat) (rmostBytes : Nat) (rplace : Nat) (rkind : Int32) (rbegin : Nat) (rword : Int32) (rnumber : Int32) (rletters : Int64) (rtapeF : Nat → Int32) (lumps : Nat) (lumpNamesF : Nat → Int64) (gp : Nat) (gnu : Nat → Nat) (rfaultKindG_4 : Int32) (rfaultPlaceG_5 : Int32) (iv_cse_0 : ccodeCount ≤ 40) (iv_cse_1 : cones ≤ 20) (iv_rreader_0 : rlength ≤ 940) (iv_rreader_1 : rplace ≤ rlength) (iv_rreader_2 : rmostBytes ≤ 900) (iv_rreader_3 : rbegin ≤ 940) (hTC : TC bt rtapeF) (iv_a_4 : lumps ≤ 6) (hRT : RT bt rlength rmostBytes gp rkind rbegin rplace rword rnumber rletters) (hNL : NL gnu 0 lumps lumpNamesF) (hcc : ccodeCount ≤ 2 * cones) (p7 : isO (sAnd bt rlength rmostBytes gnu lumps 0 gp cones) = false) (p8 : rfaultKindG_4 = nI (erA (sAnd bt rlength rmostBytes gnu lumps 0 gp cones))) (p9 : rfaultPlaceG_5 = nI (erB (sAnd bt rlength rmostBytes gnu lumps 0 gp cones))) : isO (sOr bt rlength rmostBytes gnu lumps 0 gp cones) = false := by
  unfold sOr
  rw [sS_err (by assumption)]
  exact rfl
set_option maxRecDepth 20000 in
theorem lf_f_snC9_3 (ccodeCount : Nat) (cones : Nat) (bt : Nat → Nat) (rlength : Nat) (rmostBytes : Nat) (rplace : Nat) (rkind : Int32) (rbegin : Nat) (rword : Int32) (rnumber : Int32) (rletters : Int64) (rtapeF : Nat → Int32) (lumps : Nat) (lumpNamesF : Nat → Int64) (gp : Nat) (gnu : Nat → Nat) (rfaultKindG_4 : Int32) (rfaultPlaceG_5 : Int32) (iv_cse_0 : ccodeCount ≤ 40) (iv_cse_1 : cones ≤ 20) (iv_rreader_0 : rlength ≤ 940) (iv_rreader_1 : rplace ≤ rlength) (iv_rreader_2 : rmostBytes ≤ 900) (iv_rreader_3 : rbegin ≤ 940) (hTC : TC bt rtapeF) (iv_a_4 : lumps ≤ 6) (hRT : RT bt rlength rmostBytes gp rkind rbegin rplace rword rnumber rletters) (hNL : NL gnu 0 lumps lumpNamesF) (hcc : ccodeCount ≤ 2 * cones) (p7 : isO (sAnd bt rlength rmostBytes gnu lumps 0 gp cones) = false) (p8 : rfaultKindG_4 = nI (erA (sAnd bt rlength rmostBytes gnu lumps 0 gp cones))) (p9 : rfaultPlaceG_5 = nI (erB (sAnd bt rlength rmostBytes gnu lumps 0 gp cones))) : rfaultKindG_4 = nI (erA (sOr bt rlength rmostBytes gnu lumps 0 gp cones)) := by
  unfold sOr
  rw [sS_err (by assumption)]
  assumption
set_option maxRecDepth 20000 in
theorem lf_f_snC9_4 (ccodeCount : Nat) (cones : Nat) (bt : Nat → Nat) (rlength : Nat) (rmostBytes : Nat) (rplace : Nat) (rkind : Int32) (rbegin : Nat) (rword : Int32) (rnumber : Int32) (rletters : Int64) (rtapeF : Nat → Int32) (lumps : Nat) (lumpNamesF : Nat → Int64) (gp : Nat) (gnu : Nat → Nat) (rfaultKindG_4 : Int32) (rfaultPlaceG_5 : Int32) (iv_cse_0 : ccodeCount ≤ 40) (iv_cse_1 : cones ≤ 20) (iv_rreader_0 : rlength ≤ 940) (iv_rreader_1 : rplace ≤ rlength) (iv_rreader_2 : rmostBytes ≤ 900) (iv_rreader_3 : rbegin ≤ 940) (hTC : TC bt rtapeF) (iv_a_4 : lumps ≤ 6) (hRT : RT bt rlength rmostBytes gp rkind rbegin rplace rword rnumber rletters) (hNL : NL gnu 0 lumps lumpNamesF) (hcc : ccodeCount ≤ 2 * cones) (p7 : isO (sAnd bt rlength rmostBytes gnu lumps 0 gp cones) = false) (p8 : rfaultKindG_4 = nI (erA (sAnd bt rlength rmostBytes gnu lumps 0 gp cones))) (p9 : rfaultPlaceG_5 = nI (erB (sAnd bt rlength rmostBytes gnu lumps 0 gp cones))) : rfaultPlaceG_5 = nI (erB (sOr bt rlength rmostBytes gnu lumps 0 gp cones)) := by
  unfold sOr
  rw [sS_err (by assumption)]
  assumption
set_option maxHeartbeats 4000000 in
set_option maxRecDepth 100000 in
theorem c_f_snC9 (l : Launch) (dC : Nat → ClassId) (dI : Nat → Nat → Nat) (ky : Nat → ClassId) (sz : Nat) (adK : Nat → Nat) (adV : Nat → Nat) (se : Nat) (ccodes : Nat) (ccodeCount : Nat) (cones : Nat) (ccodesF : Nat → Int32) (bt : Nat → Nat) (reader : Nat) (rtape : Nat) (rlength : Nat) (rmostBytes : Nat) (rplace : Nat) (rkind : Int32) (rbegin : Nat) (rword : Int32) (rnumber : Int32) (rletters : Int64) (rfaultKind : Int32) (rfaultPlace : Int32) (rtapeF : Nat → Int32) (a : Nat) (wide : Nat) (high : Nat) (heat : Int32) (cools : Int32) (skinHeat : Int32) (today : Int32) (stirs : Int32) (steps : Int32) (lumps : Nat) (boats : Nat) (thickness : Nat) (lumpNames : Nat) (lumpCells : Nat) (boatNames : Nat) (boatCells : Nat) (loads : Nat) (spoons : Nat) (spoonsLeft : Nat) (depths : Nat) (lumpNamesF : Nat → Int64) (gp : Nat) (gnu : Nat → Nat) (iv_cse_0 : ccodeCount ≤ 40) (iv_cse_1 : cones ≤ 20) (iv_rreader_0 : rlength ≤ 940) (iv_rreader_1 : rplace ≤ rlength) (iv_rreader_2 : rmostBytes ≤ 900) (iv_rreader_3 : rbegin ≤ 940) (hTC : TC bt rtapeF) (iv_a_0 : 2 ≤ wide) (iv_a_1 : wide ≤ 6) (iv_a_2 : 2 ≤ high) (iv_a_3 : high ≤ 6) (iv_a_4 : lumps ≤ 6) (iv_a_5 : boats ≤ 6) (hRT : RT bt rlength rmostBytes gp rkind rbegin rplace rword rnumber rletters) (hNL : NL gnu 0 lumps lumpNamesF) (hcc : ccodeCount ≤ 2 * cones) : Met l yX9_readCond wsX9_readCond ({ frames := 4, cells := 0, slots := 0, locals := 93 }) (PcUE dC dI ky adK adV [.ref se, .ref reader, .ref a, .int (nI 9)] [(se, .inr (9, [.ref ccodes, .int (nI ccodeCount), .int (nI cones)])), (ccodes, .inl (ky 0, 40, .inl ccodesF)), (reader, .inr (5, [.ref rtape, .int (nI rlength), .int (nI rmostBytes), .int (nI rplace), .int rkind, .int (nI rbegin), .int rword, .int rnumber, .long rletters, .int rfaultKind, .int rfaultPlace])), (rtape, .inl (ky 2, 940, .inl rtapeF)), (a, .inr (7, [.int (nI wide), .int (nI high), .int heat, .int cools, .int skinHeat, .int today, .int stirs, .int steps, .int (nI lumps), .int (nI boats), .ref thickness, .ref lumpNames, .ref lumpCells, .ref boatNames, .ref boatCells, .ref loads, .ref spoons, .ref spoonsLeft, .ref depths])), (lumpNames, .inl (ky 1, 6, .inr (.inl lumpNamesF)))] sz) (va_Qi (fun (r : Int32) (u : Int32 × Int32) => match u with | (rfaultKindG, rfaultPlaceG) => (r = nI 0) ∧ (isO (sOr bt rlength rmostBytes gnu lumps 0 gp cones) = false) ∧ (rfaultKindG = nI (erA (sOr bt rlength rmostBytes gnu lumps 0 gp cones))) ∧ (rfaultPlaceG = nI (erB (sOr bt rlength rmostBytes gnu lumps 0 gp cones)))) (BU dC dI ky (fun (u : Int32 × Int32) => match u with | (rfaultKindG, rfaultPlaceG) => [(se, .inr (9, [.ref ccodes, .int (nI ccodeCount), .int (nI cones)])), (ccodes, .inl (ky 0, 40, .inl ccodesF)), (reader, .inr (5, [.ref rtape, .int (nI rlength), .int (nI rmostBytes), .int (nI rplace), .int rkind, .int (nI rbegin), .int rword, .int rnumber, .long rletters, .int rfaultKindG, .int rfaultPlaceG])), (rtape, .inl (ky 2, 940, .inl rtapeF)), (a, .inr (7, [.int (nI wide), .int (nI high), .int heat, .int cools, .int skinHeat, .int today, .int stirs, .int steps, .int (nI lumps), .int (nI boats), .ref thickness, .ref lumpNames, .ref lumpCells, .ref boatNames, .ref boatCells, .ref loads, .ref spoons, .ref spoonsLeft, .ref depths])), (lumpNames, .inl (ky 1, 6, .inr (.inl lumpNamesF)))]) (va_A [(se, .inr (9, [.ref ccodes, .int (nI ccodeCount), .int (nI cones)])), (ccodes, .inl (ky 0, 40, .inl ccodesF)), (reader, .inr (5, [.ref rtape, .int (nI rlength), .int (nI rmostBytes), .int (nI rplace), .int rkind, .int (nI rbegin), .int rword, .int rnumber, .long rletters, .int rfaultKind, .int rfaultPlace])), (rtape, .inl (ky 2, 940, .inl rtapeF)), (a, .inr (7, [.int (nI wide), .int (nI high), .int heat, .int cools, .int skinHeat, .int today, .int stirs, .int steps, .int (nI lumps), .int (nI boats), .ref thickness, .ref lumpNames, .ref lumpCells, .ref boatNames, .ref boatCells, .ref loads, .ref spoons, .ref spoonsLeft, .ref depths])), (lumpNames, .inl (ky 1, 6, .inr (.inl lumpNamesF)))] sz)) (va_A [(se, .inr (9, [.ref ccodes, .int (nI ccodeCount), .int (nI cones)])), (ccodes, .inl (ky 0, 40, .inl ccodesF)), (reader, .inr (5, [.ref rtape, .int (nI rlength), .int (nI rmostBytes), .int (nI rplace), .int rkind, .int (nI rbegin), .int rword, .int rnumber, .long rletters, .int rfaultKind, .int rfaultPlace])), (rtape, .inl (ky 2, 940, .inl rtapeF)), (a, .inr (7, [.int (nI wide), .int (nI high), .int heat, .int cools, .int skinHeat, .int today, .int stirs, .int steps, .int (nI lumps), .int (nI boats), .ref thickness, .ref lumpNames, .ref lumpCells, .ref boatNames, .ref boatCells, .ref loads, .ref spoons, .ref spoonsLeft, .ref depths])), (lumpNames, .inl (ky 1, 6, .inr (.inl lumpNamesF)))] sz)) 0 0 (va_A [(se, .inr (9, [.ref ccodes, .int (nI ccodeCount), .int (nI cones)])), (ccodes, .inl (ky 0, 40, .inl ccodesF)), (reader, .inr (5, [.ref rtape, .int (nI rlength), .int (nI rmostBytes), .int (nI rplace), .int rkind, .int (nI rbegin), .int rword, .int rnumber, .long rletters, .int rfaultKind, .int rfaultPlace])), (rtape, .inl (ky 2, 940, .inl rtapeF)), (a, .inr (7, [.int (nI wide), .int (nI high), .int heat, .int cools, .int skinHeat, .int today, .int stirs, .int steps, .int (nI lumps), .int (nI boats), .ref thickness, .ref lumpNames, .ref lumpCells, .ref boatNames, .ref boatCells, .ref loads, .ref spoons, .ref spoonsLeft, .ref depths])), (lumpNames, .inl (ky 1, 6, .inr (.inl lumpNamesF)))] sz) := by
  refine Met.ofW (cc := cX9_readCond) (maxL := 6) (ret := (some .boolean)) (by decide) rfl ?_
  intro p e s m args below meth c s₁ B hml hv
  obtain ⟨rfl, hsz, hP, hK, hD0, hE⟩ := hv
  have hx := B.exec
  have hb := B.bytes
  have hr := B.returns
  have hts := atoms_spec (ws := wsX9_readCond) B.pre
  have hown : s.vm.findClass RX9 = some m.cls := findClass_of_methodNamed B.named
  have hlocks := B.notSynchronized
  subst hsz
  have hD := hD0.self (sz := s.heap.size)
  generalize hAe : va_A [(se, .inr (9, [.ref ccodes, .int (nI ccodeCount), .int (nI cones)])), (ccodes, .inl (ky 0, 40, .inl ccodesF)), (reader, .inr (5, [.ref rtape, .int (nI rlength), .int (nI rmostBytes), .int (nI rplace), .int rkind, .int (nI rbegin), .int rword, .int rnumber, .long rletters, .int rfaultKind, .int rfaultPlace])), (rtape, .inl (ky 2, 940, .inl rtapeF)), (a, .inr (7, [.int (nI wide), .int (nI high), .int heat, .int cools, .int skinHeat, .int today, .int stirs, .int steps, .int (nI lumps), .int (nI boats), .ref thickness, .ref lumpNames, .ref lumpCells, .ref boatNames, .ref boatCells, .ref loads, .ref spoons, .ref spoonsLeft, .ref depths])), (lumpNames, .inl (ky 1, 6, .inr (.inl lumpNamesF)))] s.heap.size = A at hD hE ⊢
  have hA : ∀ q : Nat, s.heap.size ≤ q → A q := fun q h => by rw [← hAe]; exact Or.inr h
  have hS : va_S A s.heap s.heap [] := va_S.rf
  have hl := lv_entry ([.ref se, .ref reader, .ref a, .int (nI 9)]) (n := 6) (Nat.le_of_ble_eq_true rfl)
  rw [lg_entry_eq]
  generalize (lg_sl ([.ref se, .ref reader, .ref a, .int (nI 9)]) ++ List.replicate (6 - (lg_sl ([.ref se, .ref reader, .ref a, .int (nI 9)])).length) Slot.unset).toArray = ls at hl ⊢
  have hl : lv_has ls 6 [(0, .ref se), (1, .ref reader), (2, .ref a), (3, .int (nI 9))] := hl
  refine q_name (fun Q hQ => ?_)
  generalize ([.ref se, .ref reader, .ref a, .int (nI 9)] : List Value).toArray = args at hts hQ ⊢
  refine lv_aload_n hx hb dX9_readCond_0 rfl (lv_at hl 0 rfl) ?_
  refine lv_aload_n hx hb dX9_readCond_1 rfl (lv_at hl 1 rfl) ?_
  refine lv_aload_n hx hb dX9_readCond_2 rfl (lv_at hl 2 rfl) ?_
  refine lv_iload_n hx hb dX9_readCond_3 rfl (lv_at hl 3 rfl) ?_
  refine r_call_i (wr := []) (va_runV (As := [.ref reader, .ref a, .int (nI 9)]) (rest := []) ⟨hx, hb, hml, hown, hts⟩ (c_f_snA9 l dC dI ky s.heap.size adK adV se ccodes ccodeCount cones ccodesF bt reader rtape rlength rmostBytes rplace rkind rbegin rword rnumber rletters rfaultKind rfaultPlace rtapeF a wide high heat cools skinHeat today stirs steps lumps boats thickness lumpNames lumpCells boatNames boatCells loads spoons spoonsLeft depths lumpNamesF gp gnu iv_cse_0 iv_cse_1 iv_rreader_0 iv_rreader_1 iv_rreader_2 iv_rreader_3 hTC iv_a_0 iv_a_1 iv_a_2 iv_a_3 iv_a_4 iv_a_5 hRT hNL hcc) (cwV 3 hts gX9_readCond_X9_readAll rfl rfl rfl (by decide +kernel) ⟨(Nat.le_of_ble_eq_true rfl), (Nat.le_of_ble_eq_true rfl)⟩) (pre_UEV hE hS hA hK hP hD [0, 1, 2, 3, 4, 5] (by decide) rfl (va_recv hK hP (ci := 9) (q0 := 0) rfl rfl)) rfl rfl hl.1 rfl (lv_room (Nat.le_of_ble_eq_true rfl)) dX9_readCond_4 ⟨(Nat.le_of_ble_eq_true rfl), (Nat.le_of_ble_eq_true rfl)⟩) hP hD hS hA [0, 1, 2, 3, 4, 5] [] rfl rfl (by decide) (by decide) (fun r3 u1 H locs p2 hP hD hS => ?_)
  obtain ⟨rfaultKindG_4, rfaultPlaceG_5⟩ := u1
  try dsimp only at p2
  obtain ⟨p6, p7, p8, p9⟩ := p2
  refine W.widen (k := 0) (n := 0) (Nat.le_of_ble_eq_true rfl) (Nat.le_of_ble_eq_true rfl) ?_
  have hP : va_P (dC, dI) vwCl [(se, .inr (9, [.ref ccodes, .int (nI ccodeCount), .int (nI cones)])), (ccodes, .inl (ky 0, 40, .inl ccodesF)), (reader, .inr (5, [.ref rtape, .int (nI rlength), .int (nI rmostBytes), .int (nI rplace), .int rkind, .int (nI rbegin), .int rword, .int rnumber, .long rletters, .int rfaultKindG_4, .int rfaultPlaceG_5])), (rtape, .inl (ky 2, 940, .inl rtapeF)), (a, .inr (7, [.int (nI wide), .int (nI high), .int heat, .int cools, .int skinHeat, .int today, .int stirs, .int steps, .int (nI lumps), .int (nI boats), .ref thickness, .ref lumpNames, .ref lumpCells, .ref boatNames, .ref boatCells, .ref loads, .ref spoons, .ref spoonsLeft, .ref depths])), (lumpNames, .inl (ky 1, 6, .inr (.inl lumpNamesF)))] H := hP
  have hD : va_D A [(se, .inr (9, [.ref ccodes, .int (nI ccodeCount), .int (nI cones)])), (ccodes, .inl (ky 0, 40, .inl ccodesF)), (reader, .inr (5, [.ref rtape, .int (nI rlength), .int (nI rmostBytes), .int (nI rplace), .int rkind, .int (nI rbegin), .int rword, .int rnumber, .long rletters, .int rfaultKindG_4, .int rfaultPlaceG_5])), (rtape, .inl (ky 2, 940, .inl rtapeF)), (a, .inr (7, [.int (nI wide), .int (nI high), .int heat, .int cools, .int skinHeat, .int today, .int stirs, .int steps, .int (nI lumps), .int (nI boats), .ref thickness, .ref lumpNames, .ref lumpCells, .ref boatNames, .ref boatCells, .ref loads, .ref spoons, .ref spoonsLeft, .ref depths])), (lumpNames, .inl (ky 1, 6, .inr (.inl lumpNamesF)))] := hD
  subst p6
  refine lv_istore (lv' := [(4, .int (nI 0)), (0, .ref se), (1, .ref reader), (2, .ref a), (3, .int (nI 9))]) hx hb dX9_readCond_7 hl (by decide) rfl (fun ls hl => ?_)
  refine lv_iconst (v := nI 0) hx hb dX9_readCond_9 (by decide) ?_
  refine lv_istore (lv' := [(5, .int (nI 0)), (4, .int (nI 0)), (0, .ref se), (1, .ref reader), (2, .ref a), (3, .int (nI 9))]) hx hb dX9_readCond_10 hl (by decide) rfl (fun ls hl => ?_)
  refine lv_iload hx hb dX9_readCond_12 (lv_at hl 0 rfl) ?_
  refine lv_bipush (v := nI 20) hx hb dX9_readCond_14 (by decide) ?_
  refine lv_icmp_ge (tgt := 69) hx hb dX9_readCond_16 (by decide) (fun c10 => absurd c10 (by decide)) (fun c10 => ?_)
  refine lv_iload hx hb dX9_readCond_19 (lv_at hl 1 rfl) ?_
  refine lv_if_eq (tgt := 69) hx hb dX9_readCond_21 (by decide) (fun c11 => ?_) (fun c11 => absurd (by decide) c11)
  refine lv_iload hx hb dX9_readCond_69 (lv_at hl 1 rfl) ?_
  rw [hQ]
  exact W.zret (v := nI 0) hx hb hr (by decide) (fun t9 ht9 hW9 => ⟨⟨nI 0, (rfaultKindG_4, rfaultPlaceG_5), rfl, ⟨(lf_f_snC9_1), (lf_f_snC9_2 ccodeCount cones bt rlength rmostBytes rplace rkind rbegin rword rnumber rletters rtapeF lumps lumpNamesF gp gnu rfaultKindG_4 rfaultPlaceG_5 iv_cse_0 iv_cse_1 iv_rreader_0 iv_rreader_1 iv_rreader_2 iv_rreader_3 hTC iv_a_4 hRT hNL hcc p7 p8 p9), (lf_f_snC9_3 ccodeCount cones bt rlength rmostBytes rplace rkind rbegin rword rnumber rletters rtapeF lumps lumpNamesF gp gnu rfaultKindG_4 rfaultPlaceG_5 iv_cse_0 iv_cse_1 iv_rreader_0 iv_rreader_1 iv_rreader_2 iv_rreader_3 hTC iv_a_4 hRT hNL hcc p7 p8 p9), (lf_f_snC9_4 ccodeCount cones bt rlength rmostBytes rplace rkind rbegin rword rnumber rletters rtapeF lumps lumpNamesF gp gnu rfaultKindG_4 rfaultPlaceG_5 iv_cse_0 iv_cse_1 iv_rreader_0 iv_rreader_1 iv_rreader_2 iv_rreader_3 hTC iv_a_4 hRT hNL hcc p7 p8 p9)⟩, by rw [ht9]; exact hP, va_K.moved hW9.alike hK, hD⟩, hS.F ht9⟩) hS.2.2 dX9_readCond_71
set_option maxRecDepth 20000 in
theorem lf_f_sn18_1 (ccodeCount : Nat) (cones : Nat) (bt : Nat → Nat) (rlength : Nat) (rmostBytes : Nat) (rplace : Nat) (rkind : Int32) (rbegin : Nat) (rword : Int32) (rnumber : Int32) (rletters : Int64) (rfaultKind : Int32) (rfaultPlace : Int32) (rtapeF : Nat → Int32) (lumps : Nat) (lumpNamesF : Nat → Int64) (gp : Nat) (gnu : Nat → Nat) (r1 : Int32) (rfaultKindG_9 : Int32) (rfaultPlaceG_10 : Int32) (iv_cse_0 : ccodeCount ≤ 40) (iv_cse_1 : cones ≤ 20) (iv_rreader_0 : rlength ≤ 940) (iv_rreader_1 : rplace ≤ rlength) (iv_rreader_2 : rmostBytes ≤ 900) (iv_rreader_3 : rbegin ≤ 940) (hTC : TC bt rtapeF) (iv_a_4 : lumps ≤ 6) (hRT : RT bt rlength rmostBytes gp rkind rbegin rplace rword rnumber rletters) (hNL : NL gnu 0 lumps lumpNamesF) (hcc : ccodeCount ≤ 2 * cones) (p2 : r1 = rword) (c3 : rkind ≠ nI 40) (c5 : r1 < nI 22) (p12 : rfaultKindG_9 = (nI 1)) (p13 : rfaultPlaceG_10 = nI rbegin) : ((nI 0) = nI 1 ∧ (isO (sOne bt rlength rmostBytes gnu lumps 1 gp cones) = true ∧ RT bt rlength rmostBytes (srP (sOne bt rlength rmostBytes gnu lumps 1 gp cones)) rkind rbegin rplace rword rnumber rletters ∧ cones = srO (sOne bt rlength rmostBytes gnu lumps 1 gp cones) ∧ ccodeCount + 1 + 2 * cones ≤ ccodeCount + 2 * cones ∧ cones < cones ∧ rfaultKindG_9 = rfaultKind ∧ rfaultPlaceG_10 = rfaultPlace)) ∨ ((nI 0) = nI 0 ∧ (isO (sOne bt rlength rmostBytes gnu lumps 1 gp cones) = false ∧ rfaultKindG_9 = nI (erA (sOne bt rlength rmostBytes gnu lumps 1 gp cones)) ∧ rfaultPlaceG_10 = nI (erB (sOne bt rlength rmostBytes gnu lumps 1 gp cones)))) := by
  have k40 := RT_k hRT (c := 40) (by decide)
  have w3 := RT_w3 hRT
  have n40 : ¬ tK bt rlength rmostBytes gp = 40 := fun h9 => absurd (k40.mpr h9) (by assumption)
  have ns : ¬ sFst bt rlength rmostBytes gp := by
    unfold sFst
    rintro (h | h)
    · exact n40 h
    · exfalso
      have b_rkind := ia_b rkind
      have b_rword := ia_b rword
      have b_rnumber := ia_b rnumber
      have b_rfaultKind := ia_b rfaultKind
      have b_rfaultPlace := ia_b rfaultPlace
      have b_r1 := ia_b r1
      have b_rfaultKindG_9 := ia_b rfaultKindG_9
      have b_rfaultPlaceG_10 := ia_b rfaultPlaceG_10
      have b_rletters := Int64.toInt_lt rletters
      try have k_0 := ia_n 40 (by first | decide | omega)
      try have k_1 := ia_n 22 (by first | decide | omega)
      try have k_2 := ia_n 1 (by first | decide | omega)
      try have k_3 := ia_n rbegin (by first | decide | omega)
      try have k_4 := ia_n 0 (by first | decide | omega)
      try have k_5 := ia_n (erA (sOne bt rlength rmostBytes gnu lumps 1 gp cones)) (by first | decide | omega)
      try have k_6 := ia_n (erB (sOne bt rlength rmostBytes gnu lumps 1 gp cones)) (by first | decide | omega)
      try simp only [ia_lt, ia_le, ia_eq, ia_m1, ia_0, ia_1, ne_eq, true_and, and_true, false_and, and_false, or_false, false_or, or_true, true_or, not_true_eq_false, not_false_eq_true] at *
      all_goals omega
  rw [so_bad ns]
  exact Or.inr ⟨rfl, rfl, ‹_›, (Eq.trans (by assumption : _ = nI rbegin) (congrArg nI hRT.2.1))⟩
set_option maxRecDepth 20000 in
theorem lf_f_sn18_2 (ccodeCount : Nat) (cones : Nat) (bt : Nat → Nat) (rlength : Nat) (rmostBytes : Nat) (rplace : Nat) (rkind : Int32) (rbegin : Nat) (rword : Int32) (rnumber : Int32) (rletters : Int64) (rfaultKind : Int32) (rfaultPlace : Int32) (rtapeF : Nat → Int32) (lumps : Nat) (lumpNamesF : Nat → Int64) (gp : Nat) (gnu : Nat → Nat) (r1 : Int32) (rfaultKindG_19 : Int32) (rfaultPlaceG_20 : Int32) (iv_cse_0 : ccodeCount ≤ 40) (iv_cse_1 : cones ≤ 20) (iv_rreader_0 : rlength ≤ 940) (iv_rreader_1 : rplace ≤ rlength) (iv_rreader_2 : rmostBytes ≤ 900) (iv_rreader_3 : rbegin ≤ 940) (hTC : TC bt rtapeF) (iv_a_4 : lumps ≤ 6) (hRT : RT bt rlength rmostBytes gp rkind rbegin rplace rword rnumber rletters) (hNL : NL gnu 0 lumps lumpNamesF) (hcc : ccodeCount ≤ 2 * cones) (p2 : r1 = rword) (c3 : rkind ≠ nI 40) (c5 : ¬ r1 < nI 22) (c14 : r1 ≤ nI 30) (c15 : 20 ≤ cones) (p22 : rfaultKindG_19 = (nI 4)) (p23 : rfaultPlaceG_20 = nI rbegin) : ((nI 0) = nI 1 ∧ (isO (sOne bt rlength rmostBytes gnu lumps 1 gp cones) = true ∧ RT bt rlength rmostBytes (srP (sOne bt rlength rmostBytes gnu lumps 1 gp cones)) rkind rbegin rplace rword rnumber rletters ∧ cones = srO (sOne bt rlength rmostBytes gnu lumps 1 gp cones) ∧ ccodeCount + 1 + 2 * cones ≤ ccodeCount + 2 * cones ∧ cones < cones ∧ rfaultKindG_19 = rfaultKind ∧ rfaultPlaceG_20 = rfaultPlace)) ∨ ((nI 0) = nI 0 ∧ (isO (sOne bt rlength rmostBytes gnu lumps 1 gp cones) = false ∧ rfaultKindG_19 = nI (erA (sOne bt rlength rmostBytes gnu lumps 1 gp cones)) ∧ rfaultPlaceG_20 = nI (erB (sOne bt rlength rmostBytes gnu lumps 1 gp cones)))) := by
  have k40 := RT_k hRT (c := 40) (by decide)
  have w3 := RT_w3 hRT
  have r9 : 22 ≤ tW bt rlength rmostBytes gp ∧ tW bt rlength rmostBytes gp ≤ 30 := by
    have b_rkind := ia_b rkind
    have b_rword := ia_b rword
    have b_rnumber := ia_b rnumber
    have b_rfaultKind := ia_b rfaultKind
    have b_rfaultPlace := ia_b rfaultPlace
    have b_r1 := ia_b r1
    have b_rfaultKindG_19 := ia_b rfaultKindG_19
    have b_rfaultPlaceG_20 := ia_b rfaultPlaceG_20
    have b_rletters := Int64.toInt_lt rletters
    try have k_0 := ia_n 40 (by first | decide | omega)
    try have k_1 := ia_n 22 (by first | decide | omega)
    try have k_2 := ia_n 30 (by first | decide | omega)
    try have k_3 := ia_n 4 (by first | decide | omega)
    try have k_4 := ia_n rbegin (by first | decide | omega)
    try have k_5 := ia_n 0 (by first | decide | omega)
    try have k_6 := ia_n 1 (by first | decide | omega)
    try have k_7 := ia_n (erA (sOne bt rlength rmostBytes gnu lumps 1 gp cones)) (by first | decide | omega)
    try have k_8 := ia_n (erB (sOne bt rlength rmostBytes gnu lumps 1 gp cones)) (by first | decide | omega)
    try simp only [ia_lt, ia_le, ia_eq, ia_m1, ia_0, ia_1, ne_eq, true_and, and_true, false_and, and_false, or_false, false_or, or_true, true_or, not_true_eq_false, not_false_eq_true] at *
    all_goals omega
  have ys : sFst bt rlength rmostBytes gp := Or.inr r9
  rw [so_full ys (by omega)]
  exact Or.inr ⟨rfl, rfl, ‹_›, (Eq.trans (by assumption : _ = nI rbegin) (congrArg nI hRT.2.1))⟩
set_option maxRecDepth 20000 in
theorem lf_f_sn18_3 (ccodeCount : Nat) (cones : Nat) (iv_cse_0 : ccodeCount ≤ 40) (iv_cse_1 : cones ≤ 20) (hcc : ccodeCount ≤ 2 * cones) (c15 : cones < 20) : (cones + 1) ≤ 20 := by
  try simp only [ia_lt, ia_le, ia_eq, ia_m1, ia_0, ia_1, ne_eq, true_and, and_true, false_and, and_false, or_false, false_or, or_true, true_or, not_true_eq_false, not_false_eq_true] at *
  all_goals omega
set_option maxRecDepth 20000 in
theorem lf_f_sn18_4 (ccodeCount : Nat) (cones : Nat) (iv_cse_0 : ccodeCount ≤ 40) (iv_cse_1 : cones ≤ 20) (hcc : ccodeCount ≤ 2 * cones) (c15 : cones < 20) : ccodeCount < 40 := by
  try simp only [ia_lt, ia_le, ia_eq, ia_m1, ia_0, ia_1, ne_eq, true_and, and_true, false_and, and_false, or_false, false_or, or_true, true_or, not_true_eq_false, not_false_eq_true] at *
  all_goals omega
set_option maxRecDepth 20000 in
theorem lf_f_sn18_5 (ccodeCount : Nat) (cones : Nat) (bt : Nat → Nat) (rlength : Nat) (rmostBytes : Nat) (rplace : Nat) (rkind : Int32) (rbegin : Nat) (rword : Int32) (rnumber : Int32) (rletters : Int64) (rfaultKind : Int32) (rfaultPlace : Int32) (rtapeF : Nat → Int32) (lumps : Nat) (lumpNamesF : Nat → Int64) (gp : Nat) (gnu : Nat → Nat) (r1 : Int32) (rplaceG_27 : Nat) (rkindG_28 : Int32) (rbeginG_29 : Nat) (rwordG_30 : Int32) (rnumberG_31 : Int32) (rlettersG_32 : Int64) (ccodeCountG_43 : Nat) (iv_cse_0 : ccodeCount ≤ 40) (iv_cse_1 : cones ≤ 20) (iv_rreader_0 : rlength ≤ 940) (iv_rreader_1 : rplace ≤ rlength) (iv_rreader_2 : rmostBytes ≤ 900) (iv_rreader_3 : rbegin ≤ 940) (hTC : TC bt rtapeF) (iv_a_4 : lumps ≤ 6) (hRT : RT bt rlength rmostBytes gp rkind rbegin rplace rword rnumber rletters) (hNL : NL gnu 0 lumps lumpNamesF) (hcc : ccodeCount ≤ 2 * cones) (p2 : r1 = rword) (c3 : rkind ≠ nI 40) (c5 : ¬ r1 < nI 22) (c14 : r1 ≤ nI 30) (c15 : cones < 20) (p33 : rplaceG_27 ≤ rlength) (p34 : rbeginG_29 ≤ 940) (p35 : RT bt rlength rmostBytes (tT bt rlength rmostBytes gp) rkindG_28 rbeginG_29 rplaceG_27 rwordG_30 rnumberG_31 rlettersG_32) (c37 : r1 ≠ nI 22) (c38 : r1 ≠ nI 26) (c39 : r1 < nI 27) (p46 : ccodeCountG_43 ≤ 40) (p47 : ccodeCountG_43 = ccodeCount + 1) : ((nI 1) = nI 1 ∧ (isO (sOne bt rlength rmostBytes gnu lumps 1 gp cones) = true ∧ RT bt rlength rmostBytes (srP (sOne bt rlength rmostBytes gnu lumps 1 gp cones)) rkindG_28 rbeginG_29 rplaceG_27 rwordG_30 rnumberG_31 rlettersG_32 ∧ (cones + 1) = srO (sOne bt rlength rmostBytes gnu lumps 1 gp cones) ∧ ccodeCountG_43 + 1 + 2 * cones ≤ ccodeCount + 2 * (cones + 1) ∧ cones < (cones + 1) ∧ rfaultKind = rfaultKind ∧ rfaultPlace = rfaultPlace)) ∨ ((nI 1) = nI 0 ∧ (isO (sOne bt rlength rmostBytes gnu lumps 1 gp cones) = false ∧ rfaultKind = nI (erA (sOne bt rlength rmostBytes gnu lumps 1 gp cones)) ∧ rfaultPlace = nI (erB (sOne bt rlength rmostBytes gnu lumps 1 gp cones)))) := by
  have k40 := RT_k hRT (c := 40) (by decide)
  have w3 := RT_w3 hRT
  have n40 : ¬ tK bt rlength rmostBytes gp = 40 := fun h9 => absurd (k40.mpr h9) (by assumption)
  have o20 : ¬ 20 ≤ cones := by omega
  have wv : 23 ≤ tW bt rlength rmostBytes gp ∧ tW bt rlength rmostBytes gp ≤ 25 := by
    have b_rkind := ia_b rkind
    have b_rword := ia_b rword
    have b_rnumber := ia_b rnumber
    have b_rfaultKind := ia_b rfaultKind
    have b_rfaultPlace := ia_b rfaultPlace
    have b_r1 := ia_b r1
    have b_rkindG_28 := ia_b rkindG_28
    have b_rwordG_30 := ia_b rwordG_30
    have b_rnumberG_31 := ia_b rnumberG_31
    have b_rletters := Int64.toInt_lt rletters
    have b_rlettersG_32 := Int64.toInt_lt rlettersG_32
    try have k_0 := ia_n 40 (by first | decide | omega)
    try have k_1 := ia_n 22 (by first | decide | omega)
    try have k_2 := ia_n 30 (by first | decide | omega)
    try have k_3 := ia_n 26 (by first | decide | omega)
    try have k_4 := ia_n 27 (by first | decide | omega)
    try have k_5 := ia_n 1 (by first | decide | omega)
    try have k_6 := ia_n 0 (by first | decide | omega)
    try have k_7 := ia_n (erA (sOne bt rlength rmostBytes gnu lumps 1 gp cones)) (by first | decide | omega)
    try have k_8 := ia_n (erB (sOne bt rlength rmostBytes gnu lumps 1 gp cones)) (by first | decide | omega)
    try simp only [ia_lt, ia_le, ia_eq, ia_m1, ia_0, ia_1, ne_eq, true_and, and_true, false_and, and_false, or_false, false_or, or_true, true_or, not_true_eq_false, not_false_eq_true] at *
    all_goals omega
  rw [so_at n40 wv.1 wv.2 o20]
  exact Or.inl ⟨rfl, rfl, ‹_›, rfl, by omega, by omega, (by first | rfl | assumption | (subst_vars; rfl) | (subst_vars; assumption)), (by first | rfl | assumption | (subst_vars; rfl) | (subst_vars; assumption))⟩
set_option maxRecDepth 20000 in
theorem lf_f_sn18_6 (ccodeCount : Nat) (cones : Nat) (ccodeCountG_43 : Nat) (iv_cse_0 : ccodeCount ≤ 40) (iv_cse_1 : cones ≤ 20) (hcc : ccodeCount ≤ 2 * cones) (c15 : cones < 20) (p46 : ccodeCountG_43 ≤ 40) (p47 : ccodeCountG_43 = ccodeCount + 1) : (cones + 1) ≤ 20 := by
  try simp only [ia_lt, ia_le, ia_eq, ia_m1, ia_0, ia_1, ne_eq, true_and, and_true, false_and, and_false, or_false, false_or, or_true, true_or, not_true_eq_false, not_false_eq_true] at *
  all_goals omega
set_option maxRecDepth 20000 in
theorem lf_f_sn18_7 (ccodeCount : Nat) (cones : Nat) (iv_cse_0 : ccodeCount ≤ 40) (iv_cse_1 : cones ≤ 20) (hcc : ccodeCount ≤ 2 * cones) (c15 : cones < 20) : (cones + 1) ≤ 20 := by
  try simp only [ia_lt, ia_le, ia_eq, ia_m1, ia_0, ia_1, ne_eq, true_and, and_true, false_and, and_false, or_false, false_or, or_true, true_or, not_true_eq_false, not_false_eq_true] at *
  all_goals omega
set_option maxRecDepth 20000 in
theorem lf_f_sn18_8 (ccodeCount : Nat) (cones : Nat) (iv_cse_0 : ccodeCount ≤ 40) (iv_cse_1 : cones ≤ 20) (hcc : ccodeCount ≤ 2 * cones) (c15 : cones < 20) : ccodeCount < 40 := by
  try simp only [ia_lt, ia_le, ia_eq, ia_m1, ia_0, ia_1, ne_eq, true_and, and_true, false_and, and_false, or_false, false_or, or_true, true_or, not_true_eq_false, not_false_eq_true] at *
  all_goals omega
set_option maxRecDepth 20000 in
theorem lf_f_sn18_9 (ccodeCount : Nat) (cones : Nat) (bt : Nat → Nat) (rlength : Nat) (rmostBytes : Nat) (rplace : Nat) (rkind : Int32) (rbegin : Nat) (rword : Int32) (rnumber : Int32) (rletters : Int64) (rfaultKind : Int32) (rfaultPlace : Int32) (rtapeF : Nat → Int32) (lumps : Nat) (lumpNamesF : Nat → Int64) (gp : Nat) (gnu : Nat → Nat) (r1 : Int32) (rplaceG_27 : Nat) (rkindG_28 : Int32) (rbeginG_29 : Nat) (rwordG_30 : Int32) (rnumberG_31 : Int32) (rlettersG_32 : Int64) (ccodeCountG_51 : Nat) (rplaceG_53 : Nat) (rkindG_54 : Int32) (rbeginG_55 : Nat) (rwordG_56 : Int32) (rnumberG_57 : Int32) (rlettersG_58 : Int64) (rfaultKindG_59 : Int32) (rfaultPlaceG_60 : Int32) (iv_cse_0 : ccodeCount ≤ 40) (iv_cse_1 : cones ≤ 20) (iv_rreader_0 : rlength ≤ 940) (iv_rreader_1 : rplace ≤ rlength) (iv_rreader_2 : rmostBytes ≤ 900) (iv_rreader_3 : rbegin ≤ 940) (hTC : TC bt rtapeF) (iv_a_4 : lumps ≤ 6) (hRT : RT bt rlength rmostBytes gp rkind rbegin rplace rword rnumber rletters) (hNL : NL gnu 0 lumps lumpNamesF) (hcc : ccodeCount ≤ 2 * cones) (p2 : r1 = rword) (c3 : rkind ≠ nI 40) (c5 : ¬ r1 < nI 22) (c14 : r1 ≤ nI 30) (c15 : cones < 20) (p33 : rplaceG_27 ≤ rlength) (p34 : rbeginG_29 ≤ 940) (p35 : RT bt rlength rmostBytes (tT bt rlength rmostBytes gp) rkindG_28 rbeginG_29 rplaceG_27 rwordG_30 rnumberG_31 rlettersG_32) (c37 : r1 ≠ nI 22) (c38 : r1 ≠ nI 26) (c39 : ¬ r1 < nI 27) (p62 : ccodeCountG_51 ≤ 40) (p63 : rplaceG_53 ≤ rlength) (p64 : rbeginG_55 ≤ 940) (t65 : isO (pCmp bt rlength rmostBytes (tT bt rlength rmostBytes gp)) = true) (t66 : RT bt rlength rmostBytes (okV (pCmp bt rlength rmostBytes (tT bt rlength rmostBytes gp))) rkindG_54 rbeginG_55 rplaceG_53 rwordG_56 rnumberG_57 rlettersG_58) (t67 : ccodeCountG_51 = ccodeCount + 1) (t68 : rfaultKindG_59 = rfaultKind) (t69 : rfaultPlaceG_60 = rfaultPlace) : ((nI 1) = nI 1 ∧ (isO (sOne bt rlength rmostBytes gnu lumps 1 gp cones) = true ∧ RT bt rlength rmostBytes (srP (sOne bt rlength rmostBytes gnu lumps 1 gp cones)) rkindG_54 rbeginG_55 rplaceG_53 rwordG_56 rnumberG_57 rlettersG_58 ∧ (cones + 1) = srO (sOne bt rlength rmostBytes gnu lumps 1 gp cones) ∧ ccodeCountG_51 + 1 + 2 * cones ≤ ccodeCount + 2 * (cones + 1) ∧ cones < (cones + 1) ∧ rfaultKindG_59 = rfaultKind ∧ rfaultPlaceG_60 = rfaultPlace)) ∨ ((nI 1) = nI 0 ∧ (isO (sOne bt rlength rmostBytes gnu lumps 1 gp cones) = false ∧ rfaultKindG_59 = nI (erA (sOne bt rlength rmostBytes gnu lumps 1 gp cones)) ∧ rfaultPlaceG_60 = nI (erB (sOne bt rlength rmostBytes gnu lumps 1 gp cones)))) := by
  have k40 := RT_k hRT (c := 40) (by decide)
  have w3 := RT_w3 hRT
  have n40 : ¬ tK bt rlength rmostBytes gp = 40 := fun h9 => absurd (k40.mpr h9) (by assumption)
  have o20 : ¬ 20 ≤ cones := by omega
  have wv : 27 ≤ tW bt rlength rmostBytes gp ∧ tW bt rlength rmostBytes gp ≤ 30 := by
    have b_rkind := ia_b rkind
    have b_rword := ia_b rword
    have b_rnumber := ia_b rnumber
    have b_rfaultKind := ia_b rfaultKind
    have b_rfaultPlace := ia_b rfaultPlace
    have b_r1 := ia_b r1
    have b_rkindG_28 := ia_b rkindG_28
    have b_rwordG_30 := ia_b rwordG_30
    have b_rnumberG_31 := ia_b rnumberG_31
    have b_rkindG_54 := ia_b rkindG_54
    have b_rwordG_56 := ia_b rwordG_56
    have b_rnumberG_57 := ia_b rnumberG_57
    have b_rfaultKindG_59 := ia_b rfaultKindG_59
    have b_rfaultPlaceG_60 := ia_b rfaultPlaceG_60
    have b_rletters := Int64.toInt_lt rletters
    have b_rlettersG_32 := Int64.toInt_lt rlettersG_32
    have b_rlettersG_58 := Int64.toInt_lt rlettersG_58
    try have k_0 := ia_n 40 (by first | decide | omega)
    try have k_1 := ia_n 22 (by first | decide | omega)
    try have k_2 := ia_n 30 (by first | decide | omega)
    try have k_3 := ia_n 26 (by first | decide | omega)
    try have k_4 := ia_n 27 (by first | decide | omega)
    try have k_5 := ia_n 1 (by first | decide | omega)
    try have k_6 := ia_n 0 (by first | decide | omega)
    try have k_7 := ia_n (erA (sOne bt rlength rmostBytes gnu lumps 1 gp cones)) (by first | decide | omega)
    try have k_8 := ia_n (erB (sOne bt rlength rmostBytes gnu lumps 1 gp cones)) (by first | decide | omega)
    try simp only [ia_lt, ia_le, ia_eq, ia_m1, ia_0, ia_1, ne_eq, true_and, and_true, false_and, and_false, or_false, false_or, or_true, true_or, not_true_eq_false, not_false_eq_true] at *
    all_goals omega
  rw [so_cmp n40 wv.1 wv.2 o20]
  rw [sAt_o (by assumption)]
  exact Or.inl ⟨rfl, rfl, ‹_›, rfl, by omega, by omega, (by first | rfl | assumption | (subst_vars; rfl) | (subst_vars; assumption)), (by first | rfl | assumption | (subst_vars; rfl) | (subst_vars; assumption))⟩
set_option maxRecDepth 20000 in
theorem lf_f_sn18_10 (ccodeCount : Nat) (cones : Nat) (ccodeCountG_51 : Nat) (iv_cse_0 : ccodeCount ≤ 40) (iv_cse_1 : cones ≤ 20) (hcc : ccodeCount ≤ 2 * cones) (c15 : cones < 20) (p62 : ccodeCountG_51 ≤ 40) (t67 : ccodeCountG_51 = ccodeCount + 1) : (cones + 1) ≤ 20 := by
  try simp only [ia_lt, ia_le, ia_eq, ia_m1, ia_0, ia_1, ne_eq, true_and, and_true, false_and, and_false, or_false, false_or, or_true, true_or, not_true_eq_false, not_false_eq_true] at *
  all_goals omega
set_option maxRecDepth 20000 in
theorem lf_f_sn18_11 (ccodeCount : Nat) (cones : Nat) (bt : Nat → Nat) (rlength : Nat) (rmostBytes : Nat) (rplace : Nat) (rkind : Int32) (rbegin : Nat) (rword : Int32) (rnumber : Int32) (rletters : Int64) (rfaultKind : Int32) (rfaultPlace : Int32) (rtapeF : Nat → Int32) (lumps : Nat) (lumpNamesF : Nat → Int64) (gp : Nat) (gnu : Nat → Nat) (r1 : Int32) (rplaceG_27 : Nat) (rkindG_28 : Int32) (rbeginG_29 : Nat) (rwordG_30 : Int32) (rnumberG_31 : Int32) (rlettersG_32 : Int64) (ccodeCountG_51 : Nat) (rplaceG_53 : Nat) (rkindG_54 : Int32) (rbeginG_55 : Nat) (rwordG_56 : Int32) (rnumberG_57 : Int32) (rlettersG_58 : Int64) (rfaultKindG_59 : Int32) (rfaultPlaceG_60 : Int32) (iv_cse_0 : ccodeCount ≤ 40) (iv_cse_1 : cones ≤ 20) (iv_rreader_0 : rlength ≤ 940) (iv_rreader_1 : rplace ≤ rlength) (iv_rreader_2 : rmostBytes ≤ 900) (iv_rreader_3 : rbegin ≤ 940) (hTC : TC bt rtapeF) (iv_a_4 : lumps ≤ 6) (hRT : RT bt rlength rmostBytes gp rkind rbegin rplace rword rnumber rletters) (hNL : NL gnu 0 lumps lumpNamesF) (hcc : ccodeCount ≤ 2 * cones) (p2 : r1 = rword) (c3 : rkind ≠ nI 40) (c5 : ¬ r1 < nI 22) (c14 : r1 ≤ nI 30) (c15 : cones < 20) (p33 : rplaceG_27 ≤ rlength) (p34 : rbeginG_29 ≤ 940) (p35 : RT bt rlength rmostBytes (tT bt rlength rmostBytes gp) rkindG_28 rbeginG_29 rplaceG_27 rwordG_30 rnumberG_31 rlettersG_32) (c37 : r1 ≠ nI 22) (c38 : r1 ≠ nI 26) (c39 : ¬ r1 < nI 27) (p62 : ccodeCountG_51 ≤ 40) (p63 : rplaceG_53 ≤ rlength) (p64 : rbeginG_55 ≤ 940) (t70 : isO (pCmp bt rlength rmostBytes (tT bt rlength rmostBytes gp)) = false) (t71 : rfaultKindG_59 = nI (erA (pCmp bt rlength rmostBytes (tT bt rlength rmostBytes gp)))) (t72 : rfaultPlaceG_60 = nI (erB (pCmp bt rlength rmostBytes (tT bt rlength rmostBytes gp)))) : ((nI 0) = nI 1 ∧ (isO (sOne bt rlength rmostBytes gnu lumps 1 gp cones) = true ∧ RT bt rlength rmostBytes (srP (sOne bt rlength rmostBytes gnu lumps 1 gp cones)) rkindG_54 rbeginG_55 rplaceG_53 rwordG_56 rnumberG_57 rlettersG_58 ∧ (cones + 1) = srO (sOne bt rlength rmostBytes gnu lumps 1 gp cones) ∧ ccodeCountG_51 + 1 + 2 * cones ≤ ccodeCount + 2 * (cones + 1) ∧ cones < (cones + 1) ∧ rfaultKindG_59 = rfaultKind ∧ rfaultPlaceG_60 = rfaultPlace)) ∨ ((nI 0) = nI 0 ∧ (isO (sOne bt rlength rmostBytes gnu lumps 1 gp cones) = false ∧ rfaultKindG_59 = nI (erA (sOne bt rlength rmostBytes gnu lumps 1 gp cones)) ∧ rfaultPlaceG_60 = nI (erB (sOne bt rlength rmostBytes gnu lumps 1 gp cones)))) := by
  have k40 := RT_k hRT (c := 40) (by decide)
  have w3 := RT_w3 hRT
  have n40 : ¬ tK bt rlength rmostBytes gp = 40 := fun h9 => absurd (k40.mpr h9) (by assumption)
  have o20 : ¬ 20 ≤ cones := by omega
  have wv : 27 ≤ tW bt rlength rmostBytes gp ∧ tW bt rlength rmostBytes gp ≤ 30 := by
    have b_rkind := ia_b rkind
    have b_rword := ia_b rword
    have b_rnumber := ia_b rnumber
    have b_rfaultKind := ia_b rfaultKind
    have b_rfaultPlace := ia_b rfaultPlace
    have b_r1 := ia_b r1
    have b_rkindG_28 := ia_b rkindG_28
    have b_rwordG_30 := ia_b rwordG_30
    have b_rnumberG_31 := ia_b rnumberG_31
    have b_rkindG_54 := ia_b rkindG_54
    have b_rwordG_56 := ia_b rwordG_56
    have b_rnumberG_57 := ia_b rnumberG_57
    have b_rfaultKindG_59 := ia_b rfaultKindG_59
    have b_rfaultPlaceG_60 := ia_b rfaultPlaceG_60
    have b_rletters := Int64.toInt_lt rletters
    have b_rlettersG_32 := Int64.toInt_lt rlettersG_32
    have b_rlettersG_58 := Int64.toInt_lt rlettersG_58
    try have k_0 := ia_n 40 (by first | decide | omega)
    try have k_1 := ia_n 22 (by first | decide | omega)
    try have k_2 := ia_n 30 (by first | decide | omega)
    try have k_3 := ia_n 26 (by first | decide | omega)
    try have k_4 := ia_n 27 (by first | decide | omega)
    try have k_5 := ia_n (erA (pCmp bt rlength rmostBytes (tT bt rlength rmostBytes gp))) (by first | decide | omega)
    try have k_6 := ia_n (erB (pCmp bt rlength rmostBytes (tT bt rlength rmostBytes gp))) (by first | decide | omega)
    try have k_7 := ia_n 0 (by first | decide | omega)
    try have k_8 := ia_n 1 (by first | decide | omega)
    try have k_9 := ia_n (erA (sOne bt rlength rmostBytes gnu lumps 1 gp cones)) (by first | decide | omega)
    try have k_10 := ia_n (erB (sOne bt rlength rmostBytes gnu lumps 1 gp cones)) (by first | decide | omega)
    try simp only [ia_lt, ia_le, ia_eq, ia_m1, ia_0, ia_1, ne_eq, true_and, and_true, false_and, and_false, or_false, false_or, or_true, true_or, not_true_eq_false, not_false_eq_true] at *
    all_goals omega
  rw [so_cmp n40 wv.1 wv.2 o20]
  rw [sAt_e (by assumption)]
  exact Or.inr ⟨rfl, rfl, ‹_›, ‹_›⟩
set_option maxRecDepth 20000 in
theorem lf_f_sn18_12 (ccodeCount : Nat) (cones : Nat) (iv_cse_0 : ccodeCount ≤ 40) (iv_cse_1 : cones ≤ 20) (hcc : ccodeCount ≤ 2 * cones) (c15 : cones < 20) : (cones + 1) ≤ 20 := by
  try simp only [ia_lt, ia_le, ia_eq, ia_m1, ia_0, ia_1, ne_eq, true_and, and_true, false_and, and_false, or_false, false_or, or_true, true_or, not_true_eq_false, not_false_eq_true] at *
  all_goals omega
set_option maxRecDepth 20000 in
theorem lf_f_sn18_13 (ccodeCount : Nat) (cones : Nat) (iv_cse_0 : ccodeCount ≤ 40) (iv_cse_1 : cones ≤ 20) (hcc : ccodeCount ≤ 2 * cones) (c15 : cones < 20) : (cones + 1) ≤ 20 := by
  try simp only [ia_lt, ia_le, ia_eq, ia_m1, ia_0, ia_1, ne_eq, true_and, and_true, false_and, and_false, or_false, false_or, or_true, true_or, not_true_eq_false, not_false_eq_true] at *
  all_goals omega
set_option maxRecDepth 20000 in
theorem lf_f_sn18_14 (ccodeCount : Nat) (cones : Nat) (iv_cse_0 : ccodeCount ≤ 40) (iv_cse_1 : cones ≤ 20) (hcc : ccodeCount ≤ 2 * cones) (c15 : cones < 20) : ccodeCount < 40 := by
  try simp only [ia_lt, ia_le, ia_eq, ia_m1, ia_0, ia_1, ne_eq, true_and, and_true, false_and, and_false, or_false, false_or, or_true, true_or, not_true_eq_false, not_false_eq_true] at *
  all_goals omega
set_option maxRecDepth 20000 in
theorem lf_f_sn18_15 (ccodeCount : Nat) (cones : Nat) (bt : Nat → Nat) (rlength : Nat) (rmostBytes : Nat) (rplace : Nat) (rkind : Int32) (rbegin : Nat) (rword : Int32) (rnumber : Int32) (rletters : Int64) (rfaultKind : Int32) (rfaultPlace : Int32) (rtapeF : Nat → Int32) (lumps : Nat) (lumpNamesF : Nat → Int64) (gp : Nat) (gnu : Nat → Nat) (r1 : Int32) (rplaceG_27 : Nat) (rkindG_28 : Int32) (rbeginG_29 : Nat) (rwordG_30 : Int32) (rnumberG_31 : Int32) (rlettersG_32 : Int64) (ccodeCountG_76 : Nat) (rplaceG_78 : Nat) (rkindG_79 : Int32) (rbeginG_80 : Nat) (rwordG_81 : Int32) (rnumberG_82 : Int32) (rlettersG_83 : Int64) (rfaultKindG_84 : Int32) (rfaultPlaceG_85 : Int32) (iv_cse_0 : ccodeCount ≤ 40) (iv_cse_1 : cones ≤ 20) (iv_rreader_0 : rlength ≤ 940) (iv_rreader_1 : rplace ≤ rlength) (iv_rreader_2 : rmostBytes ≤ 900) (iv_rreader_3 : rbegin ≤ 940) (hTC : TC bt rtapeF) (iv_a_4 : lumps ≤ 6) (hRT : RT bt rlength rmostBytes gp rkind rbegin rplace rword rnumber rletters) (hNL : NL gnu 0 lumps lumpNamesF) (hcc : ccodeCount ≤ 2 * cones) (p2 : r1 = rword) (c3 : rkind ≠ nI 40) (c5 : ¬ r1 < nI 22) (c14 : r1 ≤ nI 30) (c15 : cones < 20) (p33 : rplaceG_27 ≤ rlength) (p34 : rbeginG_29 ≤ 940) (p35 : RT bt rlength rmostBytes (tT bt rlength rmostBytes gp) rkindG_28 rbeginG_29 rplaceG_27 rwordG_30 rnumberG_31 rlettersG_32) (c37 : r1 ≠ nI 22) (c38 : r1 = nI 26) (p87 : ccodeCountG_76 ≤ 40) (p88 : rplaceG_78 ≤ rlength) (p89 : rbeginG_80 ≤ 940) (t90 : isO (pBy bt rlength rmostBytes gnu lumps (tT bt rlength rmostBytes gp)) = true) (t91 : RT bt rlength rmostBytes (okV (pBy bt rlength rmostBytes gnu lumps (tT bt rlength rmostBytes gp))) rkindG_79 rbeginG_80 rplaceG_78 rwordG_81 rnumberG_82 rlettersG_83) (t92 : ccodeCountG_76 = ccodeCount + 1) (t93 : rfaultKindG_84 = rfaultKind) (t94 : rfaultPlaceG_85 = rfaultPlace) : ((nI 1) = nI 1 ∧ (isO (sOne bt rlength rmostBytes gnu lumps 1 gp cones) = true ∧ RT bt rlength rmostBytes (srP (sOne bt rlength rmostBytes gnu lumps 1 gp cones)) rkindG_79 rbeginG_80 rplaceG_78 rwordG_81 rnumberG_82 rlettersG_83 ∧ (cones + 1) = srO (sOne bt rlength rmostBytes gnu lumps 1 gp cones) ∧ ccodeCountG_76 + 1 + 2 * cones ≤ ccodeCount + 2 * (cones + 1) ∧ cones < (cones + 1) ∧ rfaultKindG_84 = rfaultKind ∧ rfaultPlaceG_85 = rfaultPlace)) ∨ ((nI 1) = nI 0 ∧ (isO (sOne bt rlength rmostBytes gnu lumps 1 gp cones) = false ∧ rfaultKindG_84 = nI (erA (sOne bt rlength rmostBytes gnu lumps 1 gp cones)) ∧ rfaultPlaceG_85 = nI (erB (sOne bt rlength rmostBytes gnu lumps 1 gp cones)))) := by
  have k40 := RT_k hRT (c := 40) (by decide)
  have w3 := RT_w3 hRT
  have n40 : ¬ tK bt rlength rmostBytes gp = 40 := fun h9 => absurd (k40.mpr h9) (by assumption)
  have o20 : ¬ 20 ≤ cones := by omega
  have wv : tW bt rlength rmostBytes gp = 26 := by
    have b_rkind := ia_b rkind
    have b_rword := ia_b rword
    have b_rnumber := ia_b rnumber
    have b_rfaultKind := ia_b rfaultKind
    have b_rfaultPlace := ia_b rfaultPlace
    have b_r1 := ia_b r1
    have b_rkindG_28 := ia_b rkindG_28
    have b_rwordG_30 := ia_b rwordG_30
    have b_rnumberG_31 := ia_b rnumberG_31
    have b_rkindG_79 := ia_b rkindG_79
    have b_rwordG_81 := ia_b rwordG_81
    have b_rnumberG_82 := ia_b rnumberG_82
    have b_rfaultKindG_84 := ia_b rfaultKindG_84
    have b_rfaultPlaceG_85 := ia_b rfaultPlaceG_85
    have b_rletters := Int64.toInt_lt rletters
    have b_rlettersG_32 := Int64.toInt_lt rlettersG_32
    have b_rlettersG_83 := Int64.toInt_lt rlettersG_83
    try have k_0 := ia_n 40 (by first | decide | omega)
    try have k_1 := ia_n 22 (by first | decide | omega)
    try have k_2 := ia_n 30 (by first | decide | omega)
    try have k_3 := ia_n 26 (by first | decide | omega)
    try have k_4 := ia_n 1 (by first | decide | omega)
    try have k_5 := ia_n 0 (by first | decide | omega)
    try have k_6 := ia_n (erA (sOne bt rlength rmostBytes gnu lumps 1 gp cones)) (by first | decide | omega)
    try have k_7 := ia_n (erB (sOne bt rlength rmostBytes gnu lumps 1 gp cones)) (by first | decide | omega)
    try simp only [ia_lt, ia_le, ia_eq, ia_m1, ia_0, ia_1, ne_eq, true_and, and_true, false_and, and_false, or_false, false_or, or_true, true_or, not_true_eq_false, not_false_eq_true] at *
    all_goals omega
  rw [so_by n40 wv o20]
  rw [sAt_o (by assumption)]
  exact Or.inl ⟨rfl, rfl, ‹_›, rfl, by omega, by omega, (by first | rfl | assumption | (subst_vars; rfl) | (subst_vars; assumption)), (by first | rfl | assumption | (subst_vars; rfl) | (subst_vars; assumption))⟩
set_option maxRecDepth 20000 in
theorem lf_f_sn18_16 (ccodeCount : Nat) (cones : Nat) (ccodeCountG_76 : Nat) (iv_cse_0 : ccodeCount ≤ 40) (iv_cse_1 : cones ≤ 20) (hcc : ccodeCount ≤ 2 * cones) (c15 : cones < 20) (p87 : ccodeCountG_76 ≤ 40) (t92 : ccodeCountG_76 = ccodeCount + 1) : (cones + 1) ≤ 20 := by
  try simp only [ia_lt, ia_le, ia_eq, ia_m1, ia_0, ia_1, ne_eq, true_and, and_true, false_and, and_false, or_false, false_or, or_true, true_or, not_true_eq_false, not_false_eq_true] at *
  all_goals omega
set_option maxRecDepth 20000 in
theorem lf_f_sn18_17 (ccodeCount : Nat) (cones : Nat) (bt : Nat → Nat) (rlength : Nat) (rmostBytes : Nat) (rplace : Nat) (rkind : Int32) (rbegin : Nat) (rword : Int32) (rnumber : Int32) (rletters : Int64) (rfaultKind : Int32) (rfaultPlace : Int32) (rtapeF : Nat → Int32) (lumps : Nat) (lumpNamesF : Nat → Int64) (gp : Nat) (gnu : Nat → Nat) (r1 : Int32) (rplaceG_27 : Nat) (rkindG_28 : Int32) (rbeginG_29 : Nat) (rwordG_30 : Int32) (rnumberG_31 : Int32) (rlettersG_32 : Int64) (ccodeCountG_76 : Nat) (rplaceG_78 : Nat) (rkindG_79 : Int32) (rbeginG_80 : Nat) (rwordG_81 : Int32) (rnumberG_82 : Int32) (rlettersG_83 : Int64) (rfaultKindG_84 : Int32) (rfaultPlaceG_85 : Int32) (iv_cse_0 : ccodeCount ≤ 40) (iv_cse_1 : cones ≤ 20) (iv_rreader_0 : rlength ≤ 940) (iv_rreader_1 : rplace ≤ rlength) (iv_rreader_2 : rmostBytes ≤ 900) (iv_rreader_3 : rbegin ≤ 940) (hTC : TC bt rtapeF) (iv_a_4 : lumps ≤ 6) (hRT : RT bt rlength rmostBytes gp rkind rbegin rplace rword rnumber rletters) (hNL : NL gnu 0 lumps lumpNamesF) (hcc : ccodeCount ≤ 2 * cones) (p2 : r1 = rword) (c3 : rkind ≠ nI 40) (c5 : ¬ r1 < nI 22) (c14 : r1 ≤ nI 30) (c15 : cones < 20) (p33 : rplaceG_27 ≤ rlength) (p34 : rbeginG_29 ≤ 940) (p35 : RT bt rlength rmostBytes (tT bt rlength rmostBytes gp) rkindG_28 rbeginG_29 rplaceG_27 rwordG_30 rnumberG_31 rlettersG_32) (c37 : r1 ≠ nI 22) (c38 : r1 = nI 26) (p87 : ccodeCountG_76 ≤ 40) (p88 : rplaceG_78 ≤ rlength) (p89 : rbeginG_80 ≤ 940) (t95 : isO (pBy bt rlength rmostBytes gnu lumps (tT bt rlength rmostBytes gp)) = false) (t96 : rfaultKindG_84 = nI (erA (pBy bt rlength rmostBytes gnu lumps (tT bt rlength rmostBytes gp)))) (t97 : rfaultPlaceG_85 = nI (erB (pBy bt rlength rmostBytes gnu lumps (tT bt rlength rmostBytes gp)))) : ((nI 0) = nI 1 ∧ (isO (sOne bt rlength rmostBytes gnu lumps 1 gp cones) = true ∧ RT bt rlength rmostBytes (srP (sOne bt rlength rmostBytes gnu lumps 1 gp cones)) rkindG_79 rbeginG_80 rplaceG_78 rwordG_81 rnumberG_82 rlettersG_83 ∧ (cones + 1) = srO (sOne bt rlength rmostBytes gnu lumps 1 gp cones) ∧ ccodeCountG_76 + 1 + 2 * cones ≤ ccodeCount + 2 * (cones + 1) ∧ cones < (cones + 1) ∧ rfaultKindG_84 = rfaultKind ∧ rfaultPlaceG_85 = rfaultPlace)) ∨ ((nI 0) = nI 0 ∧ (isO (sOne bt rlength rmostBytes gnu lumps 1 gp cones) = false ∧ rfaultKindG_84 = nI (erA (sOne bt rlength rmostBytes gnu lumps 1 gp cones)) ∧ rfaultPlaceG_85 = nI (erB (sOne bt rlength rmostBytes gnu lumps 1 gp cones)))) := by
  have k40 := RT_k hRT (c := 40) (by decide)
  have w3 := RT_w3 hRT
  have n40 : ¬ tK bt rlength rmostBytes gp = 40 := fun h9 => absurd (k40.mpr h9) (by assumption)
  have o20 : ¬ 20 ≤ cones := by omega
  have wv : tW bt rlength rmostBytes gp = 26 := by
    have b_rkind := ia_b rkind
    have b_rword := ia_b rword
    have b_rnumber := ia_b rnumber
    have b_rfaultKind := ia_b rfaultKind
    have b_rfaultPlace := ia_b rfaultPlace
    have b_r1 := ia_b r1
    have b_rkindG_28 := ia_b rkindG_28
    have b_rwordG_30 := ia_b rwordG_30
    have b_rnumberG_31 := ia_b rnumberG_31
    have b_rkindG_79 := ia_b rkindG_79
    have b_rwordG_81 := ia_b rwordG_81
    have b_rnumberG_82 := ia_b rnumberG_82
    have b_rfaultKindG_84 := ia_b rfaultKindG_84
    have b_rfaultPlaceG_85 := ia_b rfaultPlaceG_85
    have b_rletters := Int64.toInt_lt rletters
    have b_rlettersG_32 := Int64.toInt_lt rlettersG_32
    have b_rlettersG_83 := Int64.toInt_lt rlettersG_83
    try have k_0 := ia_n 40 (by first | decide | omega)
    try have k_1 := ia_n 22 (by first | decide | omega)
    try have k_2 := ia_n 30 (by first | decide | omega)
    try have k_3 := ia_n 26 (by first | decide | omega)
    try have k_4 := ia_n (erA (pBy bt rlength rmostBytes gnu lumps (tT bt rlength rmostBytes gp))) (by first | decide | omega)
    try have k_5 := ia_n (erB (pBy bt rlength rmostBytes gnu lumps (tT bt rlength rmostBytes gp))) (by first | decide | omega)
    try have k_6 := ia_n 0 (by first | decide | omega)
    try have k_7 := ia_n 1 (by first | decide | omega)
    try have k_8 := ia_n (erA (sOne bt rlength rmostBytes gnu lumps 1 gp cones)) (by first | decide | omega)
    try have k_9 := ia_n (erB (sOne bt rlength rmostBytes gnu lumps 1 gp cones)) (by first | decide | omega)
    try simp only [ia_lt, ia_le, ia_eq, ia_m1, ia_0, ia_1, ne_eq, true_and, and_true, false_and, and_false, or_false, false_or, or_true, true_or, not_true_eq_false, not_false_eq_true] at *
    all_goals omega
  rw [so_by n40 wv o20]
  rw [sAt_e (by assumption)]
  exact Or.inr ⟨rfl, rfl, ‹_›, ‹_›⟩
set_option maxRecDepth 20000 in
theorem lf_f_sn18_18 (ccodeCount : Nat) (cones : Nat) (iv_cse_0 : ccodeCount ≤ 40) (iv_cse_1 : cones ≤ 20) (hcc : ccodeCount ≤ 2 * cones) (c15 : cones < 20) : (cones + 1) ≤ 20 := by
  try simp only [ia_lt, ia_le, ia_eq, ia_m1, ia_0, ia_1, ne_eq, true_and, and_true, false_and, and_false, or_false, false_or, or_true, true_or, not_true_eq_false, not_false_eq_true] at *
  all_goals omega
set_option maxRecDepth 20000 in
theorem lf_f_sn18_19 (ccodeCount : Nat) (cones : Nat) (iv_cse_0 : ccodeCount ≤ 40) (iv_cse_1 : cones ≤ 20) (hcc : ccodeCount ≤ 2 * cones) (c15 : cones < 20) : (cones + 1) ≤ 20 := by
  try simp only [ia_lt, ia_le, ia_eq, ia_m1, ia_0, ia_1, ne_eq, true_and, and_true, false_and, and_false, or_false, false_or, or_true, true_or, not_true_eq_false, not_false_eq_true] at *
  all_goals omega
set_option maxRecDepth 20000 in
theorem lf_f_sn18_20 (ccodeCount : Nat) (cones : Nat) (iv_cse_0 : ccodeCount ≤ 40) (iv_cse_1 : cones ≤ 20) (hcc : ccodeCount ≤ 2 * cones) (c15 : cones < 20) : ccodeCount ≤ 2 * (cones + 1) := by
  try simp only [ia_lt, ia_le, ia_eq, ia_m1, ia_0, ia_1, ne_eq, true_and, and_true, false_and, and_false, or_false, false_or, or_true, true_or, not_true_eq_false, not_false_eq_true] at *
  all_goals omega
set_option maxRecDepth 20000 in
theorem lf_f_sn18_21 (ccodeCount : Nat) (cones : Nat) (bt : Nat → Nat) (rlength : Nat) (rmostBytes : Nat) (rplace : Nat) (rkind : Int32) (rbegin : Nat) (rword : Int32) (rnumber : Int32) (rletters : Int64) (rfaultKind : Int32) (rfaultPlace : Int32) (rtapeF : Nat → Int32) (lumps : Nat) (lumpNamesF : Nat → Int64) (gp : Nat) (gnu : Nat → Nat) (r1 : Int32) (rplaceG_27 : Nat) (rkindG_28 : Int32) (rbeginG_29 : Nat) (rwordG_30 : Int32) (rnumberG_31 : Int32) (rlettersG_32 : Int64) (rfaultKindG_101 : Int32) (rfaultPlaceG_102 : Int32) (iv_cse_0 : ccodeCount ≤ 40) (iv_cse_1 : cones ≤ 20) (iv_rreader_0 : rlength ≤ 940) (iv_rreader_1 : rplace ≤ rlength) (iv_rreader_2 : rmostBytes ≤ 900) (iv_rreader_3 : rbegin ≤ 940) (hTC : TC bt rtapeF) (iv_a_4 : lumps ≤ 6) (hRT : RT bt rlength rmostBytes gp rkind rbegin rplace rword rnumber rletters) (hNL : NL gnu 0 lumps lumpNamesF) (hcc : ccodeCount ≤ 2 * cones) (p2 : r1 = rword) (c3 : rkind ≠ nI 40) (c5 : ¬ r1 < nI 22) (c14 : r1 ≤ nI 30) (c15 : cones < 20) (p33 : rplaceG_27 ≤ rlength) (p34 : rbeginG_29 ≤ 940) (p35 : RT bt rlength rmostBytes (tT bt rlength rmostBytes gp) rkindG_28 rbeginG_29 rplaceG_27 rwordG_30 rnumberG_31 rlettersG_32) (c37 : r1 = nI 22) (p104 : isO (sOne bt rlength rmostBytes gnu lumps 0 (tT bt rlength rmostBytes gp) (cones + 1)) = false) (p105 : rfaultKindG_101 = nI (erA (sOne bt rlength rmostBytes gnu lumps 0 (tT bt rlength rmostBytes gp) (cones + 1)))) (p106 : rfaultPlaceG_102 = nI (erB (sOne bt rlength rmostBytes gnu lumps 0 (tT bt rlength rmostBytes gp) (cones + 1)))) : ((nI 0) = nI 1 ∧ (isO (sOne bt rlength rmostBytes gnu lumps 1 gp cones) = true ∧ RT bt rlength rmostBytes (srP (sOne bt rlength rmostBytes gnu lumps 1 gp cones)) rkindG_28 rbeginG_29 rplaceG_27 rwordG_30 rnumberG_31 rlettersG_32 ∧ (cones + 1) = srO (sOne bt rlength rmostBytes gnu lumps 1 gp cones) ∧ ccodeCount + 1 + 2 * cones ≤ ccodeCount + 2 * (cones + 1) ∧ cones < (cones + 1) ∧ rfaultKindG_101 = rfaultKind ∧ rfaultPlaceG_102 = rfaultPlace)) ∨ ((nI 0) = nI 0 ∧ (isO (sOne bt rlength rmostBytes gnu lumps 1 gp cones) = false ∧ rfaultKindG_101 = nI (erA (sOne bt rlength rmostBytes gnu lumps 1 gp cones)) ∧ rfaultPlaceG_102 = nI (erB (sOne bt rlength rmostBytes gnu lumps 1 gp cones)))) := by
  have k40 := RT_k hRT (c := 40) (by decide)
  have w3 := RT_w3 hRT
  have n40 : ¬ tK bt rlength rmostBytes gp = 40 := fun h9 => absurd (k40.mpr h9) (by assumption)
  have o20 : ¬ 20 ≤ cones := by omega
  have w22 : tW bt rlength rmostBytes gp = 22 := by
    have b_rkind := ia_b rkind
    have b_rword := ia_b rword
    have b_rnumber := ia_b rnumber
    have b_rfaultKind := ia_b rfaultKind
    have b_rfaultPlace := ia_b rfaultPlace
    have b_r1 := ia_b r1
    have b_rkindG_28 := ia_b rkindG_28
    have b_rwordG_30 := ia_b rwordG_30
    have b_rnumberG_31 := ia_b rnumberG_31
    have b_rfaultKindG_101 := ia_b rfaultKindG_101
    have b_rfaultPlaceG_102 := ia_b rfaultPlaceG_102
    have b_rletters := Int64.toInt_lt rletters
    have b_rlettersG_32 := Int64.toInt_lt rlettersG_32
    try have k_0 := ia_n 40 (by first | decide | omega)
    try have k_1 := ia_n 22 (by first | decide | omega)
    try have k_2 := ia_n 30 (by first | decide | omega)
    try have k_3 := ia_n (erA (sOne bt rlength rmostBytes gnu lumps 0 (tT bt rlength rmostBytes gp) (cones + 1))) (by first | decide | omega)
    try have k_4 := ia_n (erB (sOne bt rlength rmostBytes gnu lumps 0 (tT bt rlength rmostBytes gp) (cones + 1))) (by first | decide | omega)
    try have k_5 := ia_n 0 (by first | decide | omega)
    try have k_6 := ia_n 1 (by first | decide | omega)
    try have k_7 := ia_n (erA (sOne bt rlength rmostBytes gnu lumps 1 gp cones)) (by first | decide | omega)
    try have k_8 := ia_n (erB (sOne bt rlength rmostBytes gnu lumps 1 gp cones)) (by first | decide | omega)
    try simp only [ia_lt, ia_le, ia_eq, ia_m1, ia_0, ia_1, ne_eq, true_and, and_true, false_and, and_false, or_false, false_or, or_true, true_or, not_true_eq_false, not_false_eq_true] at *
    all_goals omega
  rw [so_not n40 w22 o20]
  exact Or.inr ⟨rfl, by assumption, ‹_›, ‹_›⟩
set_option maxRecDepth 20000 in
theorem lf_f_sn18_22 (ccodeCount : Nat) (cones : Nat) (bt : Nat → Nat) (rlength : Nat) (rmostBytes : Nat) (rplace : Nat) (rkind : Int32) (rbegin : Nat) (rword : Int32) (rnumber : Int32) (rletters : Int64) (rtapeF : Nat → Int32) (lumps : Nat) (lumpNamesF : Nat → Int64) (gp : Nat) (gnu : Nat → Nat) (r1 : Int32) (rplaceG_27 : Nat) (rkindG_28 : Int32) (rbeginG_29 : Nat) (rwordG_30 : Int32) (rnumberG_31 : Int32) (rlettersG_32 : Int64) (rfaultKindG_101 : Int32) (rfaultPlaceG_102 : Int32) (iv_cse_0 : ccodeCount ≤ 40) (iv_cse_1 : cones ≤ 20) (iv_rreader_0 : rlength ≤ 940) (iv_rreader_1 : rplace ≤ rlength) (iv_rreader_2 : rmostBytes ≤ 900) (iv_rreader_3 : rbegin ≤ 940) (hTC : TC bt rtapeF) (iv_a_4 : lumps ≤ 6) (hRT : RT bt rlength rmostBytes gp rkind rbegin rplace rword rnumber rletters) (hNL : NL gnu 0 lumps lumpNamesF) (hcc : ccodeCount ≤ 2 * cones) (p2 : r1 = rword) (c3 : rkind ≠ nI 40) (c5 : ¬ r1 < nI 22) (c14 : r1 ≤ nI 30) (c15 : cones < 20) (p33 : rplaceG_27 ≤ rlength) (p34 : rbeginG_29 ≤ 940) (p35 : RT bt rlength rmostBytes (tT bt rlength rmostBytes gp) rkindG_28 rbeginG_29 rplaceG_27 rwordG_30 rnumberG_31 rlettersG_32) (c37 : r1 = nI 22) (p104 : isO (sOne bt rlength rmostBytes gnu lumps 0 (tT bt rlength rmostBytes gp) (cones + 1)) = false) (p105 : rfaultKindG_101 = nI (erA (sOne bt rlength rmostBytes gnu lumps 0 (tT bt rlength rmostBytes gp) (cones + 1)))) (p106 : rfaultPlaceG_102 = nI (erB (sOne bt rlength rmostBytes gnu lumps 0 (tT bt rlength rmostBytes gp) (cones + 1)))) : (cones + 1) ≤ 20 := by
  have b_rkind := ia_b rkind
  have b_rword := ia_b rword
  have b_rnumber := ia_b rnumber
  have b_r1 := ia_b r1
  have b_rkindG_28 := ia_b rkindG_28
  have b_rwordG_30 := ia_b rwordG_30
  have b_rnumberG_31 := ia_b rnumberG_31
  have b_rfaultKindG_101 := ia_b rfaultKindG_101
  have b_rfaultPlaceG_102 := ia_b rfaultPlaceG_102
  have b_rletters := Int64.toInt_lt rletters
  have b_rlettersG_32 := Int64.toInt_lt rlettersG_32
  try have k_0 := ia_n 40 (by first | decide | omega)
  try have k_1 := ia_n 22 (by first | decide | omega)
  try have k_2 := ia_n 30 (by first | decide | omega)
  try have k_3 := ia_n (erA (sOne bt rlength rmostBytes gnu lumps 0 (tT bt rlength rmostBytes gp) (cones + 1))) (by first | decide | omega)
  try have k_4 := ia_n (erB (sOne bt rlength rmostBytes gnu lumps 0 (tT bt rlength rmostBytes gp) (cones + 1))) (by first | decide | omega)
  try simp only [ia_lt, ia_le, ia_eq, ia_m1, ia_0, ia_1, ne_eq, true_and, and_true, false_and, and_false, or_false, false_or, or_true, true_or, not_true_eq_false, not_false_eq_true] at *
  all_goals omega
set_option maxRecDepth 20000 in
theorem lf_f_sn18_23 (ccodeCount : Nat) (cones : Nat) (bt : Nat → Nat) (rlength : Nat) (rmostBytes : Nat) (rplace : Nat) (rkind : Int32) (rbegin : Nat) (rword : Int32) (rnumber : Int32) (rletters : Int64) (rfaultKind : Int32) (rfaultPlace : Int32) (rtapeF : Nat → Int32) (lumps : Nat) (lumpNamesF : Nat → Int64) (gp : Nat) (gnu : Nat → Nat) (r1 : Int32) (rfaultKindG_111 : Int32) (rfaultPlaceG_112 : Int32) (iv_cse_0 : ccodeCount ≤ 40) (iv_cse_1 : cones ≤ 20) (iv_rreader_0 : rlength ≤ 940) (iv_rreader_1 : rplace ≤ rlength) (iv_rreader_2 : rmostBytes ≤ 900) (iv_rreader_3 : rbegin ≤ 940) (hTC : TC bt rtapeF) (iv_a_4 : lumps ≤ 6) (hRT : RT bt rlength rmostBytes gp rkind rbegin rplace rword rnumber rletters) (hNL : NL gnu 0 lumps lumpNamesF) (hcc : ccodeCount ≤ 2 * cones) (p2 : r1 = rword) (c3 : rkind ≠ nI 40) (c5 : ¬ r1 < nI 22) (c14 : ¬ r1 ≤ nI 30) (p114 : rfaultKindG_111 = (nI 1)) (p115 : rfaultPlaceG_112 = nI rbegin) : ((nI 0) = nI 1 ∧ (isO (sOne bt rlength rmostBytes gnu lumps 1 gp cones) = true ∧ RT bt rlength rmostBytes (srP (sOne bt rlength rmostBytes gnu lumps 1 gp cones)) rkind rbegin rplace rword rnumber rletters ∧ cones = srO (sOne bt rlength rmostBytes gnu lumps 1 gp cones) ∧ ccodeCount + 1 + 2 * cones ≤ ccodeCount + 2 * cones ∧ cones < cones ∧ rfaultKindG_111 = rfaultKind ∧ rfaultPlaceG_112 = rfaultPlace)) ∨ ((nI 0) = nI 0 ∧ (isO (sOne bt rlength rmostBytes gnu lumps 1 gp cones) = false ∧ rfaultKindG_111 = nI (erA (sOne bt rlength rmostBytes gnu lumps 1 gp cones)) ∧ rfaultPlaceG_112 = nI (erB (sOne bt rlength rmostBytes gnu lumps 1 gp cones)))) := by
  have k40 := RT_k hRT (c := 40) (by decide)
  have w3 := RT_w3 hRT
  have n40 : ¬ tK bt rlength rmostBytes gp = 40 := fun h9 => absurd (k40.mpr h9) (by assumption)
  have ns : ¬ sFst bt rlength rmostBytes gp := by
    unfold sFst
    rintro (h | h)
    · exact n40 h
    · exfalso
      have b_rkind := ia_b rkind
      have b_rword := ia_b rword
      have b_rnumber := ia_b rnumber
      have b_rfaultKind := ia_b rfaultKind
      have b_rfaultPlace := ia_b rfaultPlace
      have b_r1 := ia_b r1
      have b_rfaultKindG_111 := ia_b rfaultKindG_111
      have b_rfaultPlaceG_112 := ia_b rfaultPlaceG_112
      have b_rletters := Int64.toInt_lt rletters
      try have k_0 := ia_n 40 (by first | decide | omega)
      try have k_1 := ia_n 22 (by first | decide | omega)
      try have k_2 := ia_n 30 (by first | decide | omega)
      try have k_3 := ia_n 1 (by first | decide | omega)
      try have k_4 := ia_n rbegin (by first | decide | omega)
      try have k_5 := ia_n 0 (by first | decide | omega)
      try have k_6 := ia_n (erA (sOne bt rlength rmostBytes gnu lumps 1 gp cones)) (by first | decide | omega)
      try have k_7 := ia_n (erB (sOne bt rlength rmostBytes gnu lumps 1 gp cones)) (by first | decide | omega)
      try simp only [ia_lt, ia_le, ia_eq, ia_m1, ia_0, ia_1, ne_eq, true_and, and_true, false_and, and_false, or_false, false_or, or_true, true_or, not_true_eq_false, not_false_eq_true] at *
      all_goals omega
  rw [so_bad ns]
  exact Or.inr ⟨rfl, rfl, ‹_›, (Eq.trans (by assumption : _ = nI rbegin) (congrArg nI hRT.2.1))⟩
set_option maxRecDepth 20000 in
theorem lf_f_sn18_24 (ccodeCount : Nat) (cones : Nat) (bt : Nat → Nat) (rlength : Nat) (rmostBytes : Nat) (rplace : Nat) (rkind : Int32) (rbegin : Nat) (rword : Int32) (rnumber : Int32) (rletters : Int64) (rfaultKind : Int32) (rfaultPlace : Int32) (rtapeF : Nat → Int32) (lumps : Nat) (lumpNamesF : Nat → Int64) (gp : Nat) (gnu : Nat → Nat) (r1 : Int32) (rfaultKindG_121 : Int32) (rfaultPlaceG_122 : Int32) (iv_cse_0 : ccodeCount ≤ 40) (iv_cse_1 : cones ≤ 20) (iv_rreader_0 : rlength ≤ 940) (iv_rreader_1 : rplace ≤ rlength) (iv_rreader_2 : rmostBytes ≤ 900) (iv_rreader_3 : rbegin ≤ 940) (hTC : TC bt rtapeF) (iv_a_4 : lumps ≤ 6) (hRT : RT bt rlength rmostBytes gp rkind rbegin rplace rword rnumber rletters) (hNL : NL gnu 0 lumps lumpNamesF) (hcc : ccodeCount ≤ 2 * cones) (p2 : r1 = rword) (c3 : rkind = nI 40) (c117 : 20 ≤ cones) (p124 : rfaultKindG_121 = (nI 4)) (p125 : rfaultPlaceG_122 = nI rbegin) : ((nI 0) = nI 1 ∧ (isO (sOne bt rlength rmostBytes gnu lumps 1 gp cones) = true ∧ RT bt rlength rmostBytes (srP (sOne bt rlength rmostBytes gnu lumps 1 gp cones)) rkind rbegin rplace rword rnumber rletters ∧ cones = srO (sOne bt rlength rmostBytes gnu lumps 1 gp cones) ∧ ccodeCount + 1 + 2 * cones ≤ ccodeCount + 2 * cones ∧ cones < cones ∧ rfaultKindG_121 = rfaultKind ∧ rfaultPlaceG_122 = rfaultPlace)) ∨ ((nI 0) = nI 0 ∧ (isO (sOne bt rlength rmostBytes gnu lumps 1 gp cones) = false ∧ rfaultKindG_121 = nI (erA (sOne bt rlength rmostBytes gnu lumps 1 gp cones)) ∧ rfaultPlaceG_122 = nI (erB (sOne bt rlength rmostBytes gnu lumps 1 gp cones)))) := by
  have k40 := RT_k hRT (c := 40) (by decide)
  have w3 := RT_w3 hRT
  have y40 : tK bt rlength rmostBytes gp = 40 := k40.mp (by first | rfl | assumption)
  have ys : sFst bt rlength rmostBytes gp := Or.inl y40
  rw [so_full ys (by omega)]
  exact Or.inr ⟨rfl, rfl, ‹_›, (Eq.trans (by assumption : _ = nI rbegin) (congrArg nI hRT.2.1))⟩
set_option maxRecDepth 20000 in
theorem lf_f_sn18_25 (ccodeCount : Nat) (cones : Nat) (iv_cse_0 : ccodeCount ≤ 40) (iv_cse_1 : cones ≤ 20) (hcc : ccodeCount ≤ 2 * cones) (c117 : cones < 20) : (cones + 1) ≤ 20 := by
  try simp only [ia_lt, ia_le, ia_eq, ia_m1, ia_0, ia_1, ne_eq, true_and, and_true, false_and, and_false, or_false, false_or, or_true, true_or, not_true_eq_false, not_false_eq_true] at *
  all_goals omega
set_option maxRecDepth 20000 in
theorem lf_f_sn18_26 (ccodeCount : Nat) (cones : Nat) (iv_cse_0 : ccodeCount ≤ 40) (iv_cse_1 : cones ≤ 20) (hcc : ccodeCount ≤ 2 * cones) (c117 : cones < 20) : ccodeCount ≤ 2 * (cones + 1) := by
  try simp only [ia_lt, ia_le, ia_eq, ia_m1, ia_0, ia_1, ne_eq, true_and, and_true, false_and, and_false, or_false, false_or, or_true, true_or, not_true_eq_false, not_false_eq_true] at *
  all_goals omega
set_option maxRecDepth 20000 in
theorem lf_f_sn18_27 (ccodeCount : Nat) (cones : Nat) (bt : Nat → Nat) (rlength : Nat) (rmostBytes : Nat) (rplace : Nat) (rkind : Int32) (rbegin : Nat) (rword : Int32) (rnumber : Int32) (rletters : Int64) (rfaultKind : Int32) (rfaultPlace : Int32) (rtapeF : Nat → Int32) (lumps : Nat) (lumpNamesF : Nat → Int64) (gp : Nat) (gnu : Nat → Nat) (r1 : Int32) (rplaceG_129 : Nat) (rkindG_130 : Int32) (rbeginG_131 : Nat) (rwordG_132 : Int32) (rnumberG_133 : Int32) (rlettersG_134 : Int64) (rfaultKindG_142 : Int32) (rfaultPlaceG_143 : Int32) (iv_cse_0 : ccodeCount ≤ 40) (iv_cse_1 : cones ≤ 20) (iv_rreader_0 : rlength ≤ 940) (iv_rreader_1 : rplace ≤ rlength) (iv_rreader_2 : rmostBytes ≤ 900) (iv_rreader_3 : rbegin ≤ 940) (hTC : TC bt rtapeF) (iv_a_4 : lumps ≤ 6) (hRT : RT bt rlength rmostBytes gp rkind rbegin rplace rword rnumber rletters) (hNL : NL gnu 0 lumps lumpNamesF) (hcc : ccodeCount ≤ 2 * cones) (p2 : r1 = rword) (c3 : rkind = nI 40) (c117 : cones < 20) (p135 : rplaceG_129 ≤ rlength) (p136 : rbeginG_131 ≤ 940) (p137 : RT bt rlength rmostBytes (tT bt rlength rmostBytes gp) rkindG_130 rbeginG_131 rplaceG_129 rwordG_132 rnumberG_133 rlettersG_134) (p145 : isO (sOr bt rlength rmostBytes gnu lumps 0 (tT bt rlength rmostBytes gp) (cones + 1)) = false) (p146 : rfaultKindG_142 = nI (erA (sOr bt rlength rmostBytes gnu lumps 0 (tT bt rlength rmostBytes gp) (cones + 1)))) (p147 : rfaultPlaceG_143 = nI (erB (sOr bt rlength rmostBytes gnu lumps 0 (tT bt rlength rmostBytes gp) (cones + 1)))) : ((nI 0) = nI 1 ∧ (isO (sOne bt rlength rmostBytes gnu lumps 1 gp cones) = true ∧ RT bt rlength rmostBytes (srP (sOne bt rlength rmostBytes gnu lumps 1 gp cones)) rkindG_130 rbeginG_131 rplaceG_129 rwordG_132 rnumberG_133 rlettersG_134 ∧ (cones + 1) = srO (sOne bt rlength rmostBytes gnu lumps 1 gp cones) ∧ ccodeCount + 1 + 2 * cones ≤ ccodeCount + 2 * (cones + 1) ∧ cones < (cones + 1) ∧ rfaultKindG_142 = rfaultKind ∧ rfaultPlaceG_143 = rfaultPlace)) ∨ ((nI 0) = nI 0 ∧ (isO (sOne bt rlength rmostBytes gnu lumps 1 gp cones) = false ∧ rfaultKindG_142 = nI (erA (sOne bt rlength rmostBytes gnu lumps 1 gp cones)) ∧ rfaultPlaceG_143 = nI (erB (sOne bt rlength rmostBytes gnu lumps 1 gp cones)))) := by
  have k40 := RT_k hRT (c := 40) (by decide)
  have w3 := RT_w3 hRT
  have y40 : tK bt rlength rmostBytes gp = 40 := k40.mp (by first | rfl | assumption)
  have o20 : ¬ 20 ≤ cones := by omega
  rw [so_br y40 o20]
  rw [sBr_e (by assumption)]
  exact Or.inr ⟨rfl, rfl, ‹_›, ‹_›⟩
set_option maxRecDepth 20000 in
theorem lf_f_sn18_28 (ccodeCount : Nat) (cones : Nat) (bt : Nat → Nat) (rlength : Nat) (rmostBytes : Nat) (rplace : Nat) (rkind : Int32) (rbegin : Nat) (rword : Int32) (rnumber : Int32) (rletters : Int64) (rtapeF : Nat → Int32) (lumps : Nat) (lumpNamesF : Nat → Int64) (gp : Nat) (gnu : Nat → Nat) (r1 : Int32) (rplaceG_129 : Nat) (rkindG_130 : Int32) (rbeginG_131 : Nat) (rwordG_132 : Int32) (rnumberG_133 : Int32) (rlettersG_134 : Int64) (rfaultKindG_142 : Int32) (rfaultPlaceG_143 : Int32) (iv_cse_0 : ccodeCount ≤ 40) (iv_cse_1 : cones ≤ 20) (iv_rreader_0 : rlength ≤ 940) (iv_rreader_1 : rplace ≤ rlength) (iv_rreader_2 : rmostBytes ≤ 900) (iv_rreader_3 : rbegin ≤ 940) (hTC : TC bt rtapeF) (iv_a_4 : lumps ≤ 6) (hRT : RT bt rlength rmostBytes gp rkind rbegin rplace rword rnumber rletters) (hNL : NL gnu 0 lumps lumpNamesF) (hcc : ccodeCount ≤ 2 * cones) (p2 : r1 = rword) (c3 : rkind = nI 40) (c117 : cones < 20) (p135 : rplaceG_129 ≤ rlength) (p136 : rbeginG_131 ≤ 940) (p137 : RT bt rlength rmostBytes (tT bt rlength rmostBytes gp) rkindG_130 rbeginG_131 rplaceG_129 rwordG_132 rnumberG_133 rlettersG_134) (p145 : isO (sOr bt rlength rmostBytes gnu lumps 0 (tT bt rlength rmostBytes gp) (cones + 1)) = false) (p146 : rfaultKindG_142 = nI (erA (sOr bt rlength rmostBytes gnu lumps 0 (tT bt rlength rmostBytes gp) (cones + 1)))) (p147 : rfaultPlaceG_143 = nI (erB (sOr bt rlength rmostBytes gnu lumps 0 (tT bt rlength rmostBytes gp) (cones + 1)))) : (cones + 1) ≤ 20 := by
  have b_rkind := ia_b rkind
  have b_rword := ia_b rword
  have b_rnumber := ia_b rnumber
  have b_r1 := ia_b r1
  have b_rkindG_130 := ia_b rkindG_130
  have b_rwordG_132 := ia_b rwordG_132
  have b_rnumberG_133 := ia_b rnumberG_133
  have b_rfaultKindG_142 := ia_b rfaultKindG_142
  have b_rfaultPlaceG_143 := ia_b rfaultPlaceG_143
  have b_rletters := Int64.toInt_lt rletters
  have b_rlettersG_134 := Int64.toInt_lt rlettersG_134
  try have k_0 := ia_n 40 (by first | decide | omega)
  try have k_1 := ia_n (erA (sOr bt rlength rmostBytes gnu lumps 0 (tT bt rlength rmostBytes gp) (cones + 1))) (by first | decide | omega)
  try have k_2 := ia_n (erB (sOr bt rlength rmostBytes gnu lumps 0 (tT bt rlength rmostBytes gp) (cones + 1))) (by first | decide | omega)
  try simp only [ia_lt, ia_le, ia_eq, ia_m1, ia_0, ia_1, ne_eq, true_and, and_true, false_and, and_false, or_false, false_or, or_true, true_or, not_true_eq_false, not_false_eq_true] at *
  all_goals omega
set_option maxHeartbeats 4000000 in
set_option maxRecDepth 100000 in
theorem c_f_sn18 (l : Launch) (dC : Nat → ClassId) (dI : Nat → Nat → Nat) (ky : Nat → ClassId) (sz : Nat) (adK : Nat → Nat) (adV : Nat → Nat) (se : Nat) (ccodes : Nat) (ccodeCount : Nat) (cones : Nat) (ccodesF : Nat → Int32) (bt : Nat → Nat) (reader : Nat) (rtape : Nat) (rlength : Nat) (rmostBytes : Nat) (rplace : Nat) (rkind : Int32) (rbegin : Nat) (rword : Int32) (rnumber : Int32) (rletters : Int64) (rfaultKind : Int32) (rfaultPlace : Int32) (rtapeF : Nat → Int32) (a : Nat) (wide : Nat) (high : Nat) (heat : Int32) (cools : Int32) (skinHeat : Int32) (today : Int32) (stirs : Int32) (steps : Int32) (lumps : Nat) (boats : Nat) (thickness : Nat) (lumpNames : Nat) (lumpCells : Nat) (boatNames : Nat) (boatCells : Nat) (loads : Nat) (spoons : Nat) (spoonsLeft : Nat) (depths : Nat) (lumpNamesF : Nat → Int64) (gp : Nat) (gnu : Nat → Nat) (iv_cse_0 : ccodeCount ≤ 40) (iv_cse_1 : cones ≤ 20) (iv_rreader_0 : rlength ≤ 940) (iv_rreader_1 : rplace ≤ rlength) (iv_rreader_2 : rmostBytes ≤ 900) (iv_rreader_3 : rbegin ≤ 940) (hTC : TC bt rtapeF) (iv_a_0 : 2 ≤ wide) (iv_a_1 : wide ≤ 6) (iv_a_2 : 2 ≤ high) (iv_a_3 : high ≤ 6) (iv_a_4 : lumps ≤ 6) (iv_a_5 : boats ≤ 6) (hRT : RT bt rlength rmostBytes gp rkind rbegin rplace rword rnumber rletters) (hNL : NL gnu 0 lumps lumpNamesF) (hcc : ccodeCount ≤ 2 * cones) : Met l yX9_readOne wsX9_readOne ({ frames := 8, cells := 0, slots := 0, locals := 178 }) (PcUE dC dI ky adK adV [.ref se, .ref reader, .ref a, .int (nI 8)] [(se, .inr (9, [.ref ccodes, .int (nI ccodeCount), .int (nI cones)])), (ccodes, .inl (ky 0, 40, .inl ccodesF)), (reader, .inr (5, [.ref rtape, .int (nI rlength), .int (nI rmostBytes), .int (nI rplace), .int rkind, .int (nI rbegin), .int rword, .int rnumber, .long rletters, .int rfaultKind, .int rfaultPlace])), (rtape, .inl (ky 2, 940, .inl rtapeF)), (a, .inr (7, [.int (nI wide), .int (nI high), .int heat, .int cools, .int skinHeat, .int today, .int stirs, .int steps, .int (nI lumps), .int (nI boats), .ref thickness, .ref lumpNames, .ref lumpCells, .ref boatNames, .ref boatCells, .ref loads, .ref spoons, .ref spoonsLeft, .ref depths])), (lumpNames, .inl (ky 1, 6, .inr (.inl lumpNamesF)))] sz) (va_Qi (fun (r : Int32) (u : Nat × Nat × (Nat → Int32) × Nat × Int32 × Nat × Int32 × Int32 × Int64 × Int32 × Int32) => match u with | (ccodeCountG, conesG, ccodesG, rplaceG, rkindG, rbeginG, rwordG, rnumberG, rlettersG, rfaultKindG, rfaultPlaceG) => ((r = nI 1 ∧ (isO (sOne bt rlength rmostBytes gnu lumps 1 gp cones) = true ∧ RT bt rlength rmostBytes (srP (sOne bt rlength rmostBytes gnu lumps 1 gp cones)) rkindG rbeginG rplaceG rwordG rnumberG rlettersG ∧ conesG = srO (sOne bt rlength rmostBytes gnu lumps 1 gp cones) ∧ ccodeCountG + 1 + 2 * cones ≤ ccodeCount + 2 * conesG ∧ cones < conesG ∧ rfaultKindG = rfaultKind ∧ rfaultPlaceG = rfaultPlace)) ∨ (r = nI 0 ∧ (isO (sOne bt rlength rmostBytes gnu lumps 1 gp cones) = false ∧ rfaultKindG = nI (erA (sOne bt rlength rmostBytes gnu lumps 1 gp cones)) ∧ rfaultPlaceG = nI (erB (sOne bt rlength rmostBytes gnu lumps 1 gp cones))))) ∧ (ccodeCountG ≤ 40) ∧ (conesG ≤ 20) ∧ (rplaceG ≤ rlength) ∧ (rbeginG ≤ 940)) (BU dC dI ky (fun (u : Nat × Nat × (Nat → Int32) × Nat × Int32 × Nat × Int32 × Int32 × Int64 × Int32 × Int32) => match u with | (ccodeCountG, conesG, ccodesG, rplaceG, rkindG, rbeginG, rwordG, rnumberG, rlettersG, rfaultKindG, rfaultPlaceG) => [(se, .inr (9, [.ref ccodes, .int (nI ccodeCountG), .int (nI conesG)])), (ccodes, .inl (ky 0, 40, .inl ccodesG)), (reader, .inr (5, [.ref rtape, .int (nI rlength), .int (nI rmostBytes), .int (nI rplaceG), .int rkindG, .int (nI rbeginG), .int rwordG, .int rnumberG, .long rlettersG, .int rfaultKindG, .int rfaultPlaceG])), (rtape, .inl (ky 2, 940, .inl rtapeF)), (a, .inr (7, [.int (nI wide), .int (nI high), .int heat, .int cools, .int skinHeat, .int today, .int stirs, .int steps, .int (nI lumps), .int (nI boats), .ref thickness, .ref lumpNames, .ref lumpCells, .ref boatNames, .ref boatCells, .ref loads, .ref spoons, .ref spoonsLeft, .ref depths])), (lumpNames, .inl (ky 1, 6, .inr (.inl lumpNamesF)))]) (va_A [(se, .inr (9, [.ref ccodes, .int (nI ccodeCount), .int (nI cones)])), (ccodes, .inl (ky 0, 40, .inl ccodesF)), (reader, .inr (5, [.ref rtape, .int (nI rlength), .int (nI rmostBytes), .int (nI rplace), .int rkind, .int (nI rbegin), .int rword, .int rnumber, .long rletters, .int rfaultKind, .int rfaultPlace])), (rtape, .inl (ky 2, 940, .inl rtapeF)), (a, .inr (7, [.int (nI wide), .int (nI high), .int heat, .int cools, .int skinHeat, .int today, .int stirs, .int steps, .int (nI lumps), .int (nI boats), .ref thickness, .ref lumpNames, .ref lumpCells, .ref boatNames, .ref boatCells, .ref loads, .ref spoons, .ref spoonsLeft, .ref depths])), (lumpNames, .inl (ky 1, 6, .inr (.inl lumpNamesF)))] sz)) (va_A [(se, .inr (9, [.ref ccodes, .int (nI ccodeCount), .int (nI cones)])), (ccodes, .inl (ky 0, 40, .inl ccodesF)), (reader, .inr (5, [.ref rtape, .int (nI rlength), .int (nI rmostBytes), .int (nI rplace), .int rkind, .int (nI rbegin), .int rword, .int rnumber, .long rletters, .int rfaultKind, .int rfaultPlace])), (rtape, .inl (ky 2, 940, .inl rtapeF)), (a, .inr (7, [.int (nI wide), .int (nI high), .int heat, .int cools, .int skinHeat, .int today, .int stirs, .int steps, .int (nI lumps), .int (nI boats), .ref thickness, .ref lumpNames, .ref lumpCells, .ref boatNames, .ref boatCells, .ref loads, .ref spoons, .ref spoonsLeft, .ref depths])), (lumpNames, .inl (ky 1, 6, .inr (.inl lumpNamesF)))] sz)) 0 0 (va_A [(se, .inr (9, [.ref ccodes, .int (nI ccodeCount), .int (nI cones)])), (ccodes, .inl (ky 0, 40, .inl ccodesF)), (reader, .inr (5, [.ref rtape, .int (nI rlength), .int (nI rmostBytes), .int (nI rplace), .int rkind, .int (nI rbegin), .int rword, .int rnumber, .long rletters, .int rfaultKind, .int rfaultPlace])), (rtape, .inl (ky 2, 940, .inl rtapeF)), (a, .inr (7, [.int (nI wide), .int (nI high), .int heat, .int cools, .int skinHeat, .int today, .int stirs, .int steps, .int (nI lumps), .int (nI boats), .ref thickness, .ref lumpNames, .ref lumpCells, .ref boatNames, .ref boatCells, .ref loads, .ref spoons, .ref spoonsLeft, .ref depths])), (lumpNames, .inl (ky 1, 6, .inr (.inl lumpNamesF)))] sz) := by
  refine Met.ofW (cc := cX9_readOne) (maxL := 6) (ret := (some .boolean)) (by decide) rfl ?_
  intro p e s m args below meth c s₁ B hml hv
  obtain ⟨rfl, hsz, hP, hK, hD0, hE⟩ := hv
  have hx := B.exec
  have hb := B.bytes
  have hr := B.returns
  have hts := atoms_spec (ws := wsX9_readOne) B.pre
  have hown : s.vm.findClass RX9 = some m.cls := findClass_of_methodNamed B.named
  have hlocks := B.notSynchronized
  have hin5 : ∀ w ∈ u_ws RX5 TX5 11, w ∈ wsX9_readOne := by decide +kernel
  have hin9 : ∀ w ∈ u_ws RX9 TX9 3, w ∈ wsX9_readOne := by decide +kernel
  subst hsz
  have hD := hD0.self (sz := s.heap.size)
  generalize hAe : va_A [(se, .inr (9, [.ref ccodes, .int (nI ccodeCount), .int (nI cones)])), (ccodes, .inl (ky 0, 40, .inl ccodesF)), (reader, .inr (5, [.ref rtape, .int (nI rlength), .int (nI rmostBytes), .int (nI rplace), .int rkind, .int (nI rbegin), .int rword, .int rnumber, .long rletters, .int rfaultKind, .int rfaultPlace])), (rtape, .inl (ky 2, 940, .inl rtapeF)), (a, .inr (7, [.int (nI wide), .int (nI high), .int heat, .int cools, .int skinHeat, .int today, .int stirs, .int steps, .int (nI lumps), .int (nI boats), .ref thickness, .ref lumpNames, .ref lumpCells, .ref boatNames, .ref boatCells, .ref loads, .ref spoons, .ref spoonsLeft, .ref depths])), (lumpNames, .inl (ky 1, 6, .inr (.inl lumpNamesF)))] s.heap.size = A at hD hE ⊢
  have hA : ∀ q : Nat, s.heap.size ≤ q → A q := fun q h => by rw [← hAe]; exact Or.inr h
  have hS : va_S A s.heap s.heap [] := va_S.rf
  have hl := lv_entry ([.ref se, .ref reader, .ref a, .int (nI 8)]) (n := 6) (Nat.le_of_ble_eq_true rfl)
  rw [lg_entry_eq]
  generalize (lg_sl ([.ref se, .ref reader, .ref a, .int (nI 8)]) ++ List.replicate (6 - (lg_sl ([.ref se, .ref reader, .ref a, .int (nI 8)])).length) Slot.unset).toArray = ls at hl ⊢
  have hl : lv_has ls 6 [(0, .ref se), (1, .ref reader), (2, .ref a), (3, .int (nI 8))] := hl
  refine q_name (fun Q hQ => ?_)
  generalize ([.ref se, .ref reader, .ref a, .int (nI 8)] : List Value).toArray = args at hts hQ ⊢
  refine lv_aload_n hx hb dX9_readOne_0 rfl (lv_at hl 1 rfl) ?_
  refine vp_callSi (W.runV (As := []) (rest := []) ⟨hx, hb, hml, hown, hts⟩ (c_f_nextWord l dC dI ky reader rtape rlength rmostBytes rplace rkind rbegin rword rnumber rletters rfaultKind rfaultPlace iv_rreader_0 iv_rreader_1 iv_rreader_2 iv_rreader_3) (cwV 0 hts gX9_readOne_X5_nextWord rfl rfl rfl (by decide +kernel) ⟨(Nat.le_of_ble_eq_true rfl), (Nat.le_of_ble_eq_true rfl)⟩) (pre_PV hK hP [2] rfl (ci := 5) (q0 := 2) rfl rfl) rfl rfl hl.1 rfl (lv_room (Nat.le_of_ble_eq_true rfl)) dX9_readOne_1 ⟨(Nat.le_of_ble_eq_true rfl), (Nat.le_of_ble_eq_true rfl)⟩) (fun r1 p2 => ?_)
  refine lv_istore (lv' := [(4, .int r1), (0, .ref se), (1, .ref reader), (2, .ref a), (3, .int (nI 8))]) hx hb dX9_readOne_4 hl (by decide) rfl (fun ls hl => ?_)
  refine lv_aload_n hx hb dX9_readOne_6 rfl (lv_at hl 2 rfl) ?_
  refine va_get (D := (dC, dI)) (ci := 5) (v := .int rkind) (C := RX5) (T := TX5) (N := 11) hx hb hts hin5 hown hK hP 2 rfl rfl 4 (by decide) (hts (.fieldLink RX9 35 "PorridgeSea$Reader" "kind" "I") (List.mem_of_getElem? (i := 1) rfl)) (fun _ h9 => h9) rfl dX9_readOne_7 ?_
  refine lv_bipush (v := nI 40) hx hb dX9_readOne_10 (by decide) ?_
  refine lv_icmp_ne (tgt := 19) hx hb dX9_readOne_12 (by decide) (fun c3 => ?_) (fun c3 => ?_)
  · refine lv_iconst (v := nI 0) hx hb dX9_readOne_19 (by decide) ?_
    refine lv_istore (lv' := [(5, .int (nI 0)), (4, .int r1), (0, .ref se), (1, .ref reader), (2, .ref a), (3, .int (nI 8))]) hx hb dX9_readOne_20 hl (by decide) rfl (fun ls hl => ?_)
    refine lv_iload hx hb dX9_readOne_22 (lv_at hl 0 rfl) ?_
    refine lv_if_ne (tgt := 47) hx hb dX9_readOne_24 (by decide) (fun c4 => absurd c4 (by decide)) (fun c4 => ?_)
    refine lv_iload hx hb dX9_readOne_27 (lv_at hl 1 rfl) ?_
    refine lv_bipush (v := nI 22) hx hb dX9_readOne_29 (by decide) ?_
    refine lv_icmp_lt (tgt := 41) hx hb dX9_readOne_31 (by decide) (fun c5 => ?_) (fun c5 => ?_)
    · refine lv_aload_n hx hb dX9_readOne_41 rfl (lv_at hl 3 rfl) ?_
      refine lv_iconst (v := nI 1) hx hb dX9_readOne_42 (by decide) ?_
      refine r_call_i (wr := [(se, .inr (9, [.ref ccodes, .int (nI ccodeCount), .int (nI cones)])), (ccodes, .inl (ky 0, 40, .inl ccodesF)), (rtape, .inl (ky 2, 940, .inl rtapeF)), (a, .inr (7, [.int (nI wide), .int (nI high), .int heat, .int cools, .int skinHeat, .int today, .int stirs, .int steps, .int (nI lumps), .int (nI boats), .ref thickness, .ref lumpNames, .ref lumpCells, .ref boatNames, .ref boatCells, .ref loads, .ref spoons, .ref spoonsLeft, .ref depths])), (lumpNames, .inl (ky 1, 6, .inr (.inl lumpNamesF)))]) (va_runV (As := [.int (nI 1)]) (rest := []) ⟨hx, hb, hml, hown, hts⟩ (c_f_refuse l dC dI ky s.heap.size reader rtape rlength rmostBytes rplace rkind rbegin rword rnumber rletters rfaultKind rfaultPlace (nI 1) iv_rreader_0 iv_rreader_1 iv_rreader_2 iv_rreader_3) (cwV 1 hts gX9_readOne_X5_refuse rfl rfl rfl (by decide +kernel) ⟨(Nat.le_of_ble_eq_true rfl), (Nat.le_of_ble_eq_true rfl)⟩) (pre_UV hK hP hD [2] (by decide) rfl (ci := 5) (q0 := 2) rfl rfl) rfl rfl hl.1 rfl (lv_room (Nat.le_of_ble_eq_true rfl)) dX9_readOne_43 ⟨(Nat.le_of_ble_eq_true rfl), (Nat.le_of_ble_eq_true rfl)⟩) hP hD hS hA [2] [0, 1, 3, 4, 5] rfl rfl (by decide) (by decide) (fun r8 u6 H locs p7 hP hD hS => ?_)
      obtain ⟨rfaultKindG_9, rfaultPlaceG_10⟩ := u6
      try dsimp only at p7
      obtain ⟨p11, p12, p13⟩ := p7
      refine W.widen (k := 0) (n := 0) (Nat.le_of_ble_eq_true rfl) (Nat.le_of_ble_eq_true rfl) ?_
      have hP : va_P (dC, dI) vwCl [(se, .inr (9, [.ref ccodes, .int (nI ccodeCount), .int (nI cones)])), (ccodes, .inl (ky 0, 40, .inl ccodesF)), (rtape, .inl (ky 2, 940, .inl rtapeF)), (a, .inr (7, [.int (nI wide), .int (nI high), .int heat, .int cools, .int skinHeat, .int today, .int stirs, .int steps, .int (nI lumps), .int (nI boats), .ref thickness, .ref lumpNames, .ref lumpCells, .ref boatNames, .ref boatCells, .ref loads, .ref spoons, .ref spoonsLeft, .ref depths])), (lumpNames, .inl (ky 1, 6, .inr (.inl lumpNamesF))), (reader, .inr (5, [.ref rtape, .int (nI rlength), .int (nI rmostBytes), .int (nI rplace), .int rkind, .int (nI rbegin), .int rword, .int rnumber, .long rletters, .int rfaultKindG_9, .int rfaultPlaceG_10]))] H := hP
      have hD : va_D A [(se, .inr (9, [.ref ccodes, .int (nI ccodeCount), .int (nI cones)])), (ccodes, .inl (ky 0, 40, .inl ccodesF)), (rtape, .inl (ky 2, 940, .inl rtapeF)), (a, .inr (7, [.int (nI wide), .int (nI high), .int heat, .int cools, .int skinHeat, .int today, .int stirs, .int steps, .int (nI lumps), .int (nI boats), .ref thickness, .ref lumpNames, .ref lumpCells, .ref boatNames, .ref boatCells, .ref loads, .ref spoons, .ref spoonsLeft, .ref depths])), (lumpNames, .inl (ky 1, 6, .inr (.inl lumpNamesF))), (reader, .inr (5, [.ref rtape, .int (nI rlength), .int (nI rmostBytes), .int (nI rplace), .int rkind, .int (nI rbegin), .int rword, .int rnumber, .long rletters, .int rfaultKindG_9, .int rfaultPlaceG_10]))] := hD
      subst p11
      rw [hQ]
      have hP9 := hP.sub (ws' := [(se, .inr (9, [.ref ccodes, .int (nI ccodeCount), .int (nI cones)])), (ccodes, .inl (ky 0, 40, .inl ccodesF)), (reader, .inr (5, [.ref rtape, .int (nI rlength), .int (nI rmostBytes), .int (nI rplace), .int rkind, .int (nI rbegin), .int rword, .int rnumber, .long rletters, .int rfaultKindG_9, .int rfaultPlaceG_10])), (rtape, .inl (ky 2, 940, .inl rtapeF)), (a, .inr (7, [.int (nI wide), .int (nI high), .int heat, .int cools, .int skinHeat, .int today, .int stirs, .int steps, .int (nI lumps), .int (nI boats), .ref thickness, .ref lumpNames, .ref lumpCells, .ref boatNames, .ref boatCells, .ref loads, .ref spoons, .ref spoonsLeft, .ref depths])), (lumpNames, .inl (ky 1, 6, .inr (.inl lumpNamesF)))]) [0, 1, 5, 2, 3, 4] rfl
      have hD9 := hD.sub (ws' := [(se, .inr (9, [.ref ccodes, .int (nI ccodeCount), .int (nI cones)])), (ccodes, .inl (ky 0, 40, .inl ccodesF)), (reader, .inr (5, [.ref rtape, .int (nI rlength), .int (nI rmostBytes), .int (nI rplace), .int rkind, .int (nI rbegin), .int rword, .int rnumber, .long rletters, .int rfaultKindG_9, .int rfaultPlaceG_10])), (rtape, .inl (ky 2, 940, .inl rtapeF)), (a, .inr (7, [.int (nI wide), .int (nI high), .int heat, .int cools, .int skinHeat, .int today, .int stirs, .int steps, .int (nI lumps), .int (nI boats), .ref thickness, .ref lumpNames, .ref lumpCells, .ref boatNames, .ref boatCells, .ref loads, .ref spoons, .ref spoonsLeft, .ref depths])), (lumpNames, .inl (ky 1, 6, .inr (.inl lumpNamesF)))]) [0, 1, 5, 2, 3, 4] (by decide) rfl
      exact W.zret (v := nI 0) hx hb hr (by decide) (fun t9 ht9 hW9 => ⟨⟨nI 0, (ccodeCount, cones, ccodesF, rplace, rkind, rbegin, rword, rnumber, rletters, rfaultKindG_9, rfaultPlaceG_10), rfl, ⟨(lf_f_sn18_1 ccodeCount cones bt rlength rmostBytes rplace rkind rbegin rword rnumber rletters rfaultKind rfaultPlace rtapeF lumps lumpNamesF gp gnu r1 rfaultKindG_9 rfaultPlaceG_10 iv_cse_0 iv_cse_1 iv_rreader_0 iv_rreader_1 iv_rreader_2 iv_rreader_3 hTC iv_a_4 hRT hNL hcc p2 c3 c5 p12 p13), iv_cse_0, iv_cse_1, iv_rreader_1, iv_rreader_3⟩, by rw [ht9]; exact hP9, va_K.moved hW9.alike hK, hD9⟩, hS.F ht9⟩) hS.2.2 dX9_readOne_46
    · refine lv_iload hx hb dX9_readOne_34 (lv_at hl 1 rfl) ?_
      refine lv_bipush (v := nI 30) hx hb dX9_readOne_36 (by decide) ?_
      refine lv_icmp_le (tgt := 47) hx hb dX9_readOne_38 (by decide) (fun c14 => ?_) (fun c14 => ?_)
      · refine lv_aload_n hx hb dX9_readOne_47 rfl (lv_at hl 2 rfl) ?_
        refine va_get (D := (dC, dI)) (ci := 9) (v := .int (nI cones)) (C := RX9) (T := TX9) (N := 3) hx hb hts hin9 hown hK hP 0 rfl rfl 2 (by decide) (hts (.fieldLink RX9 19 "PorridgeSea$Sentence" "ones" "I") (List.mem_of_getElem? (i := 2) rfl)) (fun _ h9 => h9) rfl dX9_readOne_48 ?_
        refine lv_bipush (v := nI 20) hx hb dX9_readOne_51 (by decide) ?_
        refine n_icmp_ge (x := cones) (y := 20) (tgt := 62) hx hb (by omega) (by omega) dX9_readOne_53 (by decide) (fun c15 => ?_) (fun c15 => ?_)
        · refine lv_aload_n hx hb dX9_readOne_62 rfl (lv_at hl 3 rfl) ?_
          refine lv_iconst (v := nI 4) hx hb dX9_readOne_63 (by decide) ?_
          refine r_call_i (wr := [(se, .inr (9, [.ref ccodes, .int (nI ccodeCount), .int (nI cones)])), (ccodes, .inl (ky 0, 40, .inl ccodesF)), (rtape, .inl (ky 2, 940, .inl rtapeF)), (a, .inr (7, [.int (nI wide), .int (nI high), .int heat, .int cools, .int skinHeat, .int today, .int stirs, .int steps, .int (nI lumps), .int (nI boats), .ref thickness, .ref lumpNames, .ref lumpCells, .ref boatNames, .ref boatCells, .ref loads, .ref spoons, .ref spoonsLeft, .ref depths])), (lumpNames, .inl (ky 1, 6, .inr (.inl lumpNamesF)))]) (va_runV (As := [.int (nI 4)]) (rest := []) ⟨hx, hb, hml, hown, hts⟩ (c_f_refuse l dC dI ky s.heap.size reader rtape rlength rmostBytes rplace rkind rbegin rword rnumber rletters rfaultKind rfaultPlace (nI 4) iv_rreader_0 iv_rreader_1 iv_rreader_2 iv_rreader_3) (cwV 1 hts gX9_readOne_X5_refuse rfl rfl rfl (by decide +kernel) ⟨(Nat.le_of_ble_eq_true rfl), (Nat.le_of_ble_eq_true rfl)⟩) (pre_UV hK hP hD [2] (by decide) rfl (ci := 5) (q0 := 2) rfl rfl) rfl rfl hl.1 rfl (lv_room (Nat.le_of_ble_eq_true rfl)) dX9_readOne_64 ⟨(Nat.le_of_ble_eq_true rfl), (Nat.le_of_ble_eq_true rfl)⟩) hP hD hS hA [2] [0, 1, 3, 4, 5] rfl rfl (by decide) (by decide) (fun r18 u16 H locs p17 hP hD hS => ?_)
          obtain ⟨rfaultKindG_19, rfaultPlaceG_20⟩ := u16
          try dsimp only at p17
          obtain ⟨p21, p22, p23⟩ := p17
          refine W.widen (k := 0) (n := 0) (Nat.le_of_ble_eq_true rfl) (Nat.le_of_ble_eq_true rfl) ?_
          have hP : va_P (dC, dI) vwCl [(se, .inr (9, [.ref ccodes, .int (nI ccodeCount), .int (nI cones)])), (ccodes, .inl (ky 0, 40, .inl ccodesF)), (rtape, .inl (ky 2, 940, .inl rtapeF)), (a, .inr (7, [.int (nI wide), .int (nI high), .int heat, .int cools, .int skinHeat, .int today, .int stirs, .int steps, .int (nI lumps), .int (nI boats), .ref thickness, .ref lumpNames, .ref lumpCells, .ref boatNames, .ref boatCells, .ref loads, .ref spoons, .ref spoonsLeft, .ref depths])), (lumpNames, .inl (ky 1, 6, .inr (.inl lumpNamesF))), (reader, .inr (5, [.ref rtape, .int (nI rlength), .int (nI rmostBytes), .int (nI rplace), .int rkind, .int (nI rbegin), .int rword, .int rnumber, .long rletters, .int rfaultKindG_19, .int rfaultPlaceG_20]))] H := hP
          have hD : va_D A [(se, .inr (9, [.ref ccodes, .int (nI ccodeCount), .int (nI cones)])), (ccodes, .inl (ky 0, 40, .inl ccodesF)), (rtape, .inl (ky 2, 940, .inl rtapeF)), (a, .inr (7, [.int (nI wide), .int (nI high), .int heat, .int cools, .int skinHeat, .int today, .int stirs, .int steps, .int (nI lumps), .int (nI boats), .ref thickness, .ref lumpNames, .ref lumpCells, .ref boatNames, .ref boatCells, .ref loads, .ref spoons, .ref spoonsLeft, .ref depths])), (lumpNames, .inl (ky 1, 6, .inr (.inl lumpNamesF))), (reader, .inr (5, [.ref rtape, .int (nI rlength), .int (nI rmostBytes), .int (nI rplace), .int rkind, .int (nI rbegin), .int rword, .int rnumber, .long rletters, .int rfaultKindG_19, .int rfaultPlaceG_20]))] := hD
          subst p21
          rw [hQ]
          have hP9 := hP.sub (ws' := [(se, .inr (9, [.ref ccodes, .int (nI ccodeCount), .int (nI cones)])), (ccodes, .inl (ky 0, 40, .inl ccodesF)), (reader, .inr (5, [.ref rtape, .int (nI rlength), .int (nI rmostBytes), .int (nI rplace), .int rkind, .int (nI rbegin), .int rword, .int rnumber, .long rletters, .int rfaultKindG_19, .int rfaultPlaceG_20])), (rtape, .inl (ky 2, 940, .inl rtapeF)), (a, .inr (7, [.int (nI wide), .int (nI high), .int heat, .int cools, .int skinHeat, .int today, .int stirs, .int steps, .int (nI lumps), .int (nI boats), .ref thickness, .ref lumpNames, .ref lumpCells, .ref boatNames, .ref boatCells, .ref loads, .ref spoons, .ref spoonsLeft, .ref depths])), (lumpNames, .inl (ky 1, 6, .inr (.inl lumpNamesF)))]) [0, 1, 5, 2, 3, 4] rfl
          have hD9 := hD.sub (ws' := [(se, .inr (9, [.ref ccodes, .int (nI ccodeCount), .int (nI cones)])), (ccodes, .inl (ky 0, 40, .inl ccodesF)), (reader, .inr (5, [.ref rtape, .int (nI rlength), .int (nI rmostBytes), .int (nI rplace), .int rkind, .int (nI rbegin), .int rword, .int rnumber, .long rletters, .int rfaultKindG_19, .int rfaultPlaceG_20])), (rtape, .inl (ky 2, 940, .inl rtapeF)), (a, .inr (7, [.int (nI wide), .int (nI high), .int heat, .int cools, .int skinHeat, .int today, .int stirs, .int steps, .int (nI lumps), .int (nI boats), .ref thickness, .ref lumpNames, .ref lumpCells, .ref boatNames, .ref boatCells, .ref loads, .ref spoons, .ref spoonsLeft, .ref depths])), (lumpNames, .inl (ky 1, 6, .inr (.inl lumpNamesF)))]) [0, 1, 5, 2, 3, 4] (by decide) rfl
          exact W.zret (v := nI 0) hx hb hr (by decide) (fun t9 ht9 hW9 => ⟨⟨nI 0, (ccodeCount, cones, ccodesF, rplace, rkind, rbegin, rword, rnumber, rletters, rfaultKindG_19, rfaultPlaceG_20), rfl, ⟨(lf_f_sn18_2 ccodeCount cones bt rlength rmostBytes rplace rkind rbegin rword rnumber rletters rfaultKind rfaultPlace rtapeF lumps lumpNamesF gp gnu r1 rfaultKindG_19 rfaultPlaceG_20 iv_cse_0 iv_cse_1 iv_rreader_0 iv_rreader_1 iv_rreader_2 iv_rreader_3 hTC iv_a_4 hRT hNL hcc p2 c3 c5 c14 c15 p22 p23), iv_cse_0, iv_cse_1, iv_rreader_1, iv_rreader_3⟩, by rw [ht9]; exact hP9, va_K.moved hW9.alike hK, hD9⟩, hS.F ht9⟩) hS.2.2 dX9_readOne_67
        · refine lv_iload_n hx hb dX9_readOne_56 rfl (lv_at hl 5 rfl) ?_
          refine lv_bipush (v := nI 8) hx hb dX9_readOne_57 (by decide) ?_
          refine lv_icmp_le (tgt := 68) hx hb dX9_readOne_59 (by decide) (fun c24 => ?_) (fun c24 => absurd (by decide) c24)
          refine lv_aload_n hx hb dX9_readOne_68 rfl (lv_at hl 2 rfl) ?_
          refine lv_dup hx hb dX9_readOne_69 rfl ?_
          refine va_get (D := (dC, dI)) (ci := 9) (v := .int (nI cones)) (C := RX9) (T := TX9) (N := 3) hx hb hts hin9 hown hK hP 0 rfl rfl 2 (by decide) (hts (.fieldLink RX9 19 "PorridgeSea$Sentence" "ones" "I") (List.mem_of_getElem? (i := 2) rfl)) (fun _ h9 => h9) rfl dX9_readOne_70 ?_
          refine lv_iconst (v := nI 1) hx hb dX9_readOne_73 (by decide) ?_
          refine lv_iadd hx hb dX9_readOne_74 ?_
          refine r_ti (nI (cones + 1)) (nI_add _ _) ?_
          refine va_put (D := (dC, dI)) (ci := 9) (v := .int (nI (cones + 1))) (ty := .int) (C := RX9) (T := TX9) (N := 3) hx hb hts hin9 tyX9 tyX9_ok nmX9 hown hK hP hD hS 0 rfl rfl 2 (by decide) (hts (.fieldLink RX9 19 "PorridgeSea$Sentence" "ones" "I") (List.mem_of_getElem? (i := 2) rfl)) (fun _ h9 => h9) rfl (by decide +kernel) rfl rfl (Nat.le_of_ble_eq_true rfl) dX9_readOne_75 (fun H locs hP hD hS => ?_)
          have hP : va_P (dC, dI) vwCl [(se, .inr (9, [.ref ccodes, .int (nI ccodeCount), .int (nI (cones + 1))])), (ccodes, .inl (ky 0, 40, .inl ccodesF)), (reader, .inr (5, [.ref rtape, .int (nI rlength), .int (nI rmostBytes), .int (nI rplace), .int rkind, .int (nI rbegin), .int rword, .int rnumber, .long rletters, .int rfaultKind, .int rfaultPlace])), (rtape, .inl (ky 2, 940, .inl rtapeF)), (a, .inr (7, [.int (nI wide), .int (nI high), .int heat, .int cools, .int skinHeat, .int today, .int stirs, .int steps, .int (nI lumps), .int (nI boats), .ref thickness, .ref lumpNames, .ref lumpCells, .ref boatNames, .ref boatCells, .ref loads, .ref spoons, .ref spoonsLeft, .ref depths])), (lumpNames, .inl (ky 1, 6, .inr (.inl lumpNamesF)))] H := hP
          have hD : va_D A [(se, .inr (9, [.ref ccodes, .int (nI ccodeCount), .int (nI (cones + 1))])), (ccodes, .inl (ky 0, 40, .inl ccodesF)), (reader, .inr (5, [.ref rtape, .int (nI rlength), .int (nI rmostBytes), .int (nI rplace), .int rkind, .int (nI rbegin), .int rword, .int rnumber, .long rletters, .int rfaultKind, .int rfaultPlace])), (rtape, .inl (ky 2, 940, .inl rtapeF)), (a, .inr (7, [.int (nI wide), .int (nI high), .int heat, .int cools, .int skinHeat, .int today, .int stirs, .int steps, .int (nI lumps), .int (nI boats), .ref thickness, .ref lumpNames, .ref lumpCells, .ref boatNames, .ref boatCells, .ref loads, .ref spoons, .ref spoonsLeft, .ref depths])), (lumpNames, .inl (ky 1, 6, .inr (.inl lumpNamesF)))] := hD
          refine lv_aload_n hx hb dX9_readOne_78 rfl (lv_at hl 3 rfl) ?_
          refine r_call_v (wr := [(se, .inr (9, [.ref ccodes, .int (nI ccodeCount), .int (nI (cones + 1))])), (ccodes, .inl (ky 0, 40, .inl ccodesF)), (a, .inr (7, [.int (nI wide), .int (nI high), .int heat, .int cools, .int skinHeat, .int today, .int stirs, .int steps, .int (nI lumps), .int (nI boats), .ref thickness, .ref lumpNames, .ref lumpCells, .ref boatNames, .ref boatCells, .ref loads, .ref spoons, .ref spoonsLeft, .ref depths])), (lumpNames, .inl (ky 1, 6, .inr (.inl lumpNamesF)))]) (va_runV (As := []) (rest := []) ⟨hx, hb, hml, hown, hts⟩ (c_f_adv l dC dI ky H.size adK adV bt reader rtape rlength rmostBytes rplace rkind rbegin rword rnumber rletters rfaultKind rfaultPlace rtapeF (tT bt rlength rmostBytes gp) iv_rreader_0 iv_rreader_1 iv_rreader_2 iv_rreader_3 hTC hRT.2.2.1) (cwV 0 hts gX9_readOne_X5_advance rfl rfl rfl (by decide +kernel) ⟨(Nat.le_of_ble_eq_true rfl), (Nat.le_of_ble_eq_true rfl)⟩) (pre_UEV hE hS hA hK hP hD [2, 3] (by decide) rfl (va_recv hK hP (ci := 5) (q0 := 2) rfl rfl)) rfl rfl hl.1 rfl (lv_room (Nat.le_of_ble_eq_true rfl)) dX9_readOne_79 ⟨(Nat.le_of_ble_eq_true rfl), (Nat.le_of_ble_eq_true rfl)⟩) hP hD hS hA [2, 3] [0, 1, 4, 5] rfl rfl (by decide) (by decide) (fun  u25 H locs p26 hP hD hS => ?_)
          obtain ⟨rplaceG_27, rkindG_28, rbeginG_29, rwordG_30, rnumberG_31, rlettersG_32⟩ := u25
          try dsimp only at p26
          obtain ⟨p33, p34, p35⟩ := p26
          refine W.widen (k := 0) (n := 0) (Nat.le_of_ble_eq_true rfl) (Nat.le_of_ble_eq_true rfl) ?_
          have hP : va_P (dC, dI) vwCl [(se, .inr (9, [.ref ccodes, .int (nI ccodeCount), .int (nI (cones + 1))])), (ccodes, .inl (ky 0, 40, .inl ccodesF)), (a, .inr (7, [.int (nI wide), .int (nI high), .int heat, .int cools, .int skinHeat, .int today, .int stirs, .int steps, .int (nI lumps), .int (nI boats), .ref thickness, .ref lumpNames, .ref lumpCells, .ref boatNames, .ref boatCells, .ref loads, .ref spoons, .ref spoonsLeft, .ref depths])), (lumpNames, .inl (ky 1, 6, .inr (.inl lumpNamesF))), (reader, .inr (5, [.ref rtape, .int (nI rlength), .int (nI rmostBytes), .int (nI rplaceG_27), .int rkindG_28, .int (nI rbeginG_29), .int rwordG_30, .int rnumberG_31, .long rlettersG_32, .int rfaultKind, .int rfaultPlace])), (rtape, .inl (ky 2, 940, .inl rtapeF))] H := hP
          have hD : va_D A [(se, .inr (9, [.ref ccodes, .int (nI ccodeCount), .int (nI (cones + 1))])), (ccodes, .inl (ky 0, 40, .inl ccodesF)), (a, .inr (7, [.int (nI wide), .int (nI high), .int heat, .int cools, .int skinHeat, .int today, .int stirs, .int steps, .int (nI lumps), .int (nI boats), .ref thickness, .ref lumpNames, .ref lumpCells, .ref boatNames, .ref boatCells, .ref loads, .ref spoons, .ref spoonsLeft, .ref depths])), (lumpNames, .inl (ky 1, 6, .inr (.inl lumpNamesF))), (reader, .inr (5, [.ref rtape, .int (nI rlength), .int (nI rmostBytes), .int (nI rplaceG_27), .int rkindG_28, .int (nI rbeginG_29), .int rwordG_30, .int rnumberG_31, .long rlettersG_32, .int rfaultKind, .int rfaultPlace])), (rtape, .inl (ky 2, 940, .inl rtapeF))] := hD
          refine lv_iload hx hb dX9_readOne_82 (lv_at hl 0 rfl) ?_
          refine lv_if_eq (tgt := 114) hx hb dX9_readOne_84 (by decide) (fun c36 => ?_) (fun c36 => absurd (by decide) c36)
          refine lv_iload hx hb dX9_readOne_114 (lv_at hl 1 rfl) ?_
          refine lv_bipush (v := nI 22) hx hb dX9_readOne_116 (by decide) ?_
          refine lv_icmp_ne (tgt := 148) hx hb dX9_readOne_118 (by decide) (fun c37 => ?_) (fun c37 => ?_)
          · refine lv_iload hx hb dX9_readOne_148 (lv_at hl 1 rfl) ?_
            refine lv_bipush (v := nI 26) hx hb dX9_readOne_150 (by decide) ?_
            refine lv_icmp_ne (tgt := 162) hx hb dX9_readOne_152 (by decide) (fun c38 => ?_) (fun c38 => ?_)
            · refine lv_iload hx hb dX9_readOne_162 (lv_at hl 1 rfl) ?_
              refine lv_bipush (v := nI 27) hx hb dX9_readOne_164 (by decide) ?_
              refine lv_icmp_lt (tgt := 179) hx hb dX9_readOne_166 (by decide) (fun c39 => ?_) (fun c39 => ?_)
              · refine lv_aload_n hx hb dX9_readOne_179 rfl (lv_at hl 2 rfl) ?_
                refine lv_iload hx hb dX9_readOne_180 (lv_at hl 1 rfl) ?_
                refine r_call_i (wr := [(a, .inr (7, [.int (nI wide), .int (nI high), .int heat, .int cools, .int skinHeat, .int today, .int stirs, .int steps, .int (nI lumps), .int (nI boats), .ref thickness, .ref lumpNames, .ref lumpCells, .ref boatNames, .ref boatCells, .ref loads, .ref spoons, .ref spoonsLeft, .ref depths])), (lumpNames, .inl (ky 1, 6, .inr (.inl lumpNamesF))), (reader, .inr (5, [.ref rtape, .int (nI rlength), .int (nI rmostBytes), .int (nI rplaceG_27), .int rkindG_28, .int (nI rbeginG_29), .int rwordG_30, .int rnumberG_31, .long rlettersG_32, .int rfaultKind, .int rfaultPlace])), (rtape, .inl (ky 2, 940, .inl rtapeF))]) (va_runV (As := [.int r1]) (rest := []) ⟨hx, hb, hml, hown, hts⟩ (c_f_put9 l dC dI ky H.size se ccodes ccodeCount (cones + 1) ccodesF r1 iv_cse_0 (lf_f_sn18_3 ccodeCount cones iv_cse_0 iv_cse_1 hcc c15) (lf_f_sn18_4 ccodeCount cones iv_cse_0 iv_cse_1 hcc c15)) (cwV 1 hts gX9_readOne_X9_put rfl rfl rfl (by decide +kernel) ⟨(Nat.le_of_ble_eq_true rfl), (Nat.le_of_ble_eq_true rfl)⟩) (pre_UV hK hP hD [0, 1] (by decide) rfl (ci := 9) (q0 := 0) rfl rfl) rfl rfl hl.1 rfl (lv_room (Nat.le_of_ble_eq_true rfl)) dX9_readOne_182 ⟨(Nat.le_of_ble_eq_true rfl), (Nat.le_of_ble_eq_true rfl)⟩) hP hD hS hA [0, 1] [2, 3, 4, 5] rfl rfl (by decide) (by decide) (fun r42 u40 H locs p41 hP hD hS => ?_)
                obtain ⟨ccodeCountG_43, ccodesG_44⟩ := u40
                try dsimp only at p41
                obtain ⟨p45, p46, p47⟩ := p41
                refine W.widen (k := 0) (n := 0) (Nat.le_of_ble_eq_true rfl) (Nat.le_of_ble_eq_true rfl) ?_
                have hP : va_P (dC, dI) vwCl [(a, .inr (7, [.int (nI wide), .int (nI high), .int heat, .int cools, .int skinHeat, .int today, .int stirs, .int steps, .int (nI lumps), .int (nI boats), .ref thickness, .ref lumpNames, .ref lumpCells, .ref boatNames, .ref boatCells, .ref loads, .ref spoons, .ref spoonsLeft, .ref depths])), (lumpNames, .inl (ky 1, 6, .inr (.inl lumpNamesF))), (reader, .inr (5, [.ref rtape, .int (nI rlength), .int (nI rmostBytes), .int (nI rplaceG_27), .int rkindG_28, .int (nI rbeginG_29), .int rwordG_30, .int rnumberG_31, .long rlettersG_32, .int rfaultKind, .int rfaultPlace])), (rtape, .inl (ky 2, 940, .inl rtapeF)), (se, .inr (9, [.ref ccodes, .int (nI ccodeCountG_43), .int (nI (cones + 1))])), (ccodes, .inl (ky 0, 40, .inl ccodesG_44))] H := hP
                have hD : va_D A [(a, .inr (7, [.int (nI wide), .int (nI high), .int heat, .int cools, .int skinHeat, .int today, .int stirs, .int steps, .int (nI lumps), .int (nI boats), .ref thickness, .ref lumpNames, .ref lumpCells, .ref boatNames, .ref boatCells, .ref loads, .ref spoons, .ref spoonsLeft, .ref depths])), (lumpNames, .inl (ky 1, 6, .inr (.inl lumpNamesF))), (reader, .inr (5, [.ref rtape, .int (nI rlength), .int (nI rmostBytes), .int (nI rplaceG_27), .int rkindG_28, .int (nI rbeginG_29), .int rwordG_30, .int rnumberG_31, .long rlettersG_32, .int rfaultKind, .int rfaultPlace])), (rtape, .inl (ky 2, 940, .inl rtapeF)), (se, .inr (9, [.ref ccodes, .int (nI ccodeCountG_43), .int (nI (cones + 1))])), (ccodes, .inl (ky 0, 40, .inl ccodesG_44))] := hD
                subst p45
                rw [hQ]
                have hP9 := hP.sub (ws' := [(se, .inr (9, [.ref ccodes, .int (nI ccodeCountG_43), .int (nI (cones + 1))])), (ccodes, .inl (ky 0, 40, .inl ccodesG_44)), (reader, .inr (5, [.ref rtape, .int (nI rlength), .int (nI rmostBytes), .int (nI rplaceG_27), .int rkindG_28, .int (nI rbeginG_29), .int rwordG_30, .int rnumberG_31, .long rlettersG_32, .int rfaultKind, .int rfaultPlace])), (rtape, .inl (ky 2, 940, .inl rtapeF)), (a, .inr (7, [.int (nI wide), .int (nI high), .int heat, .int cools, .int skinHeat, .int today, .int stirs, .int steps, .int (nI lumps), .int (nI boats), .ref thickness, .ref lumpNames, .ref lumpCells, .ref boatNames, .ref boatCells, .ref loads, .ref spoons, .ref spoonsLeft, .ref depths])), (lumpNames, .inl (ky 1, 6, .inr (.inl lumpNamesF)))]) [4, 5, 2, 3, 0, 1] rfl
                have hD9 := hD.sub (ws' := [(se, .inr (9, [.ref ccodes, .int (nI ccodeCountG_43), .int (nI (cones + 1))])), (ccodes, .inl (ky 0, 40, .inl ccodesG_44)), (reader, .inr (5, [.ref rtape, .int (nI rlength), .int (nI rmostBytes), .int (nI rplaceG_27), .int rkindG_28, .int (nI rbeginG_29), .int rwordG_30, .int rnumberG_31, .long rlettersG_32, .int rfaultKind, .int rfaultPlace])), (rtape, .inl (ky 2, 940, .inl rtapeF)), (a, .inr (7, [.int (nI wide), .int (nI high), .int heat, .int cools, .int skinHeat, .int today, .int stirs, .int steps, .int (nI lumps), .int (nI boats), .ref thickness, .ref lumpNames, .ref lumpCells, .ref boatNames, .ref boatCells, .ref loads, .ref spoons, .ref spoonsLeft, .ref depths])), (lumpNames, .inl (ky 1, 6, .inr (.inl lumpNamesF)))]) [4, 5, 2, 3, 0, 1] (by decide) rfl
                exact W.zret (v := nI 1) hx hb hr (by decide) (fun t9 ht9 hW9 => ⟨⟨nI 1, (ccodeCountG_43, cones + 1, ccodesG_44, rplaceG_27, rkindG_28, rbeginG_29, rwordG_30, rnumberG_31, rlettersG_32, rfaultKind, rfaultPlace), rfl, ⟨(lf_f_sn18_5 ccodeCount cones bt rlength rmostBytes rplace rkind rbegin rword rnumber rletters rfaultKind rfaultPlace rtapeF lumps lumpNamesF gp gnu r1 rplaceG_27 rkindG_28 rbeginG_29 rwordG_30 rnumberG_31 rlettersG_32 ccodeCountG_43 iv_cse_0 iv_cse_1 iv_rreader_0 iv_rreader_1 iv_rreader_2 iv_rreader_3 hTC iv_a_4 hRT hNL hcc p2 c3 c5 c14 c15 p33 p34 p35 c37 c38 c39 p46 p47), p46, (lf_f_sn18_6 ccodeCount cones ccodeCountG_43 iv_cse_0 iv_cse_1 hcc c15 p46 p47), p33, p34⟩, by rw [ht9]; exact hP9, va_K.moved hW9.alike hK, hD9⟩, hS.F ht9⟩) hS.2.2 dX9_readOne_185
              · refine lv_aload_n hx hb dX9_readOne_169 rfl (lv_at hl 2 rfl) ?_
                refine lv_aload_n hx hb dX9_readOne_170 rfl (lv_at hl 3 rfl) ?_
                refine lv_iload hx hb dX9_readOne_171 (lv_at hl 1 rfl) ?_
                refine r_call_i (wr := [(a, .inr (7, [.int (nI wide), .int (nI high), .int heat, .int cools, .int skinHeat, .int today, .int stirs, .int steps, .int (nI lumps), .int (nI boats), .ref thickness, .ref lumpNames, .ref lumpCells, .ref boatNames, .ref boatCells, .ref loads, .ref spoons, .ref spoonsLeft, .ref depths])), (lumpNames, .inl (ky 1, 6, .inr (.inl lumpNamesF)))]) (va_runV (As := [.ref reader, .int r1]) (rest := []) ⟨hx, hb, hml, hown, hts⟩ (c_f_snCmp l dC dI ky H.size adK adV se ccodes ccodeCount (cones + 1) ccodesF bt reader rtape rlength rmostBytes rplaceG_27 rkindG_28 rbeginG_29 rwordG_30 rnumberG_31 rlettersG_32 rfaultKind rfaultPlace rtapeF (tT bt rlength rmostBytes gp) r1 iv_cse_0 (lf_f_sn18_7 ccodeCount cones iv_cse_0 iv_cse_1 hcc c15) iv_rreader_0 p33 iv_rreader_2 p34 hTC p35 (lf_f_sn18_8 ccodeCount cones iv_cse_0 iv_cse_1 hcc c15)) (cwV 2 hts gX9_readOne_X9_readComparison rfl rfl rfl (by decide +kernel) ⟨(Nat.le_of_ble_eq_true rfl), (Nat.le_of_ble_eq_true rfl)⟩) (pre_UEV hE hS hA hK hP hD [0, 1, 4, 5] (by decide) rfl (va_recv hK hP (ci := 9) (q0 := 0) rfl rfl)) rfl rfl hl.1 rfl (lv_room (Nat.le_of_ble_eq_true rfl)) dX9_readOne_173 ⟨(Nat.le_of_ble_eq_true rfl), (Nat.le_of_ble_eq_true rfl)⟩) hP hD hS hA [0, 1, 4, 5] [2, 3] rfl rfl (by decide) (by decide) (fun r50 u48 H locs p49 hP hD hS => ?_)
                obtain ⟨ccodeCountG_51, ccodesG_52, rplaceG_53, rkindG_54, rbeginG_55, rwordG_56, rnumberG_57, rlettersG_58, rfaultKindG_59, rfaultPlaceG_60⟩ := u48
                try dsimp only at p49
                obtain ⟨p61, p62, p63, p64⟩ := p49
                refine W.widen (k := 0) (n := 0) (Nat.le_of_ble_eq_true rfl) (Nat.le_of_ble_eq_true rfl) ?_
                have hP : va_P (dC, dI) vwCl [(a, .inr (7, [.int (nI wide), .int (nI high), .int heat, .int cools, .int skinHeat, .int today, .int stirs, .int steps, .int (nI lumps), .int (nI boats), .ref thickness, .ref lumpNames, .ref lumpCells, .ref boatNames, .ref boatCells, .ref loads, .ref spoons, .ref spoonsLeft, .ref depths])), (lumpNames, .inl (ky 1, 6, .inr (.inl lumpNamesF))), (se, .inr (9, [.ref ccodes, .int (nI ccodeCountG_51), .int (nI (cones + 1))])), (ccodes, .inl (ky 0, 40, .inl ccodesG_52)), (reader, .inr (5, [.ref rtape, .int (nI rlength), .int (nI rmostBytes), .int (nI rplaceG_53), .int rkindG_54, .int (nI rbeginG_55), .int rwordG_56, .int rnumberG_57, .long rlettersG_58, .int rfaultKindG_59, .int rfaultPlaceG_60])), (rtape, .inl (ky 2, 940, .inl rtapeF))] H := hP
                have hD : va_D A [(a, .inr (7, [.int (nI wide), .int (nI high), .int heat, .int cools, .int skinHeat, .int today, .int stirs, .int steps, .int (nI lumps), .int (nI boats), .ref thickness, .ref lumpNames, .ref lumpCells, .ref boatNames, .ref boatCells, .ref loads, .ref spoons, .ref spoonsLeft, .ref depths])), (lumpNames, .inl (ky 1, 6, .inr (.inl lumpNamesF))), (se, .inr (9, [.ref ccodes, .int (nI ccodeCountG_51), .int (nI (cones + 1))])), (ccodes, .inl (ky 0, 40, .inl ccodesG_52)), (reader, .inr (5, [.ref rtape, .int (nI rlength), .int (nI rmostBytes), .int (nI rplaceG_53), .int rkindG_54, .int (nI rbeginG_55), .int rwordG_56, .int rnumberG_57, .long rlettersG_58, .int rfaultKindG_59, .int rfaultPlaceG_60])), (rtape, .inl (ky 2, 940, .inl rtapeF))] := hD
                rcases p61 with ⟨rfl, t65, t66, t67, t68, t69⟩ | ⟨rfl, t70, t71, t72⟩
                · refine lv_goto (tgt := 185) hx hb dX9_readOne_176 (by decide) ?_
                  rw [hQ]
                  have hP9 := hP.sub (ws' := [(se, .inr (9, [.ref ccodes, .int (nI ccodeCountG_51), .int (nI (cones + 1))])), (ccodes, .inl (ky 0, 40, .inl ccodesG_52)), (reader, .inr (5, [.ref rtape, .int (nI rlength), .int (nI rmostBytes), .int (nI rplaceG_53), .int rkindG_54, .int (nI rbeginG_55), .int rwordG_56, .int rnumberG_57, .long rlettersG_58, .int rfaultKindG_59, .int rfaultPlaceG_60])), (rtape, .inl (ky 2, 940, .inl rtapeF)), (a, .inr (7, [.int (nI wide), .int (nI high), .int heat, .int cools, .int skinHeat, .int today, .int stirs, .int steps, .int (nI lumps), .int (nI boats), .ref thickness, .ref lumpNames, .ref lumpCells, .ref boatNames, .ref boatCells, .ref loads, .ref spoons, .ref spoonsLeft, .ref depths])), (lumpNames, .inl (ky 1, 6, .inr (.inl lumpNamesF)))]) [2, 3, 4, 5, 0, 1] rfl
                  have hD9 := hD.sub (ws' := [(se, .inr (9, [.ref ccodes, .int (nI ccodeCountG_51), .int (nI (cones + 1))])), (ccodes, .inl (ky 0, 40, .inl ccodesG_52)), (reader, .inr (5, [.ref rtape, .int (nI rlength), .int (nI rmostBytes), .int (nI rplaceG_53), .int rkindG_54, .int (nI rbeginG_55), .int rwordG_56, .int rnumberG_57, .long rlettersG_58, .int rfaultKindG_59, .int rfaultPlaceG_60])), (rtape, .inl (ky 2, 940, .inl rtapeF)), (a, .inr (7, [.int (nI wide), .int (nI high), .int heat, .int cools, .int skinHeat, .int today, .int stirs, .int steps, .int (nI lumps), .int (nI boats), .ref thickness, .ref lumpNames, .ref lumpCells, .ref boatNames, .ref boatCells, .ref loads, .ref spoons, .ref spoonsLeft, .ref depths])), (lumpNames, .inl (ky 1, 6, .inr (.inl lumpNamesF)))]) [2, 3, 4, 5, 0, 1] (by decide) rfl
                  exact W.zret (v := nI 1) hx hb hr (by decide) (fun t9 ht9 hW9 => ⟨⟨nI 1, (ccodeCountG_51, cones + 1, ccodesG_52, rplaceG_53, rkindG_54, rbeginG_55, rwordG_56, rnumberG_57, rlettersG_58, rfaultKindG_59, rfaultPlaceG_60), rfl, ⟨(lf_f_sn18_9 ccodeCount cones bt rlength rmostBytes rplace rkind rbegin rword rnumber rletters rfaultKind rfaultPlace rtapeF lumps lumpNamesF gp gnu r1 rplaceG_27 rkindG_28 rbeginG_29 rwordG_30 rnumberG_31 rlettersG_32 ccodeCountG_51 rplaceG_53 rkindG_54 rbeginG_55 rwordG_56 rnumberG_57 rlettersG_58 rfaultKindG_59 rfaultPlaceG_60 iv_cse_0 iv_cse_1 iv_rreader_0 iv_rreader_1 iv_rreader_2 iv_rreader_3 hTC iv_a_4 hRT hNL hcc p2 c3 c5 c14 c15 p33 p34 p35 c37 c38 c39 p62 p63 p64 t65 t66 t67 t68 t69), p62, (lf_f_sn18_10 ccodeCount cones ccodeCountG_51 iv_cse_0 iv_cse_1 hcc c15 p62 t67), p63, p64⟩, by rw [ht9]; exact hP9, va_K.moved hW9.alike hK, hD9⟩, hS.F ht9⟩) hS.2.2 dX9_readOne_185
                · refine lv_goto (tgt := 185) hx hb dX9_readOne_176 (by decide) ?_
                  rw [hQ]
                  have hP9 := hP.sub (ws' := [(se, .inr (9, [.ref ccodes, .int (nI ccodeCountG_51), .int (nI (cones + 1))])), (ccodes, .inl (ky 0, 40, .inl ccodesG_52)), (reader, .inr (5, [.ref rtape, .int (nI rlength), .int (nI rmostBytes), .int (nI rplaceG_53), .int rkindG_54, .int (nI rbeginG_55), .int rwordG_56, .int rnumberG_57, .long rlettersG_58, .int rfaultKindG_59, .int rfaultPlaceG_60])), (rtape, .inl (ky 2, 940, .inl rtapeF)), (a, .inr (7, [.int (nI wide), .int (nI high), .int heat, .int cools, .int skinHeat, .int today, .int stirs, .int steps, .int (nI lumps), .int (nI boats), .ref thickness, .ref lumpNames, .ref lumpCells, .ref boatNames, .ref boatCells, .ref loads, .ref spoons, .ref spoonsLeft, .ref depths])), (lumpNames, .inl (ky 1, 6, .inr (.inl lumpNamesF)))]) [2, 3, 4, 5, 0, 1] rfl
                  have hD9 := hD.sub (ws' := [(se, .inr (9, [.ref ccodes, .int (nI ccodeCountG_51), .int (nI (cones + 1))])), (ccodes, .inl (ky 0, 40, .inl ccodesG_52)), (reader, .inr (5, [.ref rtape, .int (nI rlength), .int (nI rmostBytes), .int (nI rplaceG_53), .int rkindG_54, .int (nI rbeginG_55), .int rwordG_56, .int rnumberG_57, .long rlettersG_58, .int rfaultKindG_59, .int rfaultPlaceG_60])), (rtape, .inl (ky 2, 940, .inl rtapeF)), (a, .inr (7, [.int (nI wide), .int (nI high), .int heat, .int cools, .int skinHeat, .int today, .int stirs, .int steps, .int (nI lumps), .int (nI boats), .ref thickness, .ref lumpNames, .ref lumpCells, .ref boatNames, .ref boatCells, .ref loads, .ref spoons, .ref spoonsLeft, .ref depths])), (lumpNames, .inl (ky 1, 6, .inr (.inl lumpNamesF)))]) [2, 3, 4, 5, 0, 1] (by decide) rfl
                  exact W.zret (v := nI 0) hx hb hr (by decide) (fun t9 ht9 hW9 => ⟨⟨nI 0, (ccodeCountG_51, cones + 1, ccodesG_52, rplaceG_53, rkindG_54, rbeginG_55, rwordG_56, rnumberG_57, rlettersG_58, rfaultKindG_59, rfaultPlaceG_60), rfl, ⟨(lf_f_sn18_11 ccodeCount cones bt rlength rmostBytes rplace rkind rbegin rword rnumber rletters rfaultKind rfaultPlace rtapeF lumps lumpNamesF gp gnu r1 rplaceG_27 rkindG_28 rbeginG_29 rwordG_30 rnumberG_31 rlettersG_32 ccodeCountG_51 rplaceG_53 rkindG_54 rbeginG_55 rwordG_56 rnumberG_57 rlettersG_58 rfaultKindG_59 rfaultPlaceG_60 iv_cse_0 iv_cse_1 iv_rreader_0 iv_rreader_1 iv_rreader_2 iv_rreader_3 hTC iv_a_4 hRT hNL hcc p2 c3 c5 c14 c15 p33 p34 p35 c37 c38 c39 p62 p63 p64 t70 t71 t72), p62, (lf_f_sn18_12 ccodeCount cones iv_cse_0 iv_cse_1 hcc c15), p63, p64⟩, by rw [ht9]; exact hP9, va_K.moved hW9.alike hK, hD9⟩, hS.F ht9⟩) hS.2.2 dX9_readOne_185
            · refine lv_aload_n hx hb dX9_readOne_155 rfl (lv_at hl 2 rfl) ?_
              refine lv_aload_n hx hb dX9_readOne_156 rfl (lv_at hl 3 rfl) ?_
              refine lv_aload_n hx hb dX9_readOne_157 rfl (lv_at hl 4 rfl) ?_
              refine r_call_i (wr := []) (va_runV (As := [.ref reader, .ref a]) (rest := []) ⟨hx, hb, hml, hown, hts⟩ (c_f_snBy l dC dI ky H.size adK adV se ccodes ccodeCount (cones + 1) ccodesF bt reader rtape rlength rmostBytes rplaceG_27 rkindG_28 rbeginG_29 rwordG_30 rnumberG_31 rlettersG_32 rfaultKind rfaultPlace rtapeF a wide high heat cools skinHeat today stirs steps lumps boats thickness lumpNames lumpCells boatNames boatCells loads spoons spoonsLeft depths lumpNamesF (tT bt rlength rmostBytes gp) gnu iv_cse_0 (lf_f_sn18_13 ccodeCount cones iv_cse_0 iv_cse_1 hcc c15) iv_rreader_0 p33 iv_rreader_2 p34 hTC iv_a_0 iv_a_1 iv_a_2 iv_a_3 iv_a_4 iv_a_5 p35 hNL (lf_f_sn18_14 ccodeCount cones iv_cse_0 iv_cse_1 hcc c15)) (cwV 2 hts gX9_readOne_X9_readLump rfl rfl rfl (by decide +kernel) ⟨(Nat.le_of_ble_eq_true rfl), (Nat.le_of_ble_eq_true rfl)⟩) (pre_UEV hE hS hA hK hP hD [0, 1, 4, 5, 2, 3] (by decide) rfl (va_recv hK hP (ci := 9) (q0 := 0) rfl rfl)) rfl rfl hl.1 rfl (lv_room (Nat.le_of_ble_eq_true rfl)) dX9_readOne_158 ⟨(Nat.le_of_ble_eq_true rfl), (Nat.le_of_ble_eq_true rfl)⟩) hP hD hS hA [0, 1, 4, 5, 2, 3] [] rfl rfl (by decide) (by decide) (fun r75 u73 H locs p74 hP hD hS => ?_)
              obtain ⟨ccodeCountG_76, ccodesG_77, rplaceG_78, rkindG_79, rbeginG_80, rwordG_81, rnumberG_82, rlettersG_83, rfaultKindG_84, rfaultPlaceG_85⟩ := u73
              try dsimp only at p74
              obtain ⟨p86, p87, p88, p89⟩ := p74
              refine W.widen (k := 0) (n := 0) (Nat.le_of_ble_eq_true rfl) (Nat.le_of_ble_eq_true rfl) ?_
              have hP : va_P (dC, dI) vwCl [(se, .inr (9, [.ref ccodes, .int (nI ccodeCountG_76), .int (nI (cones + 1))])), (ccodes, .inl (ky 0, 40, .inl ccodesG_77)), (reader, .inr (5, [.ref rtape, .int (nI rlength), .int (nI rmostBytes), .int (nI rplaceG_78), .int rkindG_79, .int (nI rbeginG_80), .int rwordG_81, .int rnumberG_82, .long rlettersG_83, .int rfaultKindG_84, .int rfaultPlaceG_85])), (rtape, .inl (ky 2, 940, .inl rtapeF)), (a, .inr (7, [.int (nI wide), .int (nI high), .int heat, .int cools, .int skinHeat, .int today, .int stirs, .int steps, .int (nI lumps), .int (nI boats), .ref thickness, .ref lumpNames, .ref lumpCells, .ref boatNames, .ref boatCells, .ref loads, .ref spoons, .ref spoonsLeft, .ref depths])), (lumpNames, .inl (ky 1, 6, .inr (.inl lumpNamesF)))] H := hP
              have hD : va_D A [(se, .inr (9, [.ref ccodes, .int (nI ccodeCountG_76), .int (nI (cones + 1))])), (ccodes, .inl (ky 0, 40, .inl ccodesG_77)), (reader, .inr (5, [.ref rtape, .int (nI rlength), .int (nI rmostBytes), .int (nI rplaceG_78), .int rkindG_79, .int (nI rbeginG_80), .int rwordG_81, .int rnumberG_82, .long rlettersG_83, .int rfaultKindG_84, .int rfaultPlaceG_85])), (rtape, .inl (ky 2, 940, .inl rtapeF)), (a, .inr (7, [.int (nI wide), .int (nI high), .int heat, .int cools, .int skinHeat, .int today, .int stirs, .int steps, .int (nI lumps), .int (nI boats), .ref thickness, .ref lumpNames, .ref lumpCells, .ref boatNames, .ref boatCells, .ref loads, .ref spoons, .ref spoonsLeft, .ref depths])), (lumpNames, .inl (ky 1, 6, .inr (.inl lumpNamesF)))] := hD
              rcases p86 with ⟨rfl, t90, t91, t92, t93, t94⟩ | ⟨rfl, t95, t96, t97⟩
              · rw [hQ]
                exact W.zret (v := nI 1) hx hb hr (by decide) (fun t9 ht9 hW9 => ⟨⟨nI 1, (ccodeCountG_76, cones + 1, ccodesG_77, rplaceG_78, rkindG_79, rbeginG_80, rwordG_81, rnumberG_82, rlettersG_83, rfaultKindG_84, rfaultPlaceG_85), rfl, ⟨(lf_f_sn18_15 ccodeCount cones bt rlength rmostBytes rplace rkind rbegin rword rnumber rletters rfaultKind rfaultPlace rtapeF lumps lumpNamesF gp gnu r1 rplaceG_27 rkindG_28 rbeginG_29 rwordG_30 rnumberG_31 rlettersG_32 ccodeCountG_76 rplaceG_78 rkindG_79 rbeginG_80 rwordG_81 rnumberG_82 rlettersG_83 rfaultKindG_84 rfaultPlaceG_85 iv_cse_0 iv_cse_1 iv_rreader_0 iv_rreader_1 iv_rreader_2 iv_rreader_3 hTC iv_a_4 hRT hNL hcc p2 c3 c5 c14 c15 p33 p34 p35 c37 c38 p87 p88 p89 t90 t91 t92 t93 t94), p87, (lf_f_sn18_16 ccodeCount cones ccodeCountG_76 iv_cse_0 iv_cse_1 hcc c15 p87 t92), p88, p89⟩, by rw [ht9]; exact hP, va_K.moved hW9.alike hK, hD⟩, hS.F ht9⟩) hS.2.2 dX9_readOne_161
              · rw [hQ]
                exact W.zret (v := nI 0) hx hb hr (by decide) (fun t9 ht9 hW9 => ⟨⟨nI 0, (ccodeCountG_76, cones + 1, ccodesG_77, rplaceG_78, rkindG_79, rbeginG_80, rwordG_81, rnumberG_82, rlettersG_83, rfaultKindG_84, rfaultPlaceG_85), rfl, ⟨(lf_f_sn18_17 ccodeCount cones bt rlength rmostBytes rplace rkind rbegin rword rnumber rletters rfaultKind rfaultPlace rtapeF lumps lumpNamesF gp gnu r1 rplaceG_27 rkindG_28 rbeginG_29 rwordG_30 rnumberG_31 rlettersG_32 ccodeCountG_76 rplaceG_78 rkindG_79 rbeginG_80 rwordG_81 rnumberG_82 rlettersG_83 rfaultKindG_84 rfaultPlaceG_85 iv_cse_0 iv_cse_1 iv_rreader_0 iv_rreader_1 iv_rreader_2 iv_rreader_3 hTC iv_a_4 hRT hNL hcc p2 c3 c5 c14 c15 p33 p34 p35 c37 c38 p87 p88 p89 t95 t96 t97), p87, (lf_f_sn18_18 ccodeCount cones iv_cse_0 iv_cse_1 hcc c15), p88, p89⟩, by rw [ht9]; exact hP, va_K.moved hW9.alike hK, hD⟩, hS.F ht9⟩) hS.2.2 dX9_readOne_161
          · refine lv_aload_n hx hb dX9_readOne_121 rfl (lv_at hl 2 rfl) ?_
            refine lv_aload_n hx hb dX9_readOne_122 rfl (lv_at hl 3 rfl) ?_
            refine lv_aload_n hx hb dX9_readOne_123 rfl (lv_at hl 4 rfl) ?_
            refine lv_iload_n hx hb dX9_readOne_124 rfl (lv_at hl 5 rfl) ?_
            refine lv_iconst (v := nI 1) hx hb dX9_readOne_125 (by decide) ?_
            refine lv_iadd hx hb dX9_readOne_126 ?_
            refine r_ti (nI 9) (by decide) ?_
            refine r_call_i (wr := []) (va_runV (As := [.ref reader, .ref a, .int (nI 9)]) (rest := []) ⟨hx, hb, hml, hown, hts⟩ (c_f_sn19 l dC dI ky H.size adK adV se ccodes ccodeCount (cones + 1) ccodesF bt reader rtape rlength rmostBytes rplaceG_27 rkindG_28 rbeginG_29 rwordG_30 rnumberG_31 rlettersG_32 rfaultKind rfaultPlace rtapeF a wide high heat cools skinHeat today stirs steps lumps boats thickness lumpNames lumpCells boatNames boatCells loads spoons spoonsLeft depths lumpNamesF (tT bt rlength rmostBytes gp) gnu iv_cse_0 (lf_f_sn18_19 ccodeCount cones iv_cse_0 iv_cse_1 hcc c15) iv_rreader_0 p33 iv_rreader_2 p34 hTC iv_a_0 iv_a_1 iv_a_2 iv_a_3 iv_a_4 iv_a_5 p35 hNL (lf_f_sn18_20 ccodeCount cones iv_cse_0 iv_cse_1 hcc c15)) (cwV 3 hts gX9_readOne_X9_readOne rfl rfl rfl (by decide +kernel) ⟨(Nat.le_of_ble_eq_true rfl), (Nat.le_of_ble_eq_true rfl)⟩) (pre_UEV hE hS hA hK hP hD [0, 1, 4, 5, 2, 3] (by decide) rfl (va_recv hK hP (ci := 9) (q0 := 0) rfl rfl)) rfl rfl hl.1 rfl (lv_room (Nat.le_of_ble_eq_true rfl)) dX9_readOne_127 ⟨(Nat.le_of_ble_eq_true rfl), (Nat.le_of_ble_eq_true rfl)⟩) hP hD hS hA [0, 1, 4, 5, 2, 3] [] rfl rfl (by decide) (by decide) (fun r100 u98 H locs p99 hP hD hS => ?_)
            obtain ⟨rfaultKindG_101, rfaultPlaceG_102⟩ := u98
            try dsimp only at p99
            obtain ⟨p103, p104, p105, p106⟩ := p99
            refine W.widen (k := 0) (n := 0) (Nat.le_of_ble_eq_true rfl) (Nat.le_of_ble_eq_true rfl) ?_
            have hP : va_P (dC, dI) vwCl [(se, .inr (9, [.ref ccodes, .int (nI ccodeCount), .int (nI (cones + 1))])), (ccodes, .inl (ky 0, 40, .inl ccodesF)), (reader, .inr (5, [.ref rtape, .int (nI rlength), .int (nI rmostBytes), .int (nI rplaceG_27), .int rkindG_28, .int (nI rbeginG_29), .int rwordG_30, .int rnumberG_31, .long rlettersG_32, .int rfaultKindG_101, .int rfaultPlaceG_102])), (rtape, .inl (ky 2, 940, .inl rtapeF)), (a, .inr (7, [.int (nI wide), .int (nI high), .int heat, .int cools, .int skinHeat, .int today, .int stirs, .int steps, .int (nI lumps), .int (nI boats), .ref thickness, .ref lumpNames, .ref lumpCells, .ref boatNames, .ref boatCells, .ref loads, .ref spoons, .ref spoonsLeft, .ref depths])), (lumpNames, .inl (ky 1, 6, .inr (.inl lumpNamesF)))] H := hP
            have hD : va_D A [(se, .inr (9, [.ref ccodes, .int (nI ccodeCount), .int (nI (cones + 1))])), (ccodes, .inl (ky 0, 40, .inl ccodesF)), (reader, .inr (5, [.ref rtape, .int (nI rlength), .int (nI rmostBytes), .int (nI rplaceG_27), .int rkindG_28, .int (nI rbeginG_29), .int rwordG_30, .int rnumberG_31, .long rlettersG_32, .int rfaultKindG_101, .int rfaultPlaceG_102])), (rtape, .inl (ky 2, 940, .inl rtapeF)), (a, .inr (7, [.int (nI wide), .int (nI high), .int heat, .int cools, .int skinHeat, .int today, .int stirs, .int steps, .int (nI lumps), .int (nI boats), .ref thickness, .ref lumpNames, .ref lumpCells, .ref boatNames, .ref boatCells, .ref loads, .ref spoons, .ref spoonsLeft, .ref depths])), (lumpNames, .inl (ky 1, 6, .inr (.inl lumpNamesF)))] := hD
            subst p103
            refine lv_if_eq (tgt := 146) hx hb dX9_readOne_130 (by decide) (fun c107 => ?_) (fun c107 => absurd (by decide) c107)
            refine lv_iconst (v := nI 0) hx hb dX9_readOne_146 (by decide) ?_
            rw [hQ]
            exact W.zret (v := nI 0) hx hb hr (by decide) (fun t9 ht9 hW9 => ⟨⟨nI 0, (ccodeCount, cones + 1, ccodesF, rplaceG_27, rkindG_28, rbeginG_29, rwordG_30, rnumberG_31, rlettersG_32, rfaultKindG_101, rfaultPlaceG_102), rfl, ⟨(lf_f_sn18_21 ccodeCount cones bt rlength rmostBytes rplace rkind rbegin rword rnumber rletters rfaultKind rfaultPlace rtapeF lumps lumpNamesF gp gnu r1 rplaceG_27 rkindG_28 rbeginG_29 rwordG_30 rnumberG_31 rlettersG_32 rfaultKindG_101 rfaultPlaceG_102 iv_cse_0 iv_cse_1 iv_rreader_0 iv_rreader_1 iv_rreader_2 iv_rreader_3 hTC iv_a_4 hRT hNL hcc p2 c3 c5 c14 c15 p33 p34 p35 c37 p104 p105 p106), iv_cse_0, (lf_f_sn18_22 ccodeCount cones bt rlength rmostBytes rplace rkind rbegin rword rnumber rletters rtapeF lumps lumpNamesF gp gnu r1 rplaceG_27 rkindG_28 rbeginG_29 rwordG_30 rnumberG_31 rlettersG_32 rfaultKindG_101 rfaultPlaceG_102 iv_cse_0 iv_cse_1 iv_rreader_0 iv_rreader_1 iv_rreader_2 iv_rreader_3 hTC iv_a_4 hRT hNL hcc p2 c3 c5 c14 c15 p33 p34 p35 c37 p104 p105 p106), p33, p34⟩, by rw [ht9]; exact hP, va_K.moved hW9.alike hK, hD⟩, hS.F ht9⟩) hS.2.2 dX9_readOne_147
      · refine lv_aload_n hx hb dX9_readOne_41 rfl (lv_at hl 3 rfl) ?_
        refine lv_iconst (v := nI 1) hx hb dX9_readOne_42 (by decide) ?_
        refine r_call_i (wr := [(se, .inr (9, [.ref ccodes, .int (nI ccodeCount), .int (nI cones)])), (ccodes, .inl (ky 0, 40, .inl ccodesF)), (rtape, .inl (ky 2, 940, .inl rtapeF)), (a, .inr (7, [.int (nI wide), .int (nI high), .int heat, .int cools, .int skinHeat, .int today, .int stirs, .int steps, .int (nI lumps), .int (nI boats), .ref thickness, .ref lumpNames, .ref lumpCells, .ref boatNames, .ref boatCells, .ref loads, .ref spoons, .ref spoonsLeft, .ref depths])), (lumpNames, .inl (ky 1, 6, .inr (.inl lumpNamesF)))]) (va_runV (As := [.int (nI 1)]) (rest := []) ⟨hx, hb, hml, hown, hts⟩ (c_f_refuse l dC dI ky s.heap.size reader rtape rlength rmostBytes rplace rkind rbegin rword rnumber rletters rfaultKind rfaultPlace (nI 1) iv_rreader_0 iv_rreader_1 iv_rreader_2 iv_rreader_3) (cwV 1 hts gX9_readOne_X5_refuse rfl rfl rfl (by decide +kernel) ⟨(Nat.le_of_ble_eq_true rfl), (Nat.le_of_ble_eq_true rfl)⟩) (pre_UV hK hP hD [2] (by decide) rfl (ci := 5) (q0 := 2) rfl rfl) rfl rfl hl.1 rfl (lv_room (Nat.le_of_ble_eq_true rfl)) dX9_readOne_43 ⟨(Nat.le_of_ble_eq_true rfl), (Nat.le_of_ble_eq_true rfl)⟩) hP hD hS hA [2] [0, 1, 3, 4, 5] rfl rfl (by decide) (by decide) (fun r110 u108 H locs p109 hP hD hS => ?_)
        obtain ⟨rfaultKindG_111, rfaultPlaceG_112⟩ := u108
        try dsimp only at p109
        obtain ⟨p113, p114, p115⟩ := p109
        refine W.widen (k := 0) (n := 0) (Nat.le_of_ble_eq_true rfl) (Nat.le_of_ble_eq_true rfl) ?_
        have hP : va_P (dC, dI) vwCl [(se, .inr (9, [.ref ccodes, .int (nI ccodeCount), .int (nI cones)])), (ccodes, .inl (ky 0, 40, .inl ccodesF)), (rtape, .inl (ky 2, 940, .inl rtapeF)), (a, .inr (7, [.int (nI wide), .int (nI high), .int heat, .int cools, .int skinHeat, .int today, .int stirs, .int steps, .int (nI lumps), .int (nI boats), .ref thickness, .ref lumpNames, .ref lumpCells, .ref boatNames, .ref boatCells, .ref loads, .ref spoons, .ref spoonsLeft, .ref depths])), (lumpNames, .inl (ky 1, 6, .inr (.inl lumpNamesF))), (reader, .inr (5, [.ref rtape, .int (nI rlength), .int (nI rmostBytes), .int (nI rplace), .int rkind, .int (nI rbegin), .int rword, .int rnumber, .long rletters, .int rfaultKindG_111, .int rfaultPlaceG_112]))] H := hP
        have hD : va_D A [(se, .inr (9, [.ref ccodes, .int (nI ccodeCount), .int (nI cones)])), (ccodes, .inl (ky 0, 40, .inl ccodesF)), (rtape, .inl (ky 2, 940, .inl rtapeF)), (a, .inr (7, [.int (nI wide), .int (nI high), .int heat, .int cools, .int skinHeat, .int today, .int stirs, .int steps, .int (nI lumps), .int (nI boats), .ref thickness, .ref lumpNames, .ref lumpCells, .ref boatNames, .ref boatCells, .ref loads, .ref spoons, .ref spoonsLeft, .ref depths])), (lumpNames, .inl (ky 1, 6, .inr (.inl lumpNamesF))), (reader, .inr (5, [.ref rtape, .int (nI rlength), .int (nI rmostBytes), .int (nI rplace), .int rkind, .int (nI rbegin), .int rword, .int rnumber, .long rletters, .int rfaultKindG_111, .int rfaultPlaceG_112]))] := hD
        subst p113
        rw [hQ]
        have hP9 := hP.sub (ws' := [(se, .inr (9, [.ref ccodes, .int (nI ccodeCount), .int (nI cones)])), (ccodes, .inl (ky 0, 40, .inl ccodesF)), (reader, .inr (5, [.ref rtape, .int (nI rlength), .int (nI rmostBytes), .int (nI rplace), .int rkind, .int (nI rbegin), .int rword, .int rnumber, .long rletters, .int rfaultKindG_111, .int rfaultPlaceG_112])), (rtape, .inl (ky 2, 940, .inl rtapeF)), (a, .inr (7, [.int (nI wide), .int (nI high), .int heat, .int cools, .int skinHeat, .int today, .int stirs, .int steps, .int (nI lumps), .int (nI boats), .ref thickness, .ref lumpNames, .ref lumpCells, .ref boatNames, .ref boatCells, .ref loads, .ref spoons, .ref spoonsLeft, .ref depths])), (lumpNames, .inl (ky 1, 6, .inr (.inl lumpNamesF)))]) [0, 1, 5, 2, 3, 4] rfl
        have hD9 := hD.sub (ws' := [(se, .inr (9, [.ref ccodes, .int (nI ccodeCount), .int (nI cones)])), (ccodes, .inl (ky 0, 40, .inl ccodesF)), (reader, .inr (5, [.ref rtape, .int (nI rlength), .int (nI rmostBytes), .int (nI rplace), .int rkind, .int (nI rbegin), .int rword, .int rnumber, .long rletters, .int rfaultKindG_111, .int rfaultPlaceG_112])), (rtape, .inl (ky 2, 940, .inl rtapeF)), (a, .inr (7, [.int (nI wide), .int (nI high), .int heat, .int cools, .int skinHeat, .int today, .int stirs, .int steps, .int (nI lumps), .int (nI boats), .ref thickness, .ref lumpNames, .ref lumpCells, .ref boatNames, .ref boatCells, .ref loads, .ref spoons, .ref spoonsLeft, .ref depths])), (lumpNames, .inl (ky 1, 6, .inr (.inl lumpNamesF)))]) [0, 1, 5, 2, 3, 4] (by decide) rfl
        exact W.zret (v := nI 0) hx hb hr (by decide) (fun t9 ht9 hW9 => ⟨⟨nI 0, (ccodeCount, cones, ccodesF, rplace, rkind, rbegin, rword, rnumber, rletters, rfaultKindG_111, rfaultPlaceG_112), rfl, ⟨(lf_f_sn18_23 ccodeCount cones bt rlength rmostBytes rplace rkind rbegin rword rnumber rletters rfaultKind rfaultPlace rtapeF lumps lumpNamesF gp gnu r1 rfaultKindG_111 rfaultPlaceG_112 iv_cse_0 iv_cse_1 iv_rreader_0 iv_rreader_1 iv_rreader_2 iv_rreader_3 hTC iv_a_4 hRT hNL hcc p2 c3 c5 c14 p114 p115), iv_cse_0, iv_cse_1, iv_rreader_1, iv_rreader_3⟩, by rw [ht9]; exact hP9, va_K.moved hW9.alike hK, hD9⟩, hS.F ht9⟩) hS.2.2 dX9_readOne_46
  · refine lv_iconst (v := nI 1) hx hb dX9_readOne_15 (by decide) ?_
    refine lv_goto (tgt := 20) hx hb dX9_readOne_16 (by decide) ?_
    refine lv_istore (lv' := [(5, .int (nI 1)), (4, .int r1), (0, .ref se), (1, .ref reader), (2, .ref a), (3, .int (nI 8))]) hx hb dX9_readOne_20 hl (by decide) rfl (fun ls hl => ?_)
    refine lv_iload hx hb dX9_readOne_22 (lv_at hl 0 rfl) ?_
    refine lv_if_ne (tgt := 47) hx hb dX9_readOne_24 (by decide) (fun c116 => ?_) (fun c116 => absurd c116 (by decide))
    refine lv_aload_n hx hb dX9_readOne_47 rfl (lv_at hl 2 rfl) ?_
    refine va_get (D := (dC, dI)) (ci := 9) (v := .int (nI cones)) (C := RX9) (T := TX9) (N := 3) hx hb hts hin9 hown hK hP 0 rfl rfl 2 (by decide) (hts (.fieldLink RX9 19 "PorridgeSea$Sentence" "ones" "I") (List.mem_of_getElem? (i := 2) rfl)) (fun _ h9 => h9) rfl dX9_readOne_48 ?_
    refine lv_bipush (v := nI 20) hx hb dX9_readOne_51 (by decide) ?_
    refine n_icmp_ge (x := cones) (y := 20) (tgt := 62) hx hb (by omega) (by omega) dX9_readOne_53 (by decide) (fun c117 => ?_) (fun c117 => ?_)
    · refine lv_aload_n hx hb dX9_readOne_62 rfl (lv_at hl 3 rfl) ?_
      refine lv_iconst (v := nI 4) hx hb dX9_readOne_63 (by decide) ?_
      refine r_call_i (wr := [(se, .inr (9, [.ref ccodes, .int (nI ccodeCount), .int (nI cones)])), (ccodes, .inl (ky 0, 40, .inl ccodesF)), (rtape, .inl (ky 2, 940, .inl rtapeF)), (a, .inr (7, [.int (nI wide), .int (nI high), .int heat, .int cools, .int skinHeat, .int today, .int stirs, .int steps, .int (nI lumps), .int (nI boats), .ref thickness, .ref lumpNames, .ref lumpCells, .ref boatNames, .ref boatCells, .ref loads, .ref spoons, .ref spoonsLeft, .ref depths])), (lumpNames, .inl (ky 1, 6, .inr (.inl lumpNamesF)))]) (va_runV (As := [.int (nI 4)]) (rest := []) ⟨hx, hb, hml, hown, hts⟩ (c_f_refuse l dC dI ky s.heap.size reader rtape rlength rmostBytes rplace rkind rbegin rword rnumber rletters rfaultKind rfaultPlace (nI 4) iv_rreader_0 iv_rreader_1 iv_rreader_2 iv_rreader_3) (cwV 1 hts gX9_readOne_X5_refuse rfl rfl rfl (by decide +kernel) ⟨(Nat.le_of_ble_eq_true rfl), (Nat.le_of_ble_eq_true rfl)⟩) (pre_UV hK hP hD [2] (by decide) rfl (ci := 5) (q0 := 2) rfl rfl) rfl rfl hl.1 rfl (lv_room (Nat.le_of_ble_eq_true rfl)) dX9_readOne_64 ⟨(Nat.le_of_ble_eq_true rfl), (Nat.le_of_ble_eq_true rfl)⟩) hP hD hS hA [2] [0, 1, 3, 4, 5] rfl rfl (by decide) (by decide) (fun r120 u118 H locs p119 hP hD hS => ?_)
      obtain ⟨rfaultKindG_121, rfaultPlaceG_122⟩ := u118
      try dsimp only at p119
      obtain ⟨p123, p124, p125⟩ := p119
      refine W.widen (k := 0) (n := 0) (Nat.le_of_ble_eq_true rfl) (Nat.le_of_ble_eq_true rfl) ?_
      have hP : va_P (dC, dI) vwCl [(se, .inr (9, [.ref ccodes, .int (nI ccodeCount), .int (nI cones)])), (ccodes, .inl (ky 0, 40, .inl ccodesF)), (rtape, .inl (ky 2, 940, .inl rtapeF)), (a, .inr (7, [.int (nI wide), .int (nI high), .int heat, .int cools, .int skinHeat, .int today, .int stirs, .int steps, .int (nI lumps), .int (nI boats), .ref thickness, .ref lumpNames, .ref lumpCells, .ref boatNames, .ref boatCells, .ref loads, .ref spoons, .ref spoonsLeft, .ref depths])), (lumpNames, .inl (ky 1, 6, .inr (.inl lumpNamesF))), (reader, .inr (5, [.ref rtape, .int (nI rlength), .int (nI rmostBytes), .int (nI rplace), .int rkind, .int (nI rbegin), .int rword, .int rnumber, .long rletters, .int rfaultKindG_121, .int rfaultPlaceG_122]))] H := hP
      have hD : va_D A [(se, .inr (9, [.ref ccodes, .int (nI ccodeCount), .int (nI cones)])), (ccodes, .inl (ky 0, 40, .inl ccodesF)), (rtape, .inl (ky 2, 940, .inl rtapeF)), (a, .inr (7, [.int (nI wide), .int (nI high), .int heat, .int cools, .int skinHeat, .int today, .int stirs, .int steps, .int (nI lumps), .int (nI boats), .ref thickness, .ref lumpNames, .ref lumpCells, .ref boatNames, .ref boatCells, .ref loads, .ref spoons, .ref spoonsLeft, .ref depths])), (lumpNames, .inl (ky 1, 6, .inr (.inl lumpNamesF))), (reader, .inr (5, [.ref rtape, .int (nI rlength), .int (nI rmostBytes), .int (nI rplace), .int rkind, .int (nI rbegin), .int rword, .int rnumber, .long rletters, .int rfaultKindG_121, .int rfaultPlaceG_122]))] := hD
      subst p123
      rw [hQ]
      have hP9 := hP.sub (ws' := [(se, .inr (9, [.ref ccodes, .int (nI ccodeCount), .int (nI cones)])), (ccodes, .inl (ky 0, 40, .inl ccodesF)), (reader, .inr (5, [.ref rtape, .int (nI rlength), .int (nI rmostBytes), .int (nI rplace), .int rkind, .int (nI rbegin), .int rword, .int rnumber, .long rletters, .int rfaultKindG_121, .int rfaultPlaceG_122])), (rtape, .inl (ky 2, 940, .inl rtapeF)), (a, .inr (7, [.int (nI wide), .int (nI high), .int heat, .int cools, .int skinHeat, .int today, .int stirs, .int steps, .int (nI lumps), .int (nI boats), .ref thickness, .ref lumpNames, .ref lumpCells, .ref boatNames, .ref boatCells, .ref loads, .ref spoons, .ref spoonsLeft, .ref depths])), (lumpNames, .inl (ky 1, 6, .inr (.inl lumpNamesF)))]) [0, 1, 5, 2, 3, 4] rfl
      have hD9 := hD.sub (ws' := [(se, .inr (9, [.ref ccodes, .int (nI ccodeCount), .int (nI cones)])), (ccodes, .inl (ky 0, 40, .inl ccodesF)), (reader, .inr (5, [.ref rtape, .int (nI rlength), .int (nI rmostBytes), .int (nI rplace), .int rkind, .int (nI rbegin), .int rword, .int rnumber, .long rletters, .int rfaultKindG_121, .int rfaultPlaceG_122])), (rtape, .inl (ky 2, 940, .inl rtapeF)), (a, .inr (7, [.int (nI wide), .int (nI high), .int heat, .int cools, .int skinHeat, .int today, .int stirs, .int steps, .int (nI lumps), .int (nI boats), .ref thickness, .ref lumpNames, .ref lumpCells, .ref boatNames, .ref boatCells, .ref loads, .ref spoons, .ref spoonsLeft, .ref depths])), (lumpNames, .inl (ky 1, 6, .inr (.inl lumpNamesF)))]) [0, 1, 5, 2, 3, 4] (by decide) rfl
      exact W.zret (v := nI 0) hx hb hr (by decide) (fun t9 ht9 hW9 => ⟨⟨nI 0, (ccodeCount, cones, ccodesF, rplace, rkind, rbegin, rword, rnumber, rletters, rfaultKindG_121, rfaultPlaceG_122), rfl, ⟨(lf_f_sn18_24 ccodeCount cones bt rlength rmostBytes rplace rkind rbegin rword rnumber rletters rfaultKind rfaultPlace rtapeF lumps lumpNamesF gp gnu r1 rfaultKindG_121 rfaultPlaceG_122 iv_cse_0 iv_cse_1 iv_rreader_0 iv_rreader_1 iv_rreader_2 iv_rreader_3 hTC iv_a_4 hRT hNL hcc p2 c3 c117 p124 p125), iv_cse_0, iv_cse_1, iv_rreader_1, iv_rreader_3⟩, by rw [ht9]; exact hP9, va_K.moved hW9.alike hK, hD9⟩, hS.F ht9⟩) hS.2.2 dX9_readOne_67
    · refine lv_iload_n hx hb dX9_readOne_56 rfl (lv_at hl 5 rfl) ?_
      refine lv_bipush (v := nI 8) hx hb dX9_readOne_57 (by decide) ?_
      refine lv_icmp_le (tgt := 68) hx hb dX9_readOne_59 (by decide) (fun c126 => ?_) (fun c126 => absurd (by decide) c126)
      refine lv_aload_n hx hb dX9_readOne_68 rfl (lv_at hl 2 rfl) ?_
      refine lv_dup hx hb dX9_readOne_69 rfl ?_
      refine va_get (D := (dC, dI)) (ci := 9) (v := .int (nI cones)) (C := RX9) (T := TX9) (N := 3) hx hb hts hin9 hown hK hP 0 rfl rfl 2 (by decide) (hts (.fieldLink RX9 19 "PorridgeSea$Sentence" "ones" "I") (List.mem_of_getElem? (i := 2) rfl)) (fun _ h9 => h9) rfl dX9_readOne_70 ?_
      refine lv_iconst (v := nI 1) hx hb dX9_readOne_73 (by decide) ?_
      refine lv_iadd hx hb dX9_readOne_74 ?_
      refine r_ti (nI (cones + 1)) (nI_add _ _) ?_
      refine va_put (D := (dC, dI)) (ci := 9) (v := .int (nI (cones + 1))) (ty := .int) (C := RX9) (T := TX9) (N := 3) hx hb hts hin9 tyX9 tyX9_ok nmX9 hown hK hP hD hS 0 rfl rfl 2 (by decide) (hts (.fieldLink RX9 19 "PorridgeSea$Sentence" "ones" "I") (List.mem_of_getElem? (i := 2) rfl)) (fun _ h9 => h9) rfl (by decide +kernel) rfl rfl (Nat.le_of_ble_eq_true rfl) dX9_readOne_75 (fun H locs hP hD hS => ?_)
      have hP : va_P (dC, dI) vwCl [(se, .inr (9, [.ref ccodes, .int (nI ccodeCount), .int (nI (cones + 1))])), (ccodes, .inl (ky 0, 40, .inl ccodesF)), (reader, .inr (5, [.ref rtape, .int (nI rlength), .int (nI rmostBytes), .int (nI rplace), .int rkind, .int (nI rbegin), .int rword, .int rnumber, .long rletters, .int rfaultKind, .int rfaultPlace])), (rtape, .inl (ky 2, 940, .inl rtapeF)), (a, .inr (7, [.int (nI wide), .int (nI high), .int heat, .int cools, .int skinHeat, .int today, .int stirs, .int steps, .int (nI lumps), .int (nI boats), .ref thickness, .ref lumpNames, .ref lumpCells, .ref boatNames, .ref boatCells, .ref loads, .ref spoons, .ref spoonsLeft, .ref depths])), (lumpNames, .inl (ky 1, 6, .inr (.inl lumpNamesF)))] H := hP
      have hD : va_D A [(se, .inr (9, [.ref ccodes, .int (nI ccodeCount), .int (nI (cones + 1))])), (ccodes, .inl (ky 0, 40, .inl ccodesF)), (reader, .inr (5, [.ref rtape, .int (nI rlength), .int (nI rmostBytes), .int (nI rplace), .int rkind, .int (nI rbegin), .int rword, .int rnumber, .long rletters, .int rfaultKind, .int rfaultPlace])), (rtape, .inl (ky 2, 940, .inl rtapeF)), (a, .inr (7, [.int (nI wide), .int (nI high), .int heat, .int cools, .int skinHeat, .int today, .int stirs, .int steps, .int (nI lumps), .int (nI boats), .ref thickness, .ref lumpNames, .ref lumpCells, .ref boatNames, .ref boatCells, .ref loads, .ref spoons, .ref spoonsLeft, .ref depths])), (lumpNames, .inl (ky 1, 6, .inr (.inl lumpNamesF)))] := hD
      refine lv_aload_n hx hb dX9_readOne_78 rfl (lv_at hl 3 rfl) ?_
      refine r_call_v (wr := [(se, .inr (9, [.ref ccodes, .int (nI ccodeCount), .int (nI (cones + 1))])), (ccodes, .inl (ky 0, 40, .inl ccodesF)), (a, .inr (7, [.int (nI wide), .int (nI high), .int heat, .int cools, .int skinHeat, .int today, .int stirs, .int steps, .int (nI lumps), .int (nI boats), .ref thickness, .ref lumpNames, .ref lumpCells, .ref boatNames, .ref boatCells, .ref loads, .ref spoons, .ref spoonsLeft, .ref depths])), (lumpNames, .inl (ky 1, 6, .inr (.inl lumpNamesF)))]) (va_runV (As := []) (rest := []) ⟨hx, hb, hml, hown, hts⟩ (c_f_adv l dC dI ky H.size adK adV bt reader rtape rlength rmostBytes rplace rkind rbegin rword rnumber rletters rfaultKind rfaultPlace rtapeF (tT bt rlength rmostBytes gp) iv_rreader_0 iv_rreader_1 iv_rreader_2 iv_rreader_3 hTC hRT.2.2.1) (cwV 0 hts gX9_readOne_X5_advance rfl rfl rfl (by decide +kernel) ⟨(Nat.le_of_ble_eq_true rfl), (Nat.le_of_ble_eq_true rfl)⟩) (pre_UEV hE hS hA hK hP hD [2, 3] (by decide) rfl (va_recv hK hP (ci := 5) (q0 := 2) rfl rfl)) rfl rfl hl.1 rfl (lv_room (Nat.le_of_ble_eq_true rfl)) dX9_readOne_79 ⟨(Nat.le_of_ble_eq_true rfl), (Nat.le_of_ble_eq_true rfl)⟩) hP hD hS hA [2, 3] [0, 1, 4, 5] rfl rfl (by decide) (by decide) (fun  u127 H locs p128 hP hD hS => ?_)
      obtain ⟨rplaceG_129, rkindG_130, rbeginG_131, rwordG_132, rnumberG_133, rlettersG_134⟩ := u127
      try dsimp only at p128
      obtain ⟨p135, p136, p137⟩ := p128
      refine W.widen (k := 0) (n := 0) (Nat.le_of_ble_eq_true rfl) (Nat.le_of_ble_eq_true rfl) ?_
      have hP : va_P (dC, dI) vwCl [(se, .inr (9, [.ref ccodes, .int (nI ccodeCount), .int (nI (cones + 1))])), (ccodes, .inl (ky 0, 40, .inl ccodesF)), (a, .inr (7, [.int (nI wide), .int (nI high), .int heat, .int cools, .int skinHeat, .int today, .int stirs, .int steps, .int (nI lumps), .int (nI boats), .ref thickness, .ref lumpNames, .ref lumpCells, .ref boatNames, .ref boatCells, .ref loads, .ref spoons, .ref spoonsLeft, .ref depths])), (lumpNames, .inl (ky 1, 6, .inr (.inl lumpNamesF))), (reader, .inr (5, [.ref rtape, .int (nI rlength), .int (nI rmostBytes), .int (nI rplaceG_129), .int rkindG_130, .int (nI rbeginG_131), .int rwordG_132, .int rnumberG_133, .long rlettersG_134, .int rfaultKind, .int rfaultPlace])), (rtape, .inl (ky 2, 940, .inl rtapeF))] H := hP
      have hD : va_D A [(se, .inr (9, [.ref ccodes, .int (nI ccodeCount), .int (nI (cones + 1))])), (ccodes, .inl (ky 0, 40, .inl ccodesF)), (a, .inr (7, [.int (nI wide), .int (nI high), .int heat, .int cools, .int skinHeat, .int today, .int stirs, .int steps, .int (nI lumps), .int (nI boats), .ref thickness, .ref lumpNames, .ref lumpCells, .ref boatNames, .ref boatCells, .ref loads, .ref spoons, .ref spoonsLeft, .ref depths])), (lumpNames, .inl (ky 1, 6, .inr (.inl lumpNamesF))), (reader, .inr (5, [.ref rtape, .int (nI rlength), .int (nI rmostBytes), .int (nI rplaceG_129), .int rkindG_130, .int (nI rbeginG_131), .int rwordG_132, .int rnumberG_133, .long rlettersG_134, .int rfaultKind, .int rfaultPlace])), (rtape, .inl (ky 2, 940, .inl rtapeF))] := hD
      refine lv_iload hx hb dX9_readOne_82 (lv_at hl 0 rfl) ?_
      refine lv_if_eq (tgt := 114) hx hb dX9_readOne_84 (by decide) (fun c138 => absurd c138 (by decide)) (fun c138 => ?_)
      refine lv_aload_n hx hb dX9_readOne_87 rfl (lv_at hl 2 rfl) ?_
      refine lv_aload_n hx hb dX9_readOne_88 rfl (lv_at hl 3 rfl) ?_
      refine lv_aload_n hx hb dX9_readOne_89 rfl (lv_at hl 4 rfl) ?_
      refine lv_iload_n hx hb dX9_readOne_90 rfl (lv_at hl 5 rfl) ?_
      refine lv_iconst (v := nI 1) hx hb dX9_readOne_91 (by decide) ?_
      refine lv_iadd hx hb dX9_readOne_92 ?_
      refine r_ti (nI 9) (by decide) ?_
      refine r_call_i (wr := []) (va_runV (As := [.ref reader, .ref a, .int (nI 9)]) (rest := []) ⟨hx, hb, hml, hown, hts⟩ (c_f_snC9 l dC dI ky H.size adK adV se ccodes ccodeCount (cones + 1) ccodesF bt reader rtape rlength rmostBytes rplaceG_129 rkindG_130 rbeginG_131 rwordG_132 rnumberG_133 rlettersG_134 rfaultKind rfaultPlace rtapeF a wide high heat cools skinHeat today stirs steps lumps boats thickness lumpNames lumpCells boatNames boatCells loads spoons spoonsLeft depths lumpNamesF (tT bt rlength rmostBytes gp) gnu iv_cse_0 (lf_f_sn18_25 ccodeCount cones iv_cse_0 iv_cse_1 hcc c117) iv_rreader_0 p135 iv_rreader_2 p136 hTC iv_a_0 iv_a_1 iv_a_2 iv_a_3 iv_a_4 iv_a_5 p137 hNL (lf_f_sn18_26 ccodeCount cones iv_cse_0 iv_cse_1 hcc c117)) (cwV 3 hts gX9_readOne_X9_readCond rfl rfl rfl (by decide +kernel) ⟨(Nat.le_of_ble_eq_true rfl), (Nat.le_of_ble_eq_true rfl)⟩) (pre_UEV hE hS hA hK hP hD [0, 1, 4, 5, 2, 3] (by decide) rfl (va_recv hK hP (ci := 9) (q0 := 0) rfl rfl)) rfl rfl hl.1 rfl (lv_room (Nat.le_of_ble_eq_true rfl)) dX9_readOne_93 ⟨(Nat.le_of_ble_eq_true rfl), (Nat.le_of_ble_eq_true rfl)⟩) hP hD hS hA [0, 1, 4, 5, 2, 3] [] rfl rfl (by decide) (by decide) (fun r141 u139 H locs p140 hP hD hS => ?_)
      obtain ⟨rfaultKindG_142, rfaultPlaceG_143⟩ := u139
      try dsimp only at p140
      obtain ⟨p144, p145, p146, p147⟩ := p140
      refine W.widen (k := 0) (n := 0) (Nat.le_of_ble_eq_true rfl) (Nat.le_of_ble_eq_true rfl) ?_
      have hP : va_P (dC, dI) vwCl [(se, .inr (9, [.ref ccodes, .int (nI ccodeCount), .int (nI (cones + 1))])), (ccodes, .inl (ky 0, 40, .inl ccodesF)), (reader, .inr (5, [.ref rtape, .int (nI rlength), .int (nI rmostBytes), .int (nI rplaceG_129), .int rkindG_130, .int (nI rbeginG_131), .int rwordG_132, .int rnumberG_133, .long rlettersG_134, .int rfaultKindG_142, .int rfaultPlaceG_143])), (rtape, .inl (ky 2, 940, .inl rtapeF)), (a, .inr (7, [.int (nI wide), .int (nI high), .int heat, .int cools, .int skinHeat, .int today, .int stirs, .int steps, .int (nI lumps), .int (nI boats), .ref thickness, .ref lumpNames, .ref lumpCells, .ref boatNames, .ref boatCells, .ref loads, .ref spoons, .ref spoonsLeft, .ref depths])), (lumpNames, .inl (ky 1, 6, .inr (.inl lumpNamesF)))] H := hP
      have hD : va_D A [(se, .inr (9, [.ref ccodes, .int (nI ccodeCount), .int (nI (cones + 1))])), (ccodes, .inl (ky 0, 40, .inl ccodesF)), (reader, .inr (5, [.ref rtape, .int (nI rlength), .int (nI rmostBytes), .int (nI rplaceG_129), .int rkindG_130, .int (nI rbeginG_131), .int rwordG_132, .int rnumberG_133, .long rlettersG_134, .int rfaultKindG_142, .int rfaultPlaceG_143])), (rtape, .inl (ky 2, 940, .inl rtapeF)), (a, .inr (7, [.int (nI wide), .int (nI high), .int heat, .int cools, .int skinHeat, .int today, .int stirs, .int steps, .int (nI lumps), .int (nI boats), .ref thickness, .ref lumpNames, .ref lumpCells, .ref boatNames, .ref boatCells, .ref loads, .ref spoons, .ref spoonsLeft, .ref depths])), (lumpNames, .inl (ky 1, 6, .inr (.inl lumpNamesF)))] := hD
      subst p144
      refine lv_if_eq (tgt := 112) hx hb dX9_readOne_96 (by decide) (fun c148 => ?_) (fun c148 => absurd (by decide) c148)
      refine lv_iconst (v := nI 0) hx hb dX9_readOne_112 (by decide) ?_
      rw [hQ]
      exact W.zret (v := nI 0) hx hb hr (by decide) (fun t9 ht9 hW9 => ⟨⟨nI 0, (ccodeCount, cones + 1, ccodesF, rplaceG_129, rkindG_130, rbeginG_131, rwordG_132, rnumberG_133, rlettersG_134, rfaultKindG_142, rfaultPlaceG_143), rfl, ⟨(lf_f_sn18_27 ccodeCount cones bt rlength rmostBytes rplace rkind rbegin rword rnumber rletters rfaultKind rfaultPlace rtapeF lumps lumpNamesF gp gnu r1 rplaceG_129 rkindG_130 rbeginG_131 rwordG_132 rnumberG_133 rlettersG_134 rfaultKindG_142 rfaultPlaceG_143 iv_cse_0 iv_cse_1 iv_rreader_0 iv_rreader_1 iv_rreader_2 iv_rreader_3 hTC iv_a_4 hRT hNL hcc p2 c3 c117 p135 p136 p137 p145 p146 p147), iv_cse_0, (lf_f_sn18_28 ccodeCount cones bt rlength rmostBytes rplace rkind rbegin rword rnumber rletters rtapeF lumps lumpNamesF gp gnu r1 rplaceG_129 rkindG_130 rbeginG_131 rwordG_132 rnumberG_133 rlettersG_134 rfaultKindG_142 rfaultPlaceG_143 iv_cse_0 iv_cse_1 iv_rreader_0 iv_rreader_1 iv_rreader_2 iv_rreader_3 hTC iv_a_4 hRT hNL hcc p2 c3 c117 p135 p136 p137 p145 p146 p147), p135, p136⟩, by rw [ht9]; exact hP, va_K.moved hW9.alike hK, hD⟩, hS.F ht9⟩) hS.2.2 dX9_readOne_113
set_option maxRecDepth 20000 in
theorem lf_f_snA8_1 (ccodeCount : Nat) (cones : Nat) (bt : Nat → Nat) (rlength : Nat) (rmostBytes : Nat) (rplace : Nat) (rkind : Int32) (rbegin : Nat) (rword : Int32) (rnumber : Int32) (rletters : Int64) (rfaultKind : Int32) (rfaultPlace : Int32) (rtapeF : Nat → Int32) (lumps : Nat) (lumpNamesF : Nat → Int64) (gp : Nat) (gnu : Nat → Nat) (ccodeCountG_4 : Nat) (conesG_5 : Nat) (rplaceG_7 : Nat) (rkindG_8 : Int32) (rbeginG_9 : Nat) (rwordG_10 : Int32) (rnumberG_11 : Int32) (rlettersG_12 : Int64) (rfaultKindG_13 : Int32) (rfaultPlaceG_14 : Int32) (k69 : Nat) (k70 : Nat) (k71 : Nat) (k73 : Nat) (x74 : Int32) (k75 : Nat) (x76 : Int32) (x77 : Int32) (w78 : Int64) (x79 : Int32) (x80 : Int32) (z68 : Nat) (n88 : Nat) (iv_cse_0 : ccodeCount ≤ 40) (iv_cse_1 : cones ≤ 20) (iv_rreader_0 : rlength ≤ 940) (iv_rreader_1 : rplace ≤ rlength) (iv_rreader_2 : rmostBytes ≤ 900) (iv_rreader_3 : rbegin ≤ 940) (hTC : TC bt rtapeF) (iv_a_4 : lumps ≤ 6) (hRT : RT bt rlength rmostBytes gp rkind rbegin rplace rword rnumber rletters) (hNL : NL gnu 0 lumps lumpNamesF) (hcc : ccodeCount ≤ 2 * cones) (p16 : ccodeCountG_4 ≤ 40) (p17 : conesG_5 ≤ 20) (p18 : rplaceG_7 ≤ rlength) (p19 : rbeginG_9 ≤ 940) (t20 : isO (sOne bt rlength rmostBytes gnu lumps 1 gp cones) = true) (t21 : RT bt rlength rmostBytes (srP (sOne bt rlength rmostBytes gnu lumps 1 gp cones)) rkindG_8 rbeginG_9 rplaceG_7 rwordG_10 rnumberG_11 rlettersG_12) (t22 : conesG_5 = srO (sOne bt rlength rmostBytes gnu lumps 1 gp cones)) (t23 : ccodeCountG_4 + 1 + 2 * cones ≤ ccodeCount + 2 * conesG_5) (t24 : cones < conesG_5) (t25 : rfaultKindG_13 = rfaultKind) (t26 : rfaultPlaceG_14 = rfaultPlace) (j81 : k69 ≤ 20) (j82 : k70 ≤ 40) (j83 : k71 ≤ 20) (j84 : k73 ≤ 940) (j85 : k75 ≤ 940) (j86 : k73 ≤ rlength) (jRT : RT bt rlength rmostBytes z68 x74 k75 k73 x76 x77 w78) (jX : sAnd bt rlength rmostBytes gnu lumps 1 gp cones = sLoop bt rlength rmostBytes 21 (sOne bt rlength rmostBytes gnu lumps 1) 30 z68 k71) (jI : k69 + cones + 1 ≤ k71) (jC : k70 + 1 + 2 * cones ≤ ccodeCount + 2 * k71) (jFk : x79 = rfaultKind) (jFp : x80 = rfaultPlace) (hm90 : 20 - k69 < n88 + 1) (c91 : 20 ≤ k69) : ((nI 1) = nI 1 ∧ (isO (sAnd bt rlength rmostBytes gnu lumps 1 gp cones) = true ∧ RT bt rlength rmostBytes (srP (sAnd bt rlength rmostBytes gnu lumps 1 gp cones)) x74 k75 k73 x76 x77 w78 ∧ k71 = srO (sAnd bt rlength rmostBytes gnu lumps 1 gp cones) ∧ k70 + 1 + 2 * cones ≤ ccodeCount + 2 * k71 ∧ cones < k71 ∧ x79 = rfaultKind ∧ x80 = rfaultPlace)) ∨ ((nI 1) = nI 0 ∧ (isO (sAnd bt rlength rmostBytes gnu lumps 1 gp cones) = false ∧ x79 = nI (erA (sAnd bt rlength rmostBytes gnu lumps 1 gp cones)) ∧ x80 = nI (erB (sAnd bt rlength rmostBytes gnu lumps 1 gp cones)))) := by
  have w9 : ¬ tW bt rlength rmostBytes z68 = 21 := fun h9 => absurd ((RT_w jRT (by decide)).mpr h9) (by
    have kk21 := ia_n 21 (by decide)
    have b_rkind := ia_b rkind
    have b_rword := ia_b rword
    have b_rnumber := ia_b rnumber
    have b_rfaultKind := ia_b rfaultKind
    have b_rfaultPlace := ia_b rfaultPlace
    have b_rkindG_8 := ia_b rkindG_8
    have b_rwordG_10 := ia_b rwordG_10
    have b_rnumberG_11 := ia_b rnumberG_11
    have b_rfaultKindG_13 := ia_b rfaultKindG_13
    have b_rfaultPlaceG_14 := ia_b rfaultPlaceG_14
    have b_x74 := ia_b x74
    have b_x76 := ia_b x76
    have b_x77 := ia_b x77
    have b_x79 := ia_b x79
    have b_x80 := ia_b x80
    have b_rletters := Int64.toInt_lt rletters
    have b_rlettersG_12 := Int64.toInt_lt rlettersG_12
    have b_w78 := Int64.toInt_lt w78
    try have k_0 := ia_n 1 (by first | decide | omega)
    try have k_1 := ia_n 0 (by first | decide | omega)
    try have k_2 := ia_n (erA (sAnd bt rlength rmostBytes gnu lumps 1 gp cones)) (by first | decide | omega)
    try have k_3 := ia_n (erB (sAnd bt rlength rmostBytes gnu lumps 1 gp cones)) (by first | decide | omega)
    try simp only [ia_lt, ia_le, ia_eq, ia_m1, ia_0, ia_1, ne_eq, true_and, and_true, false_and, and_false, or_false, false_or, or_true, true_or, not_true_eq_false, not_false_eq_true] at *
    all_goals omega)
  rw [jX, sL_no w9]
  exact Or.inl ⟨rfl, rfl, jRT, rfl, by omega, by omega, (by first | rfl | assumption | (subst_vars; rfl) | (subst_vars; assumption)), (by first | rfl | assumption | (subst_vars; rfl) | (subst_vars; assumption))⟩
set_option maxRecDepth 20000 in
theorem lf_f_snA8_2 (ccodeCount : Nat) (cones : Nat) (bt : Nat → Nat) (rlength : Nat) (rmostBytes : Nat) (rplace : Nat) (rkind : Int32) (rbegin : Nat) (rword : Int32) (rnumber : Int32) (rletters : Int64) (rfaultKind : Int32) (rfaultPlace : Int32) (rtapeF : Nat → Int32) (lumps : Nat) (lumpNamesF : Nat → Int64) (gp : Nat) (gnu : Nat → Nat) (ccodeCountG_4 : Nat) (conesG_5 : Nat) (rplaceG_7 : Nat) (rkindG_8 : Int32) (rbeginG_9 : Nat) (rwordG_10 : Int32) (rnumberG_11 : Int32) (rlettersG_12 : Int64) (rfaultKindG_13 : Int32) (rfaultPlaceG_14 : Int32) (k69 : Nat) (k70 : Nat) (k71 : Nat) (k73 : Nat) (x74 : Int32) (k75 : Nat) (x76 : Int32) (x77 : Int32) (w78 : Int64) (x79 : Int32) (x80 : Int32) (z68 : Nat) (n88 : Nat) (r93 : Int32) (iv_cse_0 : ccodeCount ≤ 40) (iv_cse_1 : cones ≤ 20) (iv_rreader_0 : rlength ≤ 940) (iv_rreader_1 : rplace ≤ rlength) (iv_rreader_2 : rmostBytes ≤ 900) (iv_rreader_3 : rbegin ≤ 940) (hTC : TC bt rtapeF) (iv_a_4 : lumps ≤ 6) (hRT : RT bt rlength rmostBytes gp rkind rbegin rplace rword rnumber rletters) (hNL : NL gnu 0 lumps lumpNamesF) (hcc : ccodeCount ≤ 2 * cones) (p16 : ccodeCountG_4 ≤ 40) (p17 : conesG_5 ≤ 20) (p18 : rplaceG_7 ≤ rlength) (p19 : rbeginG_9 ≤ 940) (t20 : isO (sOne bt rlength rmostBytes gnu lumps 1 gp cones) = true) (t21 : RT bt rlength rmostBytes (srP (sOne bt rlength rmostBytes gnu lumps 1 gp cones)) rkindG_8 rbeginG_9 rplaceG_7 rwordG_10 rnumberG_11 rlettersG_12) (t22 : conesG_5 = srO (sOne bt rlength rmostBytes gnu lumps 1 gp cones)) (t23 : ccodeCountG_4 + 1 + 2 * cones ≤ ccodeCount + 2 * conesG_5) (t24 : cones < conesG_5) (t25 : rfaultKindG_13 = rfaultKind) (t26 : rfaultPlaceG_14 = rfaultPlace) (j81 : k69 ≤ 20) (j82 : k70 ≤ 40) (j83 : k71 ≤ 20) (j84 : k73 ≤ 940) (j85 : k75 ≤ 940) (j86 : k73 ≤ rlength) (jRT : RT bt rlength rmostBytes z68 x74 k75 k73 x76 x77 w78) (jX : sAnd bt rlength rmostBytes gnu lumps 1 gp cones = sLoop bt rlength rmostBytes 21 (sOne bt rlength rmostBytes gnu lumps 1) 30 z68 k71) (jI : k69 + cones + 1 ≤ k71) (jC : k70 + 1 + 2 * cones ≤ ccodeCount + 2 * k71) (jFk : x79 = rfaultKind) (jFp : x80 = rfaultPlace) (hm90 : 20 - k69 < n88 + 1) (c91 : k69 < 20) (p94 : r93 = x76) (c95 : r93 ≠ nI 21) : ((nI 1) = nI 1 ∧ (isO (sAnd bt rlength rmostBytes gnu lumps 1 gp cones) = true ∧ RT bt rlength rmostBytes (srP (sAnd bt rlength rmostBytes gnu lumps 1 gp cones)) x74 k75 k73 x76 x77 w78 ∧ k71 = srO (sAnd bt rlength rmostBytes gnu lumps 1 gp cones) ∧ k70 + 1 + 2 * cones ≤ ccodeCount + 2 * k71 ∧ cones < k71 ∧ x79 = rfaultKind ∧ x80 = rfaultPlace)) ∨ ((nI 1) = nI 0 ∧ (isO (sAnd bt rlength rmostBytes gnu lumps 1 gp cones) = false ∧ x79 = nI (erA (sAnd bt rlength rmostBytes gnu lumps 1 gp cones)) ∧ x80 = nI (erB (sAnd bt rlength rmostBytes gnu lumps 1 gp cones)))) := by
  have w9 : ¬ tW bt rlength rmostBytes z68 = 21 := fun h9 => absurd ((RT_w jRT (by decide)).mpr h9) (by
    have kk21 := ia_n 21 (by decide)
    have b_rkind := ia_b rkind
    have b_rword := ia_b rword
    have b_rnumber := ia_b rnumber
    have b_rfaultKind := ia_b rfaultKind
    have b_rfaultPlace := ia_b rfaultPlace
    have b_rkindG_8 := ia_b rkindG_8
    have b_rwordG_10 := ia_b rwordG_10
    have b_rnumberG_11 := ia_b rnumberG_11
    have b_rfaultKindG_13 := ia_b rfaultKindG_13
    have b_rfaultPlaceG_14 := ia_b rfaultPlaceG_14
    have b_x74 := ia_b x74
    have b_x76 := ia_b x76
    have b_x77 := ia_b x77
    have b_x79 := ia_b x79
    have b_x80 := ia_b x80
    have b_r93 := ia_b r93
    have b_rletters := Int64.toInt_lt rletters
    have b_rlettersG_12 := Int64.toInt_lt rlettersG_12
    have b_w78 := Int64.toInt_lt w78
    try have k_0 := ia_n 21 (by first | decide | omega)
    try have k_1 := ia_n 1 (by first | decide | omega)
    try have k_2 := ia_n 0 (by first | decide | omega)
    try have k_3 := ia_n (erA (sAnd bt rlength rmostBytes gnu lumps 1 gp cones)) (by first | decide | omega)
    try have k_4 := ia_n (erB (sAnd bt rlength rmostBytes gnu lumps 1 gp cones)) (by first | decide | omega)
    try simp only [ia_lt, ia_le, ia_eq, ia_m1, ia_0, ia_1, ne_eq, true_and, and_true, false_and, and_false, or_false, false_or, or_true, true_or, not_true_eq_false, not_false_eq_true] at *
    all_goals omega)
  rw [jX, sL_no w9]
  exact Or.inl ⟨rfl, rfl, jRT, rfl, by omega, by omega, (by first | rfl | assumption | (subst_vars; rfl) | (subst_vars; assumption)), (by first | rfl | assumption | (subst_vars; rfl) | (subst_vars; assumption))⟩
set_option maxRecDepth 20000 in
theorem lf_f_snA8_3 (ccodeCount : Nat) (cones : Nat) (bt : Nat → Nat) (rlength : Nat) (rmostBytes : Nat) (rplace : Nat) (rkind : Int32) (rbegin : Nat) (rword : Int32) (rnumber : Int32) (rletters : Int64) (rtapeF : Nat → Int32) (lumps : Nat) (lumpNamesF : Nat → Int64) (gp : Nat) (gnu : Nat → Nat) (ccodeCountG_4 : Nat) (conesG_5 : Nat) (rplaceG_7 : Nat) (rkindG_8 : Int32) (rbeginG_9 : Nat) (rwordG_10 : Int32) (rnumberG_11 : Int32) (rlettersG_12 : Int64) (k69 : Nat) (k70 : Nat) (k71 : Nat) (k73 : Nat) (x74 : Int32) (k75 : Nat) (x76 : Int32) (x77 : Int32) (w78 : Int64) (z68 : Nat) (n88 : Nat) (r93 : Int32) (rplaceG_98 : Nat) (rkindG_99 : Int32) (rbeginG_100 : Nat) (rwordG_101 : Int32) (rnumberG_102 : Int32) (rlettersG_103 : Int64) (iv_cse_0 : ccodeCount ≤ 40) (iv_cse_1 : cones ≤ 20) (iv_rreader_0 : rlength ≤ 940) (iv_rreader_1 : rplace ≤ rlength) (iv_rreader_2 : rmostBytes ≤ 900) (iv_rreader_3 : rbegin ≤ 940) (hTC : TC bt rtapeF) (iv_a_4 : lumps ≤ 6) (hRT : RT bt rlength rmostBytes gp rkind rbegin rplace rword rnumber rletters) (hNL : NL gnu 0 lumps lumpNamesF) (hcc : ccodeCount ≤ 2 * cones) (p16 : ccodeCountG_4 ≤ 40) (p17 : conesG_5 ≤ 20) (p18 : rplaceG_7 ≤ rlength) (p19 : rbeginG_9 ≤ 940) (t20 : isO (sOne bt rlength rmostBytes gnu lumps 1 gp cones) = true) (t21 : RT bt rlength rmostBytes (srP (sOne bt rlength rmostBytes gnu lumps 1 gp cones)) rkindG_8 rbeginG_9 rplaceG_7 rwordG_10 rnumberG_11 rlettersG_12) (t22 : conesG_5 = srO (sOne bt rlength rmostBytes gnu lumps 1 gp cones)) (t23 : ccodeCountG_4 + 1 + 2 * cones ≤ ccodeCount + 2 * conesG_5) (t24 : cones < conesG_5) (j81 : k69 ≤ 20) (j82 : k70 ≤ 40) (j83 : k71 ≤ 20) (j84 : k73 ≤ 940) (j85 : k75 ≤ 940) (j86 : k73 ≤ rlength) (jRT : RT bt rlength rmostBytes z68 x74 k75 k73 x76 x77 w78) (jX : sAnd bt rlength rmostBytes gnu lumps 1 gp cones = sLoop bt rlength rmostBytes 21 (sOne bt rlength rmostBytes gnu lumps 1) 30 z68 k71) (jI : k69 + cones + 1 ≤ k71) (jC : k70 + 1 + 2 * cones ≤ ccodeCount + 2 * k71) (hm90 : 20 - k69 < n88 + 1) (c91 : k69 < 20) (p94 : r93 = x76) (c95 : r93 = nI 21) (p104 : rplaceG_98 ≤ rlength) (p105 : rbeginG_100 ≤ 940) (p106 : RT bt rlength rmostBytes (tT bt rlength rmostBytes z68) rkindG_99 rbeginG_100 rplaceG_98 rwordG_101 rnumberG_102 rlettersG_103) : k70 ≤ 2 * k71 := by
  have b_rkind := ia_b rkind
  have b_rword := ia_b rword
  have b_rnumber := ia_b rnumber
  have b_rkindG_8 := ia_b rkindG_8
  have b_rwordG_10 := ia_b rwordG_10
  have b_rnumberG_11 := ia_b rnumberG_11
  have b_x74 := ia_b x74
  have b_x76 := ia_b x76
  have b_x77 := ia_b x77
  have b_r93 := ia_b r93
  have b_rkindG_99 := ia_b rkindG_99
  have b_rwordG_101 := ia_b rwordG_101
  have b_rnumberG_102 := ia_b rnumberG_102
  have b_rletters := Int64.toInt_lt rletters
  have b_rlettersG_12 := Int64.toInt_lt rlettersG_12
  have b_w78 := Int64.toInt_lt w78
  have b_rlettersG_103 := Int64.toInt_lt rlettersG_103
  try have k_0 := ia_n 21 (by first | decide | omega)
  try simp only [ia_lt, ia_le, ia_eq, ia_m1, ia_0, ia_1, ne_eq, true_and, and_true, false_and, and_false, or_false, false_or, or_true, true_or, not_true_eq_false, not_false_eq_true] at *
  all_goals omega
set_option maxRecDepth 20000 in
theorem lf_f_snA8_4 (ccodeCount : Nat) (cones : Nat) (bt : Nat → Nat) (rlength : Nat) (rmostBytes : Nat) (rplace : Nat) (rkind : Int32) (rbegin : Nat) (rword : Int32) (rnumber : Int32) (rletters : Int64) (rtapeF : Nat → Int32) (lumps : Nat) (lumpNamesF : Nat → Int64) (gp : Nat) (gnu : Nat → Nat) (ccodeCountG_4 : Nat) (conesG_5 : Nat) (rplaceG_7 : Nat) (rkindG_8 : Int32) (rbeginG_9 : Nat) (rwordG_10 : Int32) (rnumberG_11 : Int32) (rlettersG_12 : Int64) (k69 : Nat) (k70 : Nat) (k71 : Nat) (k73 : Nat) (x74 : Int32) (k75 : Nat) (x76 : Int32) (x77 : Int32) (w78 : Int64) (z68 : Nat) (n88 : Nat) (r93 : Int32) (rplaceG_98 : Nat) (rkindG_99 : Int32) (rbeginG_100 : Nat) (rwordG_101 : Int32) (rnumberG_102 : Int32) (rlettersG_103 : Int64) (ccodeCountG_110 : Nat) (conesG_111 : Nat) (rplaceG_113 : Nat) (rkindG_114 : Int32) (rbeginG_115 : Nat) (rwordG_116 : Int32) (rnumberG_117 : Int32) (rlettersG_118 : Int64) (iv_cse_0 : ccodeCount ≤ 40) (iv_cse_1 : cones ≤ 20) (iv_rreader_0 : rlength ≤ 940) (iv_rreader_1 : rplace ≤ rlength) (iv_rreader_2 : rmostBytes ≤ 900) (iv_rreader_3 : rbegin ≤ 940) (hTC : TC bt rtapeF) (iv_a_4 : lumps ≤ 6) (hRT : RT bt rlength rmostBytes gp rkind rbegin rplace rword rnumber rletters) (hNL : NL gnu 0 lumps lumpNamesF) (hcc : ccodeCount ≤ 2 * cones) (p16 : ccodeCountG_4 ≤ 40) (p17 : conesG_5 ≤ 20) (p18 : rplaceG_7 ≤ rlength) (p19 : rbeginG_9 ≤ 940) (t20 : isO (sOne bt rlength rmostBytes gnu lumps 1 gp cones) = true) (t21 : RT bt rlength rmostBytes (srP (sOne bt rlength rmostBytes gnu lumps 1 gp cones)) rkindG_8 rbeginG_9 rplaceG_7 rwordG_10 rnumberG_11 rlettersG_12) (t22 : conesG_5 = srO (sOne bt rlength rmostBytes gnu lumps 1 gp cones)) (t23 : ccodeCountG_4 + 1 + 2 * cones ≤ ccodeCount + 2 * conesG_5) (t24 : cones < conesG_5) (j81 : k69 ≤ 20) (j82 : k70 ≤ 40) (j83 : k71 ≤ 20) (j84 : k73 ≤ 940) (j85 : k75 ≤ 940) (j86 : k73 ≤ rlength) (jRT : RT bt rlength rmostBytes z68 x74 k75 k73 x76 x77 w78) (jX : sAnd bt rlength rmostBytes gnu lumps 1 gp cones = sLoop bt rlength rmostBytes 21 (sOne bt rlength rmostBytes gnu lumps 1) 30 z68 k71) (jI : k69 + cones + 1 ≤ k71) (jC : k70 + 1 + 2 * cones ≤ ccodeCount + 2 * k71) (hm90 : 20 - k69 < n88 + 1) (c91 : k69 < 20) (p94 : r93 = x76) (c95 : r93 = nI 21) (p104 : rplaceG_98 ≤ rlength) (p105 : rbeginG_100 ≤ 940) (p106 : RT bt rlength rmostBytes (tT bt rlength rmostBytes z68) rkindG_99 rbeginG_100 rplaceG_98 rwordG_101 rnumberG_102 rlettersG_103) (p122 : ccodeCountG_110 ≤ 40) (p123 : conesG_111 ≤ 20) (p124 : rplaceG_113 ≤ rlength) (p125 : rbeginG_115 ≤ 940) (t126 : isO (sOne bt rlength rmostBytes gnu lumps 1 (tT bt rlength rmostBytes z68) k71) = true) (t127 : RT bt rlength rmostBytes (srP (sOne bt rlength rmostBytes gnu lumps 1 (tT bt rlength rmostBytes z68) k71)) rkindG_114 rbeginG_115 rplaceG_113 rwordG_116 rnumberG_117 rlettersG_118) (t128 : conesG_111 = srO (sOne bt rlength rmostBytes gnu lumps 1 (tT bt rlength rmostBytes z68) k71)) (t129 : ccodeCountG_110 + 1 + 2 * k71 ≤ k70 + 2 * conesG_111) (t130 : k71 < conesG_111) : ccodeCountG_110 < 40 := by
  have b_rkind := ia_b rkind
  have b_rword := ia_b rword
  have b_rnumber := ia_b rnumber
  have b_rkindG_8 := ia_b rkindG_8
  have b_rwordG_10 := ia_b rwordG_10
  have b_rnumberG_11 := ia_b rnumberG_11
  have b_x74 := ia_b x74
  have b_x76 := ia_b x76
  have b_x77 := ia_b x77
  have b_r93 := ia_b r93
  have b_rkindG_99 := ia_b rkindG_99
  have b_rwordG_101 := ia_b rwordG_101
  have b_rnumberG_102 := ia_b rnumberG_102
  have b_rkindG_114 := ia_b rkindG_114
  have b_rwordG_116 := ia_b rwordG_116
  have b_rnumberG_117 := ia_b rnumberG_117
  have b_rletters := Int64.toInt_lt rletters
  have b_rlettersG_12 := Int64.toInt_lt rlettersG_12
  have b_w78 := Int64.toInt_lt w78
  have b_rlettersG_103 := Int64.toInt_lt rlettersG_103
  have b_rlettersG_118 := Int64.toInt_lt rlettersG_118
  try have k_0 := ia_n 21 (by first | decide | omega)
  try simp only [ia_lt, ia_le, ia_eq, ia_m1, ia_0, ia_1, ne_eq, true_and, and_true, false_and, and_false, or_false, false_or, or_true, true_or, not_true_eq_false, not_false_eq_true] at *
  all_goals omega
set_option maxRecDepth 20000 in
theorem lf_f_snA8_5 (ccodeCount : Nat) (cones : Nat) (bt : Nat → Nat) (rlength : Nat) (rmostBytes : Nat) (rplace : Nat) (rkind : Int32) (rbegin : Nat) (rword : Int32) (rnumber : Int32) (rletters : Int64) (rtapeF : Nat → Int32) (lumps : Nat) (lumpNamesF : Nat → Int64) (gp : Nat) (gnu : Nat → Nat) (ccodeCountG_4 : Nat) (conesG_5 : Nat) (rplaceG_7 : Nat) (rkindG_8 : Int32) (rbeginG_9 : Nat) (rwordG_10 : Int32) (rnumberG_11 : Int32) (rlettersG_12 : Int64) (k69 : Nat) (k70 : Nat) (k71 : Nat) (k73 : Nat) (x74 : Int32) (k75 : Nat) (x76 : Int32) (x77 : Int32) (w78 : Int64) (z68 : Nat) (n88 : Nat) (r93 : Int32) (rplaceG_98 : Nat) (rkindG_99 : Int32) (rbeginG_100 : Nat) (rwordG_101 : Int32) (rnumberG_102 : Int32) (rlettersG_103 : Int64) (ccodeCountG_110 : Nat) (conesG_111 : Nat) (rplaceG_113 : Nat) (rkindG_114 : Int32) (rbeginG_115 : Nat) (rwordG_116 : Int32) (rnumberG_117 : Int32) (rlettersG_118 : Int64) (ccodeCountG_140 : Nat) (iv_cse_0 : ccodeCount ≤ 40) (iv_cse_1 : cones ≤ 20) (iv_rreader_0 : rlength ≤ 940) (iv_rreader_1 : rplace ≤ rlength) (iv_rreader_2 : rmostBytes ≤ 900) (iv_rreader_3 : rbegin ≤ 940) (hTC : TC bt rtapeF) (iv_a_4 : lumps ≤ 6) (hRT : RT bt rlength rmostBytes gp rkind rbegin rplace rword rnumber rletters) (hNL : NL gnu 0 lumps lumpNamesF) (hcc : ccodeCount ≤ 2 * cones) (p16 : ccodeCountG_4 ≤ 40) (p17 : conesG_5 ≤ 20) (p18 : rplaceG_7 ≤ rlength) (p19 : rbeginG_9 ≤ 940) (t20 : isO (sOne bt rlength rmostBytes gnu lumps 1 gp cones) = true) (t21 : RT bt rlength rmostBytes (srP (sOne bt rlength rmostBytes gnu lumps 1 gp cones)) rkindG_8 rbeginG_9 rplaceG_7 rwordG_10 rnumberG_11 rlettersG_12) (t22 : conesG_5 = srO (sOne bt rlength rmostBytes gnu lumps 1 gp cones)) (t23 : ccodeCountG_4 + 1 + 2 * cones ≤ ccodeCount + 2 * conesG_5) (t24 : cones < conesG_5) (j81 : k69 ≤ 20) (j82 : k70 ≤ 40) (j83 : k71 ≤ 20) (j84 : k73 ≤ 940) (j85 : k75 ≤ 940) (j86 : k73 ≤ rlength) (jRT : RT bt rlength rmostBytes z68 x74 k75 k73 x76 x77 w78) (jX : sAnd bt rlength rmostBytes gnu lumps 1 gp cones = sLoop bt rlength rmostBytes 21 (sOne bt rlength rmostBytes gnu lumps 1) 30 z68 k71) (jI : k69 + cones + 1 ≤ k71) (jC : k70 + 1 + 2 * cones ≤ ccodeCount + 2 * k71) (hm90 : 20 - k69 < n88 + 1) (c91 : k69 < 20) (p94 : r93 = x76) (c95 : r93 = nI 21) (p104 : rplaceG_98 ≤ rlength) (p105 : rbeginG_100 ≤ 940) (p106 : RT bt rlength rmostBytes (tT bt rlength rmostBytes z68) rkindG_99 rbeginG_100 rplaceG_98 rwordG_101 rnumberG_102 rlettersG_103) (p122 : ccodeCountG_110 ≤ 40) (p123 : conesG_111 ≤ 20) (p124 : rplaceG_113 ≤ rlength) (p125 : rbeginG_115 ≤ 940) (t126 : isO (sOne bt rlength rmostBytes gnu lumps 1 (tT bt rlength rmostBytes z68) k71) = true) (t127 : RT bt rlength rmostBytes (srP (sOne bt rlength rmostBytes gnu lumps 1 (tT bt rlength rmostBytes z68) k71)) rkindG_114 rbeginG_115 rplaceG_113 rwordG_116 rnumberG_117 rlettersG_118) (t128 : conesG_111 = srO (sOne bt rlength rmostBytes gnu lumps 1 (tT bt rlength rmostBytes z68) k71)) (t129 : ccodeCountG_110 + 1 + 2 * k71 ≤ k70 + 2 * conesG_111) (t130 : k71 < conesG_111) (p143 : ccodeCountG_140 ≤ 40) (p144 : ccodeCountG_140 = ccodeCountG_110 + 1) : (k69 + 1) ≤ 20 := by
  have b_rkind := ia_b rkind
  have b_rword := ia_b rword
  have b_rnumber := ia_b rnumber
  have b_rkindG_8 := ia_b rkindG_8
  have b_rwordG_10 := ia_b rwordG_10
  have b_rnumberG_11 := ia_b rnumberG_11
  have b_x74 := ia_b x74
  have b_x76 := ia_b x76
  have b_x77 := ia_b x77
  have b_r93 := ia_b r93
  have b_rkindG_99 := ia_b rkindG_99
  have b_rwordG_101 := ia_b rwordG_101
  have b_rnumberG_102 := ia_b rnumberG_102
  have b_rkindG_114 := ia_b rkindG_114
  have b_rwordG_116 := ia_b rwordG_116
  have b_rnumberG_117 := ia_b rnumberG_117
  have b_rletters := Int64.toInt_lt rletters
  have b_rlettersG_12 := Int64.toInt_lt rlettersG_12
  have b_w78 := Int64.toInt_lt w78
  have b_rlettersG_103 := Int64.toInt_lt rlettersG_103
  have b_rlettersG_118 := Int64.toInt_lt rlettersG_118
  try have k_0 := ia_n 21 (by first | decide | omega)
  try simp only [ia_lt, ia_le, ia_eq, ia_m1, ia_0, ia_1, ne_eq, true_and, and_true, false_and, and_false, or_false, false_or, or_true, true_or, not_true_eq_false, not_false_eq_true] at *
  all_goals omega
set_option maxRecDepth 20000 in
theorem lf_f_snA8_6 (ccodeCount : Nat) (cones : Nat) (bt : Nat → Nat) (rlength : Nat) (rmostBytes : Nat) (rplace : Nat) (rkind : Int32) (rbegin : Nat) (rword : Int32) (rnumber : Int32) (rletters : Int64) (rtapeF : Nat → Int32) (lumps : Nat) (lumpNamesF : Nat → Int64) (gp : Nat) (gnu : Nat → Nat) (ccodeCountG_4 : Nat) (conesG_5 : Nat) (rplaceG_7 : Nat) (rkindG_8 : Int32) (rbeginG_9 : Nat) (rwordG_10 : Int32) (rnumberG_11 : Int32) (rlettersG_12 : Int64) (k69 : Nat) (k70 : Nat) (k71 : Nat) (k73 : Nat) (x74 : Int32) (k75 : Nat) (x76 : Int32) (x77 : Int32) (w78 : Int64) (z68 : Nat) (n88 : Nat) (r93 : Int32) (rplaceG_98 : Nat) (rkindG_99 : Int32) (rbeginG_100 : Nat) (rwordG_101 : Int32) (rnumberG_102 : Int32) (rlettersG_103 : Int64) (ccodeCountG_110 : Nat) (conesG_111 : Nat) (rplaceG_113 : Nat) (rkindG_114 : Int32) (rbeginG_115 : Nat) (rwordG_116 : Int32) (rnumberG_117 : Int32) (rlettersG_118 : Int64) (ccodeCountG_140 : Nat) (iv_cse_0 : ccodeCount ≤ 40) (iv_cse_1 : cones ≤ 20) (iv_rreader_0 : rlength ≤ 940) (iv_rreader_1 : rplace ≤ rlength) (iv_rreader_2 : rmostBytes ≤ 900) (iv_rreader_3 : rbegin ≤ 940) (hTC : TC bt rtapeF) (iv_a_4 : lumps ≤ 6) (hRT : RT bt rlength rmostBytes gp rkind rbegin rplace rword rnumber rletters) (hNL : NL gnu 0 lumps lumpNamesF) (hcc : ccodeCount ≤ 2 * cones) (p16 : ccodeCountG_4 ≤ 40) (p17 : conesG_5 ≤ 20) (p18 : rplaceG_7 ≤ rlength) (p19 : rbeginG_9 ≤ 940) (t20 : isO (sOne bt rlength rmostBytes gnu lumps 1 gp cones) = true) (t21 : RT bt rlength rmostBytes (srP (sOne bt rlength rmostBytes gnu lumps 1 gp cones)) rkindG_8 rbeginG_9 rplaceG_7 rwordG_10 rnumberG_11 rlettersG_12) (t22 : conesG_5 = srO (sOne bt rlength rmostBytes gnu lumps 1 gp cones)) (t23 : ccodeCountG_4 + 1 + 2 * cones ≤ ccodeCount + 2 * conesG_5) (t24 : cones < conesG_5) (j81 : k69 ≤ 20) (j82 : k70 ≤ 40) (j83 : k71 ≤ 20) (j84 : k73 ≤ 940) (j85 : k75 ≤ 940) (j86 : k73 ≤ rlength) (jRT : RT bt rlength rmostBytes z68 x74 k75 k73 x76 x77 w78) (jX : sAnd bt rlength rmostBytes gnu lumps 1 gp cones = sLoop bt rlength rmostBytes 21 (sOne bt rlength rmostBytes gnu lumps 1) 30 z68 k71) (jI : k69 + cones + 1 ≤ k71) (jC : k70 + 1 + 2 * cones ≤ ccodeCount + 2 * k71) (hm90 : 20 - k69 < n88 + 1) (c91 : k69 < 20) (p94 : r93 = x76) (c95 : r93 = nI 21) (p104 : rplaceG_98 ≤ rlength) (p105 : rbeginG_100 ≤ 940) (p106 : RT bt rlength rmostBytes (tT bt rlength rmostBytes z68) rkindG_99 rbeginG_100 rplaceG_98 rwordG_101 rnumberG_102 rlettersG_103) (p122 : ccodeCountG_110 ≤ 40) (p123 : conesG_111 ≤ 20) (p124 : rplaceG_113 ≤ rlength) (p125 : rbeginG_115 ≤ 940) (t126 : isO (sOne bt rlength rmostBytes gnu lumps 1 (tT bt rlength rmostBytes z68) k71) = true) (t127 : RT bt rlength rmostBytes (srP (sOne bt rlength rmostBytes gnu lumps 1 (tT bt rlength rmostBytes z68) k71)) rkindG_114 rbeginG_115 rplaceG_113 rwordG_116 rnumberG_117 rlettersG_118) (t128 : conesG_111 = srO (sOne bt rlength rmostBytes gnu lumps 1 (tT bt rlength rmostBytes z68) k71)) (t129 : ccodeCountG_110 + 1 + 2 * k71 ≤ k70 + 2 * conesG_111) (t130 : k71 < conesG_111) (p143 : ccodeCountG_140 ≤ 40) (p144 : ccodeCountG_140 = ccodeCountG_110 + 1) : rplaceG_113 ≤ 940 := by
  have b_rkind := ia_b rkind
  have b_rword := ia_b rword
  have b_rnumber := ia_b rnumber
  have b_rkindG_8 := ia_b rkindG_8
  have b_rwordG_10 := ia_b rwordG_10
  have b_rnumberG_11 := ia_b rnumberG_11
  have b_x74 := ia_b x74
  have b_x76 := ia_b x76
  have b_x77 := ia_b x77
  have b_r93 := ia_b r93
  have b_rkindG_99 := ia_b rkindG_99
  have b_rwordG_101 := ia_b rwordG_101
  have b_rnumberG_102 := ia_b rnumberG_102
  have b_rkindG_114 := ia_b rkindG_114
  have b_rwordG_116 := ia_b rwordG_116
  have b_rnumberG_117 := ia_b rnumberG_117
  have b_rletters := Int64.toInt_lt rletters
  have b_rlettersG_12 := Int64.toInt_lt rlettersG_12
  have b_w78 := Int64.toInt_lt w78
  have b_rlettersG_103 := Int64.toInt_lt rlettersG_103
  have b_rlettersG_118 := Int64.toInt_lt rlettersG_118
  try have k_0 := ia_n 21 (by first | decide | omega)
  try simp only [ia_lt, ia_le, ia_eq, ia_m1, ia_0, ia_1, ne_eq, true_and, and_true, false_and, and_false, or_false, false_or, or_true, true_or, not_true_eq_false, not_false_eq_true] at *
  all_goals omega
set_option maxRecDepth 20000 in
theorem lf_f_snA8_7 (ccodeCount : Nat) (cones : Nat) (bt : Nat → Nat) (rlength : Nat) (rmostBytes : Nat) (rplace : Nat) (rkind : Int32) (rbegin : Nat) (rword : Int32) (rnumber : Int32) (rletters : Int64) (rtapeF : Nat → Int32) (lumps : Nat) (lumpNamesF : Nat → Int64) (gp : Nat) (gnu : Nat → Nat) (ccodeCountG_4 : Nat) (conesG_5 : Nat) (rplaceG_7 : Nat) (rkindG_8 : Int32) (rbeginG_9 : Nat) (rwordG_10 : Int32) (rnumberG_11 : Int32) (rlettersG_12 : Int64) (k69 : Nat) (k70 : Nat) (k71 : Nat) (k73 : Nat) (x74 : Int32) (k75 : Nat) (x76 : Int32) (x77 : Int32) (w78 : Int64) (z68 : Nat) (n88 : Nat) (r93 : Int32) (rplaceG_98 : Nat) (rkindG_99 : Int32) (rbeginG_100 : Nat) (rwordG_101 : Int32) (rnumberG_102 : Int32) (rlettersG_103 : Int64) (ccodeCountG_110 : Nat) (conesG_111 : Nat) (rplaceG_113 : Nat) (rkindG_114 : Int32) (rbeginG_115 : Nat) (rwordG_116 : Int32) (rnumberG_117 : Int32) (rlettersG_118 : Int64) (ccodeCountG_140 : Nat) (iv_cse_0 : ccodeCount ≤ 40) (iv_cse_1 : cones ≤ 20) (iv_rreader_0 : rlength ≤ 940) (iv_rreader_1 : rplace ≤ rlength) (iv_rreader_2 : rmostBytes ≤ 900) (iv_rreader_3 : rbegin ≤ 940) (hTC : TC bt rtapeF) (iv_a_4 : lumps ≤ 6) (hRT : RT bt rlength rmostBytes gp rkind rbegin rplace rword rnumber rletters) (hNL : NL gnu 0 lumps lumpNamesF) (hcc : ccodeCount ≤ 2 * cones) (p16 : ccodeCountG_4 ≤ 40) (p17 : conesG_5 ≤ 20) (p18 : rplaceG_7 ≤ rlength) (p19 : rbeginG_9 ≤ 940) (t20 : isO (sOne bt rlength rmostBytes gnu lumps 1 gp cones) = true) (t21 : RT bt rlength rmostBytes (srP (sOne bt rlength rmostBytes gnu lumps 1 gp cones)) rkindG_8 rbeginG_9 rplaceG_7 rwordG_10 rnumberG_11 rlettersG_12) (t22 : conesG_5 = srO (sOne bt rlength rmostBytes gnu lumps 1 gp cones)) (t23 : ccodeCountG_4 + 1 + 2 * cones ≤ ccodeCount + 2 * conesG_5) (t24 : cones < conesG_5) (j81 : k69 ≤ 20) (j82 : k70 ≤ 40) (j83 : k71 ≤ 20) (j84 : k73 ≤ 940) (j85 : k75 ≤ 940) (j86 : k73 ≤ rlength) (jRT : RT bt rlength rmostBytes z68 x74 k75 k73 x76 x77 w78) (jX : sAnd bt rlength rmostBytes gnu lumps 1 gp cones = sLoop bt rlength rmostBytes 21 (sOne bt rlength rmostBytes gnu lumps 1) 30 z68 k71) (jI : k69 + cones + 1 ≤ k71) (jC : k70 + 1 + 2 * cones ≤ ccodeCount + 2 * k71) (hm90 : 20 - k69 < n88 + 1) (c91 : k69 < 20) (p94 : r93 = x76) (c95 : r93 = nI 21) (p104 : rplaceG_98 ≤ rlength) (p105 : rbeginG_100 ≤ 940) (p106 : RT bt rlength rmostBytes (tT bt rlength rmostBytes z68) rkindG_99 rbeginG_100 rplaceG_98 rwordG_101 rnumberG_102 rlettersG_103) (p122 : ccodeCountG_110 ≤ 40) (p123 : conesG_111 ≤ 20) (p124 : rplaceG_113 ≤ rlength) (p125 : rbeginG_115 ≤ 940) (t126 : isO (sOne bt rlength rmostBytes gnu lumps 1 (tT bt rlength rmostBytes z68) k71) = true) (t127 : RT bt rlength rmostBytes (srP (sOne bt rlength rmostBytes gnu lumps 1 (tT bt rlength rmostBytes z68) k71)) rkindG_114 rbeginG_115 rplaceG_113 rwordG_116 rnumberG_117 rlettersG_118) (t128 : conesG_111 = srO (sOne bt rlength rmostBytes gnu lumps 1 (tT bt rlength rmostBytes z68) k71)) (t129 : ccodeCountG_110 + 1 + 2 * k71 ≤ k70 + 2 * conesG_111) (t130 : k71 < conesG_111) (p143 : ccodeCountG_140 ≤ 40) (p144 : ccodeCountG_140 = ccodeCountG_110 + 1) : sAnd bt rlength rmostBytes gnu lumps 1 gp cones = sLoop bt rlength rmostBytes 21 (sOne bt rlength rmostBytes gnu lumps 1) 30 (srP (sOne bt rlength rmostBytes gnu lumps 1 (tT bt rlength rmostBytes z68) k71)) conesG_111 := by
  have w9 : tW bt rlength rmostBytes z68 = 21 := (RT_w jRT (by decide)).mp (by
    have kk21 := ia_n 21 (by decide)
    have b_rkind := ia_b rkind
    have b_rword := ia_b rword
    have b_rnumber := ia_b rnumber
    have b_rkindG_8 := ia_b rkindG_8
    have b_rwordG_10 := ia_b rwordG_10
    have b_rnumberG_11 := ia_b rnumberG_11
    have b_x74 := ia_b x74
    have b_x76 := ia_b x76
    have b_x77 := ia_b x77
    have b_r93 := ia_b r93
    have b_rkindG_99 := ia_b rkindG_99
    have b_rwordG_101 := ia_b rwordG_101
    have b_rnumberG_102 := ia_b rnumberG_102
    have b_rkindG_114 := ia_b rkindG_114
    have b_rwordG_116 := ia_b rwordG_116
    have b_rnumberG_117 := ia_b rnumberG_117
    have b_rletters := Int64.toInt_lt rletters
    have b_rlettersG_12 := Int64.toInt_lt rlettersG_12
    have b_w78 := Int64.toInt_lt w78
    have b_rlettersG_103 := Int64.toInt_lt rlettersG_103
    have b_rlettersG_118 := Int64.toInt_lt rlettersG_118
    try have k_0 := ia_n 21 (by first | decide | omega)
    try simp only [ia_lt, ia_le, ia_eq, ia_m1, ia_0, ia_1, ne_eq, true_and, and_true, false_and, and_false, or_false, false_or, or_true, true_or, not_true_eq_false, not_false_eq_true] at *
    all_goals omega)
  rw [jX]
  have q := sL_yes (w := 21) (sOne_mn (B := bt) (n := rlength) (m := rmostBytes) (ν := gnu) (L := lumps) 1) (p := z68) (o := k71) (by omega) w9 (by assumption)
  subst_vars
  exact q
set_option maxRecDepth 20000 in
theorem lf_f_snA8_8 (ccodeCount : Nat) (cones : Nat) (bt : Nat → Nat) (rlength : Nat) (rmostBytes : Nat) (rplace : Nat) (rkind : Int32) (rbegin : Nat) (rword : Int32) (rnumber : Int32) (rletters : Int64) (rtapeF : Nat → Int32) (lumps : Nat) (lumpNamesF : Nat → Int64) (gp : Nat) (gnu : Nat → Nat) (ccodeCountG_4 : Nat) (conesG_5 : Nat) (rplaceG_7 : Nat) (rkindG_8 : Int32) (rbeginG_9 : Nat) (rwordG_10 : Int32) (rnumberG_11 : Int32) (rlettersG_12 : Int64) (k69 : Nat) (k70 : Nat) (k71 : Nat) (k73 : Nat) (x74 : Int32) (k75 : Nat) (x76 : Int32) (x77 : Int32) (w78 : Int64) (z68 : Nat) (n88 : Nat) (r93 : Int32) (rplaceG_98 : Nat) (rkindG_99 : Int32) (rbeginG_100 : Nat) (rwordG_101 : Int32) (rnumberG_102 : Int32) (rlettersG_103 : Int64) (ccodeCountG_110 : Nat) (conesG_111 : Nat) (rplaceG_113 : Nat) (rkindG_114 : Int32) (rbeginG_115 : Nat) (rwordG_116 : Int32) (rnumberG_117 : Int32) (rlettersG_118 : Int64) (ccodeCountG_140 : Nat) (iv_cse_0 : ccodeCount ≤ 40) (iv_cse_1 : cones ≤ 20) (iv_rreader_0 : rlength ≤ 940) (iv_rreader_1 : rplace ≤ rlength) (iv_rreader_2 : rmostBytes ≤ 900) (iv_rreader_3 : rbegin ≤ 940) (hTC : TC bt rtapeF) (iv_a_4 : lumps ≤ 6) (hRT : RT bt rlength rmostBytes gp rkind rbegin rplace rword rnumber rletters) (hNL : NL gnu 0 lumps lumpNamesF) (hcc : ccodeCount ≤ 2 * cones) (p16 : ccodeCountG_4 ≤ 40) (p17 : conesG_5 ≤ 20) (p18 : rplaceG_7 ≤ rlength) (p19 : rbeginG_9 ≤ 940) (t20 : isO (sOne bt rlength rmostBytes gnu lumps 1 gp cones) = true) (t21 : RT bt rlength rmostBytes (srP (sOne bt rlength rmostBytes gnu lumps 1 gp cones)) rkindG_8 rbeginG_9 rplaceG_7 rwordG_10 rnumberG_11 rlettersG_12) (t22 : conesG_5 = srO (sOne bt rlength rmostBytes gnu lumps 1 gp cones)) (t23 : ccodeCountG_4 + 1 + 2 * cones ≤ ccodeCount + 2 * conesG_5) (t24 : cones < conesG_5) (j81 : k69 ≤ 20) (j82 : k70 ≤ 40) (j83 : k71 ≤ 20) (j84 : k73 ≤ 940) (j85 : k75 ≤ 940) (j86 : k73 ≤ rlength) (jRT : RT bt rlength rmostBytes z68 x74 k75 k73 x76 x77 w78) (jX : sAnd bt rlength rmostBytes gnu lumps 1 gp cones = sLoop bt rlength rmostBytes 21 (sOne bt rlength rmostBytes gnu lumps 1) 30 z68 k71) (jI : k69 + cones + 1 ≤ k71) (jC : k70 + 1 + 2 * cones ≤ ccodeCount + 2 * k71) (hm90 : 20 - k69 < n88 + 1) (c91 : k69 < 20) (p94 : r93 = x76) (c95 : r93 = nI 21) (p104 : rplaceG_98 ≤ rlength) (p105 : rbeginG_100 ≤ 940) (p106 : RT bt rlength rmostBytes (tT bt rlength rmostBytes z68) rkindG_99 rbeginG_100 rplaceG_98 rwordG_101 rnumberG_102 rlettersG_103) (p122 : ccodeCountG_110 ≤ 40) (p123 : conesG_111 ≤ 20) (p124 : rplaceG_113 ≤ rlength) (p125 : rbeginG_115 ≤ 940) (t126 : isO (sOne bt rlength rmostBytes gnu lumps 1 (tT bt rlength rmostBytes z68) k71) = true) (t127 : RT bt rlength rmostBytes (srP (sOne bt rlength rmostBytes gnu lumps 1 (tT bt rlength rmostBytes z68) k71)) rkindG_114 rbeginG_115 rplaceG_113 rwordG_116 rnumberG_117 rlettersG_118) (t128 : conesG_111 = srO (sOne bt rlength rmostBytes gnu lumps 1 (tT bt rlength rmostBytes z68) k71)) (t129 : ccodeCountG_110 + 1 + 2 * k71 ≤ k70 + 2 * conesG_111) (t130 : k71 < conesG_111) (p143 : ccodeCountG_140 ≤ 40) (p144 : ccodeCountG_140 = ccodeCountG_110 + 1) : (k69 + 1) + cones + 1 ≤ conesG_111 := by
  have b_rkind := ia_b rkind
  have b_rword := ia_b rword
  have b_rnumber := ia_b rnumber
  have b_rkindG_8 := ia_b rkindG_8
  have b_rwordG_10 := ia_b rwordG_10
  have b_rnumberG_11 := ia_b rnumberG_11
  have b_x74 := ia_b x74
  have b_x76 := ia_b x76
  have b_x77 := ia_b x77
  have b_r93 := ia_b r93
  have b_rkindG_99 := ia_b rkindG_99
  have b_rwordG_101 := ia_b rwordG_101
  have b_rnumberG_102 := ia_b rnumberG_102
  have b_rkindG_114 := ia_b rkindG_114
  have b_rwordG_116 := ia_b rwordG_116
  have b_rnumberG_117 := ia_b rnumberG_117
  have b_rletters := Int64.toInt_lt rletters
  have b_rlettersG_12 := Int64.toInt_lt rlettersG_12
  have b_w78 := Int64.toInt_lt w78
  have b_rlettersG_103 := Int64.toInt_lt rlettersG_103
  have b_rlettersG_118 := Int64.toInt_lt rlettersG_118
  try have k_0 := ia_n 21 (by first | decide | omega)
  try simp only [ia_lt, ia_le, ia_eq, ia_m1, ia_0, ia_1, ne_eq, true_and, and_true, false_and, and_false, or_false, false_or, or_true, true_or, not_true_eq_false, not_false_eq_true] at *
  all_goals omega
set_option maxRecDepth 20000 in
theorem lf_f_snA8_9 (ccodeCount : Nat) (cones : Nat) (bt : Nat → Nat) (rlength : Nat) (rmostBytes : Nat) (rplace : Nat) (rkind : Int32) (rbegin : Nat) (rword : Int32) (rnumber : Int32) (rletters : Int64) (rtapeF : Nat → Int32) (lumps : Nat) (lumpNamesF : Nat → Int64) (gp : Nat) (gnu : Nat → Nat) (ccodeCountG_4 : Nat) (conesG_5 : Nat) (rplaceG_7 : Nat) (rkindG_8 : Int32) (rbeginG_9 : Nat) (rwordG_10 : Int32) (rnumberG_11 : Int32) (rlettersG_12 : Int64) (k69 : Nat) (k70 : Nat) (k71 : Nat) (k73 : Nat) (x74 : Int32) (k75 : Nat) (x76 : Int32) (x77 : Int32) (w78 : Int64) (z68 : Nat) (n88 : Nat) (r93 : Int32) (rplaceG_98 : Nat) (rkindG_99 : Int32) (rbeginG_100 : Nat) (rwordG_101 : Int32) (rnumberG_102 : Int32) (rlettersG_103 : Int64) (ccodeCountG_110 : Nat) (conesG_111 : Nat) (rplaceG_113 : Nat) (rkindG_114 : Int32) (rbeginG_115 : Nat) (rwordG_116 : Int32) (rnumberG_117 : Int32) (rlettersG_118 : Int64) (ccodeCountG_140 : Nat) (iv_cse_0 : ccodeCount ≤ 40) (iv_cse_1 : cones ≤ 20) (iv_rreader_0 : rlength ≤ 940) (iv_rreader_1 : rplace ≤ rlength) (iv_rreader_2 : rmostBytes ≤ 900) (iv_rreader_3 : rbegin ≤ 940) (hTC : TC bt rtapeF) (iv_a_4 : lumps ≤ 6) (hRT : RT bt rlength rmostBytes gp rkind rbegin rplace rword rnumber rletters) (hNL : NL gnu 0 lumps lumpNamesF) (hcc : ccodeCount ≤ 2 * cones) (p16 : ccodeCountG_4 ≤ 40) (p17 : conesG_5 ≤ 20) (p18 : rplaceG_7 ≤ rlength) (p19 : rbeginG_9 ≤ 940) (t20 : isO (sOne bt rlength rmostBytes gnu lumps 1 gp cones) = true) (t21 : RT bt rlength rmostBytes (srP (sOne bt rlength rmostBytes gnu lumps 1 gp cones)) rkindG_8 rbeginG_9 rplaceG_7 rwordG_10 rnumberG_11 rlettersG_12) (t22 : conesG_5 = srO (sOne bt rlength rmostBytes gnu lumps 1 gp cones)) (t23 : ccodeCountG_4 + 1 + 2 * cones ≤ ccodeCount + 2 * conesG_5) (t24 : cones < conesG_5) (j81 : k69 ≤ 20) (j82 : k70 ≤ 40) (j83 : k71 ≤ 20) (j84 : k73 ≤ 940) (j85 : k75 ≤ 940) (j86 : k73 ≤ rlength) (jRT : RT bt rlength rmostBytes z68 x74 k75 k73 x76 x77 w78) (jX : sAnd bt rlength rmostBytes gnu lumps 1 gp cones = sLoop bt rlength rmostBytes 21 (sOne bt rlength rmostBytes gnu lumps 1) 30 z68 k71) (jI : k69 + cones + 1 ≤ k71) (jC : k70 + 1 + 2 * cones ≤ ccodeCount + 2 * k71) (hm90 : 20 - k69 < n88 + 1) (c91 : k69 < 20) (p94 : r93 = x76) (c95 : r93 = nI 21) (p104 : rplaceG_98 ≤ rlength) (p105 : rbeginG_100 ≤ 940) (p106 : RT bt rlength rmostBytes (tT bt rlength rmostBytes z68) rkindG_99 rbeginG_100 rplaceG_98 rwordG_101 rnumberG_102 rlettersG_103) (p122 : ccodeCountG_110 ≤ 40) (p123 : conesG_111 ≤ 20) (p124 : rplaceG_113 ≤ rlength) (p125 : rbeginG_115 ≤ 940) (t126 : isO (sOne bt rlength rmostBytes gnu lumps 1 (tT bt rlength rmostBytes z68) k71) = true) (t127 : RT bt rlength rmostBytes (srP (sOne bt rlength rmostBytes gnu lumps 1 (tT bt rlength rmostBytes z68) k71)) rkindG_114 rbeginG_115 rplaceG_113 rwordG_116 rnumberG_117 rlettersG_118) (t128 : conesG_111 = srO (sOne bt rlength rmostBytes gnu lumps 1 (tT bt rlength rmostBytes z68) k71)) (t129 : ccodeCountG_110 + 1 + 2 * k71 ≤ k70 + 2 * conesG_111) (t130 : k71 < conesG_111) (p143 : ccodeCountG_140 ≤ 40) (p144 : ccodeCountG_140 = ccodeCountG_110 + 1) : ccodeCountG_140 + 1 + 2 * cones ≤ ccodeCount + 2 * conesG_111 := by
  have b_rkind := ia_b rkind
  have b_rword := ia_b rword
  have b_rnumber := ia_b rnumber
  have b_rkindG_8 := ia_b rkindG_8
  have b_rwordG_10 := ia_b rwordG_10
  have b_rnumberG_11 := ia_b rnumberG_11
  have b_x74 := ia_b x74
  have b_x76 := ia_b x76
  have b_x77 := ia_b x77
  have b_r93 := ia_b r93
  have b_rkindG_99 := ia_b rkindG_99
  have b_rwordG_101 := ia_b rwordG_101
  have b_rnumberG_102 := ia_b rnumberG_102
  have b_rkindG_114 := ia_b rkindG_114
  have b_rwordG_116 := ia_b rwordG_116
  have b_rnumberG_117 := ia_b rnumberG_117
  have b_rletters := Int64.toInt_lt rletters
  have b_rlettersG_12 := Int64.toInt_lt rlettersG_12
  have b_w78 := Int64.toInt_lt w78
  have b_rlettersG_103 := Int64.toInt_lt rlettersG_103
  have b_rlettersG_118 := Int64.toInt_lt rlettersG_118
  try have k_0 := ia_n 21 (by first | decide | omega)
  try simp only [ia_lt, ia_le, ia_eq, ia_m1, ia_0, ia_1, ne_eq, true_and, and_true, false_and, and_false, or_false, false_or, or_true, true_or, not_true_eq_false, not_false_eq_true] at *
  all_goals omega
set_option maxRecDepth 20000 in
theorem lf_f_snA8_10 (adK : Nat → Nat) (adV : Nat → Nat) (se : Nat) (ccodes : Nat) (ccodeCount : Nat) (cones : Nat) (ccodesF : Nat → Int32) (bt : Nat → Nat) (reader : Nat) (rtape : Nat) (rlength : Nat) (rmostBytes : Nat) (rplace : Nat) (rkind : Int32) (rbegin : Nat) (rword : Int32) (rnumber : Int32) (rletters : Int64) (rfaultKind : Int32) (rfaultPlace : Int32) (rtapeF : Nat → Int32) (a : Nat) (wide : Nat) (high : Nat) (heat : Int32) (cools : Int32) (skinHeat : Int32) (today : Int32) (stirs : Int32) (steps : Int32) (lumps : Nat) (boats : Nat) (thickness : Nat) (lumpNames : Nat) (lumpCells : Nat) (boatNames : Nat) (boatCells : Nat) (loads : Nat) (spoons : Nat) (spoonsLeft : Nat) (depths : Nat) (lumpNamesF : Nat → Int64) (gp : Nat) (gnu : Nat → Nat) (ccodeCountG_4 : Nat) (conesG_5 : Nat) (ccodesG_6 : Nat → Int32) (rplaceG_7 : Nat) (rkindG_8 : Int32) (rbeginG_9 : Nat) (rwordG_10 : Int32) (rnumberG_11 : Int32) (rlettersG_12 : Int64) (rfaultKindG_13 : Int32) (rfaultPlaceG_14 : Int32) (k69 : Nat) (k70 : Nat) (k71 : Nat) (f72 : Nat → Int32) (k73 : Nat) (x74 : Int32) (k75 : Nat) (x76 : Int32) (x77 : Int32) (w78 : Int64) (x79 : Int32) (x80 : Int32) (z68 : Nat) (n88 : Nat) (r93 : Int32) (rplaceG_98 : Nat) (rkindG_99 : Int32) (rbeginG_100 : Nat) (rwordG_101 : Int32) (rnumberG_102 : Int32) (rlettersG_103 : Int64) (ccodeCountG_110 : Nat) (conesG_111 : Nat) (ccodesG_112 : Nat → Int32) (rplaceG_113 : Nat) (rkindG_114 : Int32) (rbeginG_115 : Nat) (rwordG_116 : Int32) (rnumberG_117 : Int32) (rlettersG_118 : Int64) (rfaultKindG_119 : Int32) (rfaultPlaceG_120 : Int32) (ccodeCountG_140 : Nat) (ccodesG_141 : Nat → Int32) (iv_cse_0 : ccodeCount ≤ 40) (iv_cse_1 : cones ≤ 20) (iv_rreader_0 : rlength ≤ 940) (iv_rreader_1 : rplace ≤ rlength) (iv_rreader_2 : rmostBytes ≤ 900) (iv_rreader_3 : rbegin ≤ 940) (hTC : TC bt rtapeF) (iv_a_0 : 2 ≤ wide) (iv_a_1 : wide ≤ 6) (iv_a_2 : 2 ≤ high) (iv_a_3 : high ≤ 6) (iv_a_4 : lumps ≤ 6) (iv_a_5 : boats ≤ 6) (hRT : RT bt rlength rmostBytes gp rkind rbegin rplace rword rnumber rletters) (hNL : NL gnu 0 lumps lumpNamesF) (hcc : ccodeCount ≤ 2 * cones) (p16 : ccodeCountG_4 ≤ 40) (p17 : conesG_5 ≤ 20) (p18 : rplaceG_7 ≤ rlength) (p19 : rbeginG_9 ≤ 940) (t20 : isO (sOne bt rlength rmostBytes gnu lumps 1 gp cones) = true) (t21 : RT bt rlength rmostBytes (srP (sOne bt rlength rmostBytes gnu lumps 1 gp cones)) rkindG_8 rbeginG_9 rplaceG_7 rwordG_10 rnumberG_11 rlettersG_12) (t22 : conesG_5 = srO (sOne bt rlength rmostBytes gnu lumps 1 gp cones)) (t23 : ccodeCountG_4 + 1 + 2 * cones ≤ ccodeCount + 2 * conesG_5) (t24 : cones < conesG_5) (t25 : rfaultKindG_13 = rfaultKind) (t26 : rfaultPlaceG_14 = rfaultPlace) (j81 : k69 ≤ 20) (j82 : k70 ≤ 40) (j83 : k71 ≤ 20) (j84 : k73 ≤ 940) (j85 : k75 ≤ 940) (j86 : k73 ≤ rlength) (jRT : RT bt rlength rmostBytes z68 x74 k75 k73 x76 x77 w78) (jX : sAnd bt rlength rmostBytes gnu lumps 1 gp cones = sLoop bt rlength rmostBytes 21 (sOne bt rlength rmostBytes gnu lumps 1) 30 z68 k71) (jI : k69 + cones + 1 ≤ k71) (jC : k70 + 1 + 2 * cones ≤ ccodeCount + 2 * k71) (jFk : x79 = rfaultKind) (jFp : x80 = rfaultPlace) (hm90 : 20 - k69 < n88 + 1) (c91 : k69 < 20) (p94 : r93 = x76) (c95 : r93 = nI 21) (p104 : rplaceG_98 ≤ rlength) (p105 : rbeginG_100 ≤ 940) (p106 : RT bt rlength rmostBytes (tT bt rlength rmostBytes z68) rkindG_99 rbeginG_100 rplaceG_98 rwordG_101 rnumberG_102 rlettersG_103) (p122 : ccodeCountG_110 ≤ 40) (p123 : conesG_111 ≤ 20) (p124 : rplaceG_113 ≤ rlength) (p125 : rbeginG_115 ≤ 940) (t126 : isO (sOne bt rlength rmostBytes gnu lumps 1 (tT bt rlength rmostBytes z68) k71) = true) (t127 : RT bt rlength rmostBytes (srP (sOne bt rlength rmostBytes gnu lumps 1 (tT bt rlength rmostBytes z68) k71)) rkindG_114 rbeginG_115 rplaceG_113 rwordG_116 rnumberG_117 rlettersG_118) (t128 : conesG_111 = srO (sOne bt rlength rmostBytes gnu lumps 1 (tT bt rlength rmostBytes z68) k71)) (t129 : ccodeCountG_110 + 1 + 2 * k71 ≤ k70 + 2 * conesG_111) (t130 : k71 < conesG_111) (t131 : rfaultKindG_119 = x79) (t132 : rfaultPlaceG_120 = x80) (p143 : ccodeCountG_140 ≤ 40) (p144 : ccodeCountG_140 = ccodeCountG_110 + 1) : rfaultKindG_119 = rfaultKind := by
  subst_vars
  first
    | rfl
    | assumption
set_option maxRecDepth 20000 in
theorem lf_f_snA8_11 (adK : Nat → Nat) (adV : Nat → Nat) (se : Nat) (ccodes : Nat) (ccodeCount : Nat) (cones : Nat) (ccodesF : Nat → Int32) (bt : Nat → Nat) (reader : Nat) (rtape : Nat) (rlength : Nat) (rmostBytes : Nat) (rplace : Nat) (rkind : Int32) (rbegin : Nat) (rword : Int32) (rnumber : Int32) (rletters : Int64) (rfaultKind : Int32) (rfaultPlace : Int32) (rtapeF : Nat → Int32) (a : Nat) (wide : Nat) (high : Nat) (heat : Int32) (cools : Int32) (skinHeat : Int32) (today : Int32) (stirs : Int32) (steps : Int32) (lumps : Nat) (boats : Nat) (thickness : Nat) (lumpNames : Nat) (lumpCells : Nat) (boatNames : Nat) (boatCells : Nat) (loads : Nat) (spoons : Nat) (spoonsLeft : Nat) (depths : Nat) (lumpNamesF : Nat → Int64) (gp : Nat) (gnu : Nat → Nat) (ccodeCountG_4 : Nat) (conesG_5 : Nat) (ccodesG_6 : Nat → Int32) (rplaceG_7 : Nat) (rkindG_8 : Int32) (rbeginG_9 : Nat) (rwordG_10 : Int32) (rnumberG_11 : Int32) (rlettersG_12 : Int64) (rfaultKindG_13 : Int32) (rfaultPlaceG_14 : Int32) (k69 : Nat) (k70 : Nat) (k71 : Nat) (f72 : Nat → Int32) (k73 : Nat) (x74 : Int32) (k75 : Nat) (x76 : Int32) (x77 : Int32) (w78 : Int64) (x79 : Int32) (x80 : Int32) (z68 : Nat) (n88 : Nat) (r93 : Int32) (rplaceG_98 : Nat) (rkindG_99 : Int32) (rbeginG_100 : Nat) (rwordG_101 : Int32) (rnumberG_102 : Int32) (rlettersG_103 : Int64) (ccodeCountG_110 : Nat) (conesG_111 : Nat) (ccodesG_112 : Nat → Int32) (rplaceG_113 : Nat) (rkindG_114 : Int32) (rbeginG_115 : Nat) (rwordG_116 : Int32) (rnumberG_117 : Int32) (rlettersG_118 : Int64) (rfaultKindG_119 : Int32) (rfaultPlaceG_120 : Int32) (ccodeCountG_140 : Nat) (ccodesG_141 : Nat → Int32) (iv_cse_0 : ccodeCount ≤ 40) (iv_cse_1 : cones ≤ 20) (iv_rreader_0 : rlength ≤ 940) (iv_rreader_1 : rplace ≤ rlength) (iv_rreader_2 : rmostBytes ≤ 900) (iv_rreader_3 : rbegin ≤ 940) (hTC : TC bt rtapeF) (iv_a_0 : 2 ≤ wide) (iv_a_1 : wide ≤ 6) (iv_a_2 : 2 ≤ high) (iv_a_3 : high ≤ 6) (iv_a_4 : lumps ≤ 6) (iv_a_5 : boats ≤ 6) (hRT : RT bt rlength rmostBytes gp rkind rbegin rplace rword rnumber rletters) (hNL : NL gnu 0 lumps lumpNamesF) (hcc : ccodeCount ≤ 2 * cones) (p16 : ccodeCountG_4 ≤ 40) (p17 : conesG_5 ≤ 20) (p18 : rplaceG_7 ≤ rlength) (p19 : rbeginG_9 ≤ 940) (t20 : isO (sOne bt rlength rmostBytes gnu lumps 1 gp cones) = true) (t21 : RT bt rlength rmostBytes (srP (sOne bt rlength rmostBytes gnu lumps 1 gp cones)) rkindG_8 rbeginG_9 rplaceG_7 rwordG_10 rnumberG_11 rlettersG_12) (t22 : conesG_5 = srO (sOne bt rlength rmostBytes gnu lumps 1 gp cones)) (t23 : ccodeCountG_4 + 1 + 2 * cones ≤ ccodeCount + 2 * conesG_5) (t24 : cones < conesG_5) (t25 : rfaultKindG_13 = rfaultKind) (t26 : rfaultPlaceG_14 = rfaultPlace) (j81 : k69 ≤ 20) (j82 : k70 ≤ 40) (j83 : k71 ≤ 20) (j84 : k73 ≤ 940) (j85 : k75 ≤ 940) (j86 : k73 ≤ rlength) (jRT : RT bt rlength rmostBytes z68 x74 k75 k73 x76 x77 w78) (jX : sAnd bt rlength rmostBytes gnu lumps 1 gp cones = sLoop bt rlength rmostBytes 21 (sOne bt rlength rmostBytes gnu lumps 1) 30 z68 k71) (jI : k69 + cones + 1 ≤ k71) (jC : k70 + 1 + 2 * cones ≤ ccodeCount + 2 * k71) (jFk : x79 = rfaultKind) (jFp : x80 = rfaultPlace) (hm90 : 20 - k69 < n88 + 1) (c91 : k69 < 20) (p94 : r93 = x76) (c95 : r93 = nI 21) (p104 : rplaceG_98 ≤ rlength) (p105 : rbeginG_100 ≤ 940) (p106 : RT bt rlength rmostBytes (tT bt rlength rmostBytes z68) rkindG_99 rbeginG_100 rplaceG_98 rwordG_101 rnumberG_102 rlettersG_103) (p122 : ccodeCountG_110 ≤ 40) (p123 : conesG_111 ≤ 20) (p124 : rplaceG_113 ≤ rlength) (p125 : rbeginG_115 ≤ 940) (t126 : isO (sOne bt rlength rmostBytes gnu lumps 1 (tT bt rlength rmostBytes z68) k71) = true) (t127 : RT bt rlength rmostBytes (srP (sOne bt rlength rmostBytes gnu lumps 1 (tT bt rlength rmostBytes z68) k71)) rkindG_114 rbeginG_115 rplaceG_113 rwordG_116 rnumberG_117 rlettersG_118) (t128 : conesG_111 = srO (sOne bt rlength rmostBytes gnu lumps 1 (tT bt rlength rmostBytes z68) k71)) (t129 : ccodeCountG_110 + 1 + 2 * k71 ≤ k70 + 2 * conesG_111) (t130 : k71 < conesG_111) (t131 : rfaultKindG_119 = x79) (t132 : rfaultPlaceG_120 = x80) (p143 : ccodeCountG_140 ≤ 40) (p144 : ccodeCountG_140 = ccodeCountG_110 + 1) : rfaultPlaceG_120 = rfaultPlace := by
  subst_vars
  first
    | rfl
    | assumption
set_option maxRecDepth 20000 in
theorem lf_f_snA8_12 (ccodeCount : Nat) (cones : Nat) (bt : Nat → Nat) (rlength : Nat) (rmostBytes : Nat) (rplace : Nat) (rkind : Int32) (rbegin : Nat) (rword : Int32) (rnumber : Int32) (rletters : Int64) (rtapeF : Nat → Int32) (lumps : Nat) (lumpNamesF : Nat → Int64) (gp : Nat) (gnu : Nat → Nat) (ccodeCountG_4 : Nat) (conesG_5 : Nat) (rplaceG_7 : Nat) (rkindG_8 : Int32) (rbeginG_9 : Nat) (rwordG_10 : Int32) (rnumberG_11 : Int32) (rlettersG_12 : Int64) (k69 : Nat) (k70 : Nat) (k71 : Nat) (k73 : Nat) (x74 : Int32) (k75 : Nat) (x76 : Int32) (x77 : Int32) (w78 : Int64) (z68 : Nat) (n88 : Nat) (r93 : Int32) (rplaceG_98 : Nat) (rkindG_99 : Int32) (rbeginG_100 : Nat) (rwordG_101 : Int32) (rnumberG_102 : Int32) (rlettersG_103 : Int64) (ccodeCountG_110 : Nat) (conesG_111 : Nat) (rplaceG_113 : Nat) (rkindG_114 : Int32) (rbeginG_115 : Nat) (rwordG_116 : Int32) (rnumberG_117 : Int32) (rlettersG_118 : Int64) (ccodeCountG_140 : Nat) (iv_cse_0 : ccodeCount ≤ 40) (iv_cse_1 : cones ≤ 20) (iv_rreader_0 : rlength ≤ 940) (iv_rreader_1 : rplace ≤ rlength) (iv_rreader_2 : rmostBytes ≤ 900) (iv_rreader_3 : rbegin ≤ 940) (hTC : TC bt rtapeF) (iv_a_4 : lumps ≤ 6) (hRT : RT bt rlength rmostBytes gp rkind rbegin rplace rword rnumber rletters) (hNL : NL gnu 0 lumps lumpNamesF) (hcc : ccodeCount ≤ 2 * cones) (p16 : ccodeCountG_4 ≤ 40) (p17 : conesG_5 ≤ 20) (p18 : rplaceG_7 ≤ rlength) (p19 : rbeginG_9 ≤ 940) (t20 : isO (sOne bt rlength rmostBytes gnu lumps 1 gp cones) = true) (t21 : RT bt rlength rmostBytes (srP (sOne bt rlength rmostBytes gnu lumps 1 gp cones)) rkindG_8 rbeginG_9 rplaceG_7 rwordG_10 rnumberG_11 rlettersG_12) (t22 : conesG_5 = srO (sOne bt rlength rmostBytes gnu lumps 1 gp cones)) (t23 : ccodeCountG_4 + 1 + 2 * cones ≤ ccodeCount + 2 * conesG_5) (t24 : cones < conesG_5) (j81 : k69 ≤ 20) (j82 : k70 ≤ 40) (j83 : k71 ≤ 20) (j84 : k73 ≤ 940) (j85 : k75 ≤ 940) (j86 : k73 ≤ rlength) (jRT : RT bt rlength rmostBytes z68 x74 k75 k73 x76 x77 w78) (jX : sAnd bt rlength rmostBytes gnu lumps 1 gp cones = sLoop bt rlength rmostBytes 21 (sOne bt rlength rmostBytes gnu lumps 1) 30 z68 k71) (jI : k69 + cones + 1 ≤ k71) (jC : k70 + 1 + 2 * cones ≤ ccodeCount + 2 * k71) (hm90 : 20 - k69 < n88 + 1) (c91 : k69 < 20) (p94 : r93 = x76) (c95 : r93 = nI 21) (p104 : rplaceG_98 ≤ rlength) (p105 : rbeginG_100 ≤ 940) (p106 : RT bt rlength rmostBytes (tT bt rlength rmostBytes z68) rkindG_99 rbeginG_100 rplaceG_98 rwordG_101 rnumberG_102 rlettersG_103) (p122 : ccodeCountG_110 ≤ 40) (p123 : conesG_111 ≤ 20) (p124 : rplaceG_113 ≤ rlength) (p125 : rbeginG_115 ≤ 940) (t126 : isO (sOne bt rlength rmostBytes gnu lumps 1 (tT bt rlength rmostBytes z68) k71) = true) (t127 : RT bt rlength rmostBytes (srP (sOne bt rlength rmostBytes gnu lumps 1 (tT bt rlength rmostBytes z68) k71)) rkindG_114 rbeginG_115 rplaceG_113 rwordG_116 rnumberG_117 rlettersG_118) (t128 : conesG_111 = srO (sOne bt rlength rmostBytes gnu lumps 1 (tT bt rlength rmostBytes z68) k71)) (t129 : ccodeCountG_110 + 1 + 2 * k71 ≤ k70 + 2 * conesG_111) (t130 : k71 < conesG_111) (p143 : ccodeCountG_140 ≤ 40) (p144 : ccodeCountG_140 = ccodeCountG_110 + 1) : 20 - (k69 + 1) < n88 := by
  have b_rkind := ia_b rkind
  have b_rword := ia_b rword
  have b_rnumber := ia_b rnumber
  have b_rkindG_8 := ia_b rkindG_8
  have b_rwordG_10 := ia_b rwordG_10
  have b_rnumberG_11 := ia_b rnumberG_11
  have b_x74 := ia_b x74
  have b_x76 := ia_b x76
  have b_x77 := ia_b x77
  have b_r93 := ia_b r93
  have b_rkindG_99 := ia_b rkindG_99
  have b_rwordG_101 := ia_b rwordG_101
  have b_rnumberG_102 := ia_b rnumberG_102
  have b_rkindG_114 := ia_b rkindG_114
  have b_rwordG_116 := ia_b rwordG_116
  have b_rnumberG_117 := ia_b rnumberG_117
  have b_rletters := Int64.toInt_lt rletters
  have b_rlettersG_12 := Int64.toInt_lt rlettersG_12
  have b_w78 := Int64.toInt_lt w78
  have b_rlettersG_103 := Int64.toInt_lt rlettersG_103
  have b_rlettersG_118 := Int64.toInt_lt rlettersG_118
  try have k_0 := ia_n 21 (by first | decide | omega)
  try simp only [ia_lt, ia_le, ia_eq, ia_m1, ia_0, ia_1, ne_eq, true_and, and_true, false_and, and_false, or_false, false_or, or_true, true_or, not_true_eq_false, not_false_eq_true] at *
  all_goals omega
set_option maxRecDepth 20000 in
theorem lf_f_snA8_13 (ccodeCount : Nat) (cones : Nat) (bt : Nat → Nat) (rlength : Nat) (rmostBytes : Nat) (rplace : Nat) (rkind : Int32) (rbegin : Nat) (rword : Int32) (rnumber : Int32) (rletters : Int64) (rfaultKind : Int32) (rfaultPlace : Int32) (rtapeF : Nat → Int32) (lumps : Nat) (lumpNamesF : Nat → Int64) (gp : Nat) (gnu : Nat → Nat) (ccodeCountG_4 : Nat) (conesG_5 : Nat) (rplaceG_7 : Nat) (rkindG_8 : Int32) (rbeginG_9 : Nat) (rwordG_10 : Int32) (rnumberG_11 : Int32) (rlettersG_12 : Int64) (rfaultKindG_13 : Int32) (rfaultPlaceG_14 : Int32) (k69 : Nat) (k70 : Nat) (k71 : Nat) (k73 : Nat) (x74 : Int32) (k75 : Nat) (x76 : Int32) (x77 : Int32) (w78 : Int64) (x79 : Int32) (x80 : Int32) (z68 : Nat) (n88 : Nat) (r93 : Int32) (rplaceG_98 : Nat) (rkindG_99 : Int32) (rbeginG_100 : Nat) (rwordG_101 : Int32) (rnumberG_102 : Int32) (rlettersG_103 : Int64) (ccodeCountG_110 : Nat) (conesG_111 : Nat) (rplaceG_113 : Nat) (rkindG_114 : Int32) (rbeginG_115 : Nat) (rwordG_116 : Int32) (rnumberG_117 : Int32) (rlettersG_118 : Int64) (rfaultKindG_119 : Int32) (rfaultPlaceG_120 : Int32) (iv_cse_0 : ccodeCount ≤ 40) (iv_cse_1 : cones ≤ 20) (iv_rreader_0 : rlength ≤ 940) (iv_rreader_1 : rplace ≤ rlength) (iv_rreader_2 : rmostBytes ≤ 900) (iv_rreader_3 : rbegin ≤ 940) (hTC : TC bt rtapeF) (iv_a_4 : lumps ≤ 6) (hRT : RT bt rlength rmostBytes gp rkind rbegin rplace rword rnumber rletters) (hNL : NL gnu 0 lumps lumpNamesF) (hcc : ccodeCount ≤ 2 * cones) (p16 : ccodeCountG_4 ≤ 40) (p17 : conesG_5 ≤ 20) (p18 : rplaceG_7 ≤ rlength) (p19 : rbeginG_9 ≤ 940) (t20 : isO (sOne bt rlength rmostBytes gnu lumps 1 gp cones) = true) (t21 : RT bt rlength rmostBytes (srP (sOne bt rlength rmostBytes gnu lumps 1 gp cones)) rkindG_8 rbeginG_9 rplaceG_7 rwordG_10 rnumberG_11 rlettersG_12) (t22 : conesG_5 = srO (sOne bt rlength rmostBytes gnu lumps 1 gp cones)) (t23 : ccodeCountG_4 + 1 + 2 * cones ≤ ccodeCount + 2 * conesG_5) (t24 : cones < conesG_5) (t25 : rfaultKindG_13 = rfaultKind) (t26 : rfaultPlaceG_14 = rfaultPlace) (j81 : k69 ≤ 20) (j82 : k70 ≤ 40) (j83 : k71 ≤ 20) (j84 : k73 ≤ 940) (j85 : k75 ≤ 940) (j86 : k73 ≤ rlength) (jRT : RT bt rlength rmostBytes z68 x74 k75 k73 x76 x77 w78) (jX : sAnd bt rlength rmostBytes gnu lumps 1 gp cones = sLoop bt rlength rmostBytes 21 (sOne bt rlength rmostBytes gnu lumps 1) 30 z68 k71) (jI : k69 + cones + 1 ≤ k71) (jC : k70 + 1 + 2 * cones ≤ ccodeCount + 2 * k71) (jFk : x79 = rfaultKind) (jFp : x80 = rfaultPlace) (hm90 : 20 - k69 < n88 + 1) (c91 : k69 < 20) (p94 : r93 = x76) (c95 : r93 = nI 21) (p104 : rplaceG_98 ≤ rlength) (p105 : rbeginG_100 ≤ 940) (p106 : RT bt rlength rmostBytes (tT bt rlength rmostBytes z68) rkindG_99 rbeginG_100 rplaceG_98 rwordG_101 rnumberG_102 rlettersG_103) (p122 : ccodeCountG_110 ≤ 40) (p123 : conesG_111 ≤ 20) (p124 : rplaceG_113 ≤ rlength) (p125 : rbeginG_115 ≤ 940) (t133 : isO (sOne bt rlength rmostBytes gnu lumps 1 (tT bt rlength rmostBytes z68) k71) = false) (t134 : rfaultKindG_119 = nI (erA (sOne bt rlength rmostBytes gnu lumps 1 (tT bt rlength rmostBytes z68) k71))) (t135 : rfaultPlaceG_120 = nI (erB (sOne bt rlength rmostBytes gnu lumps 1 (tT bt rlength rmostBytes z68) k71))) (c147 : 20 ≤ (k69 + 1)) : ((nI 0) = nI 1 ∧ (isO (sAnd bt rlength rmostBytes gnu lumps 1 gp cones) = true ∧ RT bt rlength rmostBytes (srP (sAnd bt rlength rmostBytes gnu lumps 1 gp cones)) rkindG_114 rbeginG_115 rplaceG_113 rwordG_116 rnumberG_117 rlettersG_118 ∧ conesG_111 = srO (sAnd bt rlength rmostBytes gnu lumps 1 gp cones) ∧ ccodeCountG_110 + 1 + 2 * cones ≤ ccodeCount + 2 * conesG_111 ∧ cones < conesG_111 ∧ rfaultKindG_119 = rfaultKind ∧ rfaultPlaceG_120 = rfaultPlace)) ∨ ((nI 0) = nI 0 ∧ (isO (sAnd bt rlength rmostBytes gnu lumps 1 gp cones) = false ∧ rfaultKindG_119 = nI (erA (sAnd bt rlength rmostBytes gnu lumps 1 gp cones)) ∧ rfaultPlaceG_120 = nI (erB (sAnd bt rlength rmostBytes gnu lumps 1 gp cones)))) := by
  have w9 : tW bt rlength rmostBytes z68 = 21 := (RT_w jRT (by decide)).mp (by
    have kk21 := ia_n 21 (by decide)
    have b_rkind := ia_b rkind
    have b_rword := ia_b rword
    have b_rnumber := ia_b rnumber
    have b_rfaultKind := ia_b rfaultKind
    have b_rfaultPlace := ia_b rfaultPlace
    have b_rkindG_8 := ia_b rkindG_8
    have b_rwordG_10 := ia_b rwordG_10
    have b_rnumberG_11 := ia_b rnumberG_11
    have b_rfaultKindG_13 := ia_b rfaultKindG_13
    have b_rfaultPlaceG_14 := ia_b rfaultPlaceG_14
    have b_x74 := ia_b x74
    have b_x76 := ia_b x76
    have b_x77 := ia_b x77
    have b_x79 := ia_b x79
    have b_x80 := ia_b x80
    have b_r93 := ia_b r93
    have b_rkindG_99 := ia_b rkindG_99
    have b_rwordG_101 := ia_b rwordG_101
    have b_rnumberG_102 := ia_b rnumberG_102
    have b_rkindG_114 := ia_b rkindG_114
    have b_rwordG_116 := ia_b rwordG_116
    have b_rnumberG_117 := ia_b rnumberG_117
    have b_rfaultKindG_119 := ia_b rfaultKindG_119
    have b_rfaultPlaceG_120 := ia_b rfaultPlaceG_120
    have b_rletters := Int64.toInt_lt rletters
    have b_rlettersG_12 := Int64.toInt_lt rlettersG_12
    have b_w78 := Int64.toInt_lt w78
    have b_rlettersG_103 := Int64.toInt_lt rlettersG_103
    have b_rlettersG_118 := Int64.toInt_lt rlettersG_118
    try have k_0 := ia_n 21 (by first | decide | omega)
    try have k_1 := ia_n (erA (sOne bt rlength rmostBytes gnu lumps 1 (tT bt rlength rmostBytes z68) k71)) (by first | decide | omega)
    try have k_2 := ia_n (erB (sOne bt rlength rmostBytes gnu lumps 1 (tT bt rlength rmostBytes z68) k71)) (by first | decide | omega)
    try have k_3 := ia_n 0 (by first | decide | omega)
    try have k_4 := ia_n 1 (by first | decide | omega)
    try have k_5 := ia_n (erA (sAnd bt rlength rmostBytes gnu lumps 1 gp cones)) (by first | decide | omega)
    try have k_6 := ia_n (erB (sAnd bt rlength rmostBytes gnu lumps 1 gp cones)) (by first | decide | omega)
    try simp only [ia_lt, ia_le, ia_eq, ia_m1, ia_0, ia_1, ne_eq, true_and, and_true, false_and, and_false, or_false, false_or, or_true, true_or, not_true_eq_false, not_false_eq_true] at *
    all_goals omega)
  rw [jX, sL_err w9 (by assumption)]
  exact Or.inr ⟨rfl, rfl, ‹_›, ‹_›⟩
set_option maxRecDepth 20000 in
theorem lf_f_snA8_14 (ccodeCount : Nat) (cones : Nat) (bt : Nat → Nat) (rlength : Nat) (rmostBytes : Nat) (rplace : Nat) (rkind : Int32) (rbegin : Nat) (rword : Int32) (rnumber : Int32) (rletters : Int64) (rfaultKind : Int32) (rfaultPlace : Int32) (rtapeF : Nat → Int32) (lumps : Nat) (lumpNamesF : Nat → Int64) (gp : Nat) (gnu : Nat → Nat) (ccodeCountG_4 : Nat) (conesG_5 : Nat) (rplaceG_7 : Nat) (rkindG_8 : Int32) (rbeginG_9 : Nat) (rwordG_10 : Int32) (rnumberG_11 : Int32) (rlettersG_12 : Int64) (rfaultKindG_13 : Int32) (rfaultPlaceG_14 : Int32) (k69 : Nat) (k70 : Nat) (k71 : Nat) (k73 : Nat) (x74 : Int32) (k75 : Nat) (x76 : Int32) (x77 : Int32) (w78 : Int64) (x79 : Int32) (x80 : Int32) (z68 : Nat) (n88 : Nat) (r93 : Int32) (rplaceG_98 : Nat) (rkindG_99 : Int32) (rbeginG_100 : Nat) (rwordG_101 : Int32) (rnumberG_102 : Int32) (rlettersG_103 : Int64) (ccodeCountG_110 : Nat) (conesG_111 : Nat) (rplaceG_113 : Nat) (rkindG_114 : Int32) (rbeginG_115 : Nat) (rwordG_116 : Int32) (rnumberG_117 : Int32) (rlettersG_118 : Int64) (rfaultKindG_119 : Int32) (rfaultPlaceG_120 : Int32) (iv_cse_0 : ccodeCount ≤ 40) (iv_cse_1 : cones ≤ 20) (iv_rreader_0 : rlength ≤ 940) (iv_rreader_1 : rplace ≤ rlength) (iv_rreader_2 : rmostBytes ≤ 900) (iv_rreader_3 : rbegin ≤ 940) (hTC : TC bt rtapeF) (iv_a_4 : lumps ≤ 6) (hRT : RT bt rlength rmostBytes gp rkind rbegin rplace rword rnumber rletters) (hNL : NL gnu 0 lumps lumpNamesF) (hcc : ccodeCount ≤ 2 * cones) (p16 : ccodeCountG_4 ≤ 40) (p17 : conesG_5 ≤ 20) (p18 : rplaceG_7 ≤ rlength) (p19 : rbeginG_9 ≤ 940) (t20 : isO (sOne bt rlength rmostBytes gnu lumps 1 gp cones) = true) (t21 : RT bt rlength rmostBytes (srP (sOne bt rlength rmostBytes gnu lumps 1 gp cones)) rkindG_8 rbeginG_9 rplaceG_7 rwordG_10 rnumberG_11 rlettersG_12) (t22 : conesG_5 = srO (sOne bt rlength rmostBytes gnu lumps 1 gp cones)) (t23 : ccodeCountG_4 + 1 + 2 * cones ≤ ccodeCount + 2 * conesG_5) (t24 : cones < conesG_5) (t25 : rfaultKindG_13 = rfaultKind) (t26 : rfaultPlaceG_14 = rfaultPlace) (j81 : k69 ≤ 20) (j82 : k70 ≤ 40) (j83 : k71 ≤ 20) (j84 : k73 ≤ 940) (j85 : k75 ≤ 940) (j86 : k73 ≤ rlength) (jRT : RT bt rlength rmostBytes z68 x74 k75 k73 x76 x77 w78) (jX : sAnd bt rlength rmostBytes gnu lumps 1 gp cones = sLoop bt rlength rmostBytes 21 (sOne bt rlength rmostBytes gnu lumps 1) 30 z68 k71) (jI : k69 + cones + 1 ≤ k71) (jC : k70 + 1 + 2 * cones ≤ ccodeCount + 2 * k71) (jFk : x79 = rfaultKind) (jFp : x80 = rfaultPlace) (hm90 : 20 - k69 < n88 + 1) (c91 : k69 < 20) (p94 : r93 = x76) (c95 : r93 = nI 21) (p104 : rplaceG_98 ≤ rlength) (p105 : rbeginG_100 ≤ 940) (p106 : RT bt rlength rmostBytes (tT bt rlength rmostBytes z68) rkindG_99 rbeginG_100 rplaceG_98 rwordG_101 rnumberG_102 rlettersG_103) (p122 : ccodeCountG_110 ≤ 40) (p123 : conesG_111 ≤ 20) (p124 : rplaceG_113 ≤ rlength) (p125 : rbeginG_115 ≤ 940) (t133 : isO (sOne bt rlength rmostBytes gnu lumps 1 (tT bt rlength rmostBytes z68) k71) = false) (t134 : rfaultKindG_119 = nI (erA (sOne bt rlength rmostBytes gnu lumps 1 (tT bt rlength rmostBytes z68) k71))) (t135 : rfaultPlaceG_120 = nI (erB (sOne bt rlength rmostBytes gnu lumps 1 (tT bt rlength rmostBytes z68) k71))) (c147 : (k69 + 1) < 20) : ((nI 0) = nI 1 ∧ (isO (sAnd bt rlength rmostBytes gnu lumps 1 gp cones) = true ∧ RT bt rlength rmostBytes (srP (sAnd bt rlength rmostBytes gnu lumps 1 gp cones)) rkindG_114 rbeginG_115 rplaceG_113 rwordG_116 rnumberG_117 rlettersG_118 ∧ conesG_111 = srO (sAnd bt rlength rmostBytes gnu lumps 1 gp cones) ∧ ccodeCountG_110 + 1 + 2 * cones ≤ ccodeCount + 2 * conesG_111 ∧ cones < conesG_111 ∧ rfaultKindG_119 = rfaultKind ∧ rfaultPlaceG_120 = rfaultPlace)) ∨ ((nI 0) = nI 0 ∧ (isO (sAnd bt rlength rmostBytes gnu lumps 1 gp cones) = false ∧ rfaultKindG_119 = nI (erA (sAnd bt rlength rmostBytes gnu lumps 1 gp cones)) ∧ rfaultPlaceG_120 = nI (erB (sAnd bt rlength rmostBytes gnu lumps 1 gp cones)))) := by
  have w9 : tW bt rlength rmostBytes z68 = 21 := (RT_w jRT (by decide)).mp (by
    have kk21 := ia_n 21 (by decide)
    have b_rkind := ia_b rkind
    have b_rword := ia_b rword
    have b_rnumber := ia_b rnumber
    have b_rfaultKind := ia_b rfaultKind
    have b_rfaultPlace := ia_b rfaultPlace
    have b_rkindG_8 := ia_b rkindG_8
    have b_rwordG_10 := ia_b rwordG_10
    have b_rnumberG_11 := ia_b rnumberG_11
    have b_rfaultKindG_13 := ia_b rfaultKindG_13
    have b_rfaultPlaceG_14 := ia_b rfaultPlaceG_14
    have b_x74 := ia_b x74
    have b_x76 := ia_b x76
    have b_x77 := ia_b x77
    have b_x79 := ia_b x79
    have b_x80 := ia_b x80
    have b_r93 := ia_b r93
    have b_rkindG_99 := ia_b rkindG_99
    have b_rwordG_101 := ia_b rwordG_101
    have b_rnumberG_102 := ia_b rnumberG_102
    have b_rkindG_114 := ia_b rkindG_114
    have b_rwordG_116 := ia_b rwordG_116
    have b_rnumberG_117 := ia_b rnumberG_117
    have b_rfaultKindG_119 := ia_b rfaultKindG_119
    have b_rfaultPlaceG_120 := ia_b rfaultPlaceG_120
    have b_rletters := Int64.toInt_lt rletters
    have b_rlettersG_12 := Int64.toInt_lt rlettersG_12
    have b_w78 := Int64.toInt_lt w78
    have b_rlettersG_103 := Int64.toInt_lt rlettersG_103
    have b_rlettersG_118 := Int64.toInt_lt rlettersG_118
    try have k_0 := ia_n 21 (by first | decide | omega)
    try have k_1 := ia_n (erA (sOne bt rlength rmostBytes gnu lumps 1 (tT bt rlength rmostBytes z68) k71)) (by first | decide | omega)
    try have k_2 := ia_n (erB (sOne bt rlength rmostBytes gnu lumps 1 (tT bt rlength rmostBytes z68) k71)) (by first | decide | omega)
    try have k_3 := ia_n 0 (by first | decide | omega)
    try have k_4 := ia_n 1 (by first | decide | omega)
    try have k_5 := ia_n (erA (sAnd bt rlength rmostBytes gnu lumps 1 gp cones)) (by first | decide | omega)
    try have k_6 := ia_n (erB (sAnd bt rlength rmostBytes gnu lumps 1 gp cones)) (by first | decide | omega)
    try simp only [ia_lt, ia_le, ia_eq, ia_m1, ia_0, ia_1, ne_eq, true_and, and_true, false_and, and_false, or_false, false_or, or_true, true_or, not_true_eq_false, not_false_eq_true] at *
    all_goals omega)
  rw [jX, sL_err w9 (by assumption)]
  exact Or.inr ⟨rfl, rfl, ‹_›, ‹_›⟩
set_option maxRecDepth 20000 in
theorem lf_f_snA8_15   : 0 ≤ 20 := by
  try simp only [ia_lt, ia_le, ia_eq, ia_m1, ia_0, ia_1, ne_eq, true_and, and_true, false_and, and_false, or_false, false_or, or_true, true_or, not_true_eq_false, not_false_eq_true] at *
  all_goals omega
set_option maxRecDepth 20000 in
theorem lf_f_snA8_16 (ccodeCount : Nat) (cones : Nat) (bt : Nat → Nat) (rlength : Nat) (rmostBytes : Nat) (rplace : Nat) (rkind : Int32) (rbegin : Nat) (rword : Int32) (rnumber : Int32) (rletters : Int64) (rtapeF : Nat → Int32) (lumps : Nat) (lumpNamesF : Nat → Int64) (gp : Nat) (gnu : Nat → Nat) (ccodeCountG_4 : Nat) (conesG_5 : Nat) (rplaceG_7 : Nat) (rkindG_8 : Int32) (rbeginG_9 : Nat) (rwordG_10 : Int32) (rnumberG_11 : Int32) (rlettersG_12 : Int64) (iv_cse_0 : ccodeCount ≤ 40) (iv_cse_1 : cones ≤ 20) (iv_rreader_0 : rlength ≤ 940) (iv_rreader_1 : rplace ≤ rlength) (iv_rreader_2 : rmostBytes ≤ 900) (iv_rreader_3 : rbegin ≤ 940) (hTC : TC bt rtapeF) (iv_a_4 : lumps ≤ 6) (hRT : RT bt rlength rmostBytes gp rkind rbegin rplace rword rnumber rletters) (hNL : NL gnu 0 lumps lumpNamesF) (hcc : ccodeCount ≤ 2 * cones) (p16 : ccodeCountG_4 ≤ 40) (p17 : conesG_5 ≤ 20) (p18 : rplaceG_7 ≤ rlength) (p19 : rbeginG_9 ≤ 940) (t20 : isO (sOne bt rlength rmostBytes gnu lumps 1 gp cones) = true) (t21 : RT bt rlength rmostBytes (srP (sOne bt rlength rmostBytes gnu lumps 1 gp cones)) rkindG_8 rbeginG_9 rplaceG_7 rwordG_10 rnumberG_11 rlettersG_12) (t22 : conesG_5 = srO (sOne bt rlength rmostBytes gnu lumps 1 gp cones)) (t23 : ccodeCountG_4 + 1 + 2 * cones ≤ ccodeCount + 2 * conesG_5) (t24 : cones < conesG_5) : rplaceG_7 ≤ 940 := by
  have b_rkind := ia_b rkind
  have b_rword := ia_b rword
  have b_rnumber := ia_b rnumber
  have b_rkindG_8 := ia_b rkindG_8
  have b_rwordG_10 := ia_b rwordG_10
  have b_rnumberG_11 := ia_b rnumberG_11
  have b_rletters := Int64.toInt_lt rletters
  have b_rlettersG_12 := Int64.toInt_lt rlettersG_12
  try simp only [ia_lt, ia_le, ia_eq, ia_m1, ia_0, ia_1, ne_eq, true_and, and_true, false_and, and_false, or_false, false_or, or_true, true_or, not_true_eq_false, not_false_eq_true] at *
  all_goals omega
set_option maxRecDepth 20000 in
theorem lf_f_snA8_17 (ccodeCount : Nat) (cones : Nat) (bt : Nat → Nat) (rlength : Nat) (rmostBytes : Nat) (rplace : Nat) (rkind : Int32) (rbegin : Nat) (rword : Int32) (rnumber : Int32) (rletters : Int64) (rtapeF : Nat → Int32) (lumps : Nat) (lumpNamesF : Nat → Int64) (gp : Nat) (gnu : Nat → Nat) (ccodeCountG_4 : Nat) (conesG_5 : Nat) (rplaceG_7 : Nat) (rkindG_8 : Int32) (rbeginG_9 : Nat) (rwordG_10 : Int32) (rnumberG_11 : Int32) (rlettersG_12 : Int64) (iv_cse_0 : ccodeCount ≤ 40) (iv_cse_1 : cones ≤ 20) (iv_rreader_0 : rlength ≤ 940) (iv_rreader_1 : rplace ≤ rlength) (iv_rreader_2 : rmostBytes ≤ 900) (iv_rreader_3 : rbegin ≤ 940) (hTC : TC bt rtapeF) (iv_a_4 : lumps ≤ 6) (hRT : RT bt rlength rmostBytes gp rkind rbegin rplace rword rnumber rletters) (hNL : NL gnu 0 lumps lumpNamesF) (hcc : ccodeCount ≤ 2 * cones) (p16 : ccodeCountG_4 ≤ 40) (p17 : conesG_5 ≤ 20) (p18 : rplaceG_7 ≤ rlength) (p19 : rbeginG_9 ≤ 940) (t20 : isO (sOne bt rlength rmostBytes gnu lumps 1 gp cones) = true) (t21 : RT bt rlength rmostBytes (srP (sOne bt rlength rmostBytes gnu lumps 1 gp cones)) rkindG_8 rbeginG_9 rplaceG_7 rwordG_10 rnumberG_11 rlettersG_12) (t22 : conesG_5 = srO (sOne bt rlength rmostBytes gnu lumps 1 gp cones)) (t23 : ccodeCountG_4 + 1 + 2 * cones ≤ ccodeCount + 2 * conesG_5) (t24 : cones < conesG_5) : sAnd bt rlength rmostBytes gnu lumps 1 gp cones = sLoop bt rlength rmostBytes 21 (sOne bt rlength rmostBytes gnu lumps 1) 30 (srP (sOne bt rlength rmostBytes gnu lumps 1 gp cones)) conesG_5 := by
  unfold sAnd
  have q := sS_ok (B := bt) (n := rlength) (m := rmostBytes) (w := 21) (f := sOne bt rlength rmostBytes gnu lumps 1) (p := gp) (o := cones) (by assumption)
  subst_vars
  exact q
set_option maxRecDepth 20000 in
theorem lf_f_snA8_18 (ccodeCount : Nat) (cones : Nat) (bt : Nat → Nat) (rlength : Nat) (rmostBytes : Nat) (rplace : Nat) (rkind : Int32) (rbegin : Nat) (rword : Int32) (rnumber : Int32) (rletters : Int64) (rtapeF : Nat → Int32) (lumps : Nat) (lumpNamesF : Nat → Int64) (gp : Nat) (gnu : Nat → Nat) (ccodeCountG_4 : Nat) (conesG_5 : Nat) (rplaceG_7 : Nat) (rkindG_8 : Int32) (rbeginG_9 : Nat) (rwordG_10 : Int32) (rnumberG_11 : Int32) (rlettersG_12 : Int64) (iv_cse_0 : ccodeCount ≤ 40) (iv_cse_1 : cones ≤ 20) (iv_rreader_0 : rlength ≤ 940) (iv_rreader_1 : rplace ≤ rlength) (iv_rreader_2 : rmostBytes ≤ 900) (iv_rreader_3 : rbegin ≤ 940) (hTC : TC bt rtapeF) (iv_a_4 : lumps ≤ 6) (hRT : RT bt rlength rmostBytes gp rkind rbegin rplace rword rnumber rletters) (hNL : NL gnu 0 lumps lumpNamesF) (hcc : ccodeCount ≤ 2 * cones) (p16 : ccodeCountG_4 ≤ 40) (p17 : conesG_5 ≤ 20) (p18 : rplaceG_7 ≤ rlength) (p19 : rbeginG_9 ≤ 940) (t20 : isO (sOne bt rlength rmostBytes gnu lumps 1 gp cones) = true) (t21 : RT bt rlength rmostBytes (srP (sOne bt rlength rmostBytes gnu lumps 1 gp cones)) rkindG_8 rbeginG_9 rplaceG_7 rwordG_10 rnumberG_11 rlettersG_12) (t22 : conesG_5 = srO (sOne bt rlength rmostBytes gnu lumps 1 gp cones)) (t23 : ccodeCountG_4 + 1 + 2 * cones ≤ ccodeCount + 2 * conesG_5) (t24 : cones < conesG_5) : 0 + cones + 1 ≤ conesG_5 := by
  have b_rkind := ia_b rkind
  have b_rword := ia_b rword
  have b_rnumber := ia_b rnumber
  have b_rkindG_8 := ia_b rkindG_8
  have b_rwordG_10 := ia_b rwordG_10
  have b_rnumberG_11 := ia_b rnumberG_11
  have b_rletters := Int64.toInt_lt rletters
  have b_rlettersG_12 := Int64.toInt_lt rlettersG_12
  try simp only [ia_lt, ia_le, ia_eq, ia_m1, ia_0, ia_1, ne_eq, true_and, and_true, false_and, and_false, or_false, false_or, or_true, true_or, not_true_eq_false, not_false_eq_true] at *
  all_goals omega
set_option maxRecDepth 20000 in
theorem lf_f_snA8_19 (ccodeCount : Nat) (cones : Nat) (bt : Nat → Nat) (rlength : Nat) (rmostBytes : Nat) (rplace : Nat) (rkind : Int32) (rbegin : Nat) (rword : Int32) (rnumber : Int32) (rletters : Int64) (rfaultKind : Int32) (rfaultPlace : Int32) (rtapeF : Nat → Int32) (lumps : Nat) (lumpNamesF : Nat → Int64) (gp : Nat) (gnu : Nat → Nat) (ccodeCountG_4 : Nat) (conesG_5 : Nat) (rplaceG_7 : Nat) (rkindG_8 : Int32) (rbeginG_9 : Nat) (rwordG_10 : Int32) (rnumberG_11 : Int32) (rlettersG_12 : Int64) (rfaultKindG_13 : Int32) (rfaultPlaceG_14 : Int32) (iv_cse_0 : ccodeCount ≤ 40) (iv_cse_1 : cones ≤ 20) (iv_rreader_0 : rlength ≤ 940) (iv_rreader_1 : rplace ≤ rlength) (iv_rreader_2 : rmostBytes ≤ 900) (iv_rreader_3 : rbegin ≤ 940) (hTC : TC bt rtapeF) (iv_a_4 : lumps ≤ 6) (hRT : RT bt rlength rmostBytes gp rkind rbegin rplace rword rnumber rletters) (hNL : NL gnu 0 lumps lumpNamesF) (hcc : ccodeCount ≤ 2 * cones) (p16 : ccodeCountG_4 ≤ 40) (p17 : conesG_5 ≤ 20) (p18 : rplaceG_7 ≤ rlength) (p19 : rbeginG_9 ≤ 940) (t27 : isO (sOne bt rlength rmostBytes gnu lumps 1 gp cones) = false) (t28 : rfaultKindG_13 = nI (erA (sOne bt rlength rmostBytes gnu lumps 1 gp cones))) (t29 : rfaultPlaceG_14 = nI (erB (sOne bt rlength rmostBytes gnu lumps 1 gp cones))) : ((nI 0) = nI 1 ∧ (isO (sAnd bt rlength rmostBytes gnu lumps 1 gp cones) = true ∧ RT bt rlength rmostBytes (srP (sAnd bt rlength rmostBytes gnu lumps 1 gp cones)) rkindG_8 rbeginG_9 rplaceG_7 rwordG_10 rnumberG_11 rlettersG_12 ∧ conesG_5 = srO (sAnd bt rlength rmostBytes gnu lumps 1 gp cones) ∧ ccodeCountG_4 + 1 + 2 * cones ≤ ccodeCount + 2 * conesG_5 ∧ cones < conesG_5 ∧ rfaultKindG_13 = rfaultKind ∧ rfaultPlaceG_14 = rfaultPlace)) ∨ ((nI 0) = nI 0 ∧ (isO (sAnd bt rlength rmostBytes gnu lumps 1 gp cones) = false ∧ rfaultKindG_13 = nI (erA (sAnd bt rlength rmostBytes gnu lumps 1 gp cones)) ∧ rfaultPlaceG_14 = nI (erB (sAnd bt rlength rmostBytes gnu lumps 1 gp cones)))) := by
  unfold sAnd
  rw [sS_err (by assumption)]
  exact Or.inr ⟨rfl, rfl, ‹_›, ‹_›⟩
set_option maxHeartbeats 4000000 in
set_option maxRecDepth 100000 in
theorem c_f_snA8 (l : Launch) (dC : Nat → ClassId) (dI : Nat → Nat → Nat) (ky : Nat → ClassId) (sz : Nat) (adK : Nat → Nat) (adV : Nat → Nat) (se : Nat) (ccodes : Nat) (ccodeCount : Nat) (cones : Nat) (ccodesF : Nat → Int32) (bt : Nat → Nat) (reader : Nat) (rtape : Nat) (rlength : Nat) (rmostBytes : Nat) (rplace : Nat) (rkind : Int32) (rbegin : Nat) (rword : Int32) (rnumber : Int32) (rletters : Int64) (rfaultKind : Int32) (rfaultPlace : Int32) (rtapeF : Nat → Int32) (a : Nat) (wide : Nat) (high : Nat) (heat : Int32) (cools : Int32) (skinHeat : Int32) (today : Int32) (stirs : Int32) (steps : Int32) (lumps : Nat) (boats : Nat) (thickness : Nat) (lumpNames : Nat) (lumpCells : Nat) (boatNames : Nat) (boatCells : Nat) (loads : Nat) (spoons : Nat) (spoonsLeft : Nat) (depths : Nat) (lumpNamesF : Nat → Int64) (gp : Nat) (gnu : Nat → Nat) (iv_cse_0 : ccodeCount ≤ 40) (iv_cse_1 : cones ≤ 20) (iv_rreader_0 : rlength ≤ 940) (iv_rreader_1 : rplace ≤ rlength) (iv_rreader_2 : rmostBytes ≤ 900) (iv_rreader_3 : rbegin ≤ 940) (hTC : TC bt rtapeF) (iv_a_0 : 2 ≤ wide) (iv_a_1 : wide ≤ 6) (iv_a_2 : 2 ≤ high) (iv_a_3 : high ≤ 6) (iv_a_4 : lumps ≤ 6) (iv_a_5 : boats ≤ 6) (hRT : RT bt rlength rmostBytes gp rkind rbegin rplace rword rnumber rletters) (hNL : NL gnu 0 lumps lumpNamesF) (hcc : ccodeCount ≤ 2 * cones) : Met l yX9_readAll wsX9_readAll ({ frames := 9, cells := 0, slots := 0, locals := 203 }) (PcUE dC dI ky adK adV [.ref se, .ref reader, .ref a, .int (nI 8)] [(se, .inr (9, [.ref ccodes, .int (nI ccodeCount), .int (nI cones)])), (ccodes, .inl (ky 0, 40, .inl ccodesF)), (reader, .inr (5, [.ref rtape, .int (nI rlength), .int (nI rmostBytes), .int (nI rplace), .int rkind, .int (nI rbegin), .int rword, .int rnumber, .long rletters, .int rfaultKind, .int rfaultPlace])), (rtape, .inl (ky 2, 940, .inl rtapeF)), (a, .inr (7, [.int (nI wide), .int (nI high), .int heat, .int cools, .int skinHeat, .int today, .int stirs, .int steps, .int (nI lumps), .int (nI boats), .ref thickness, .ref lumpNames, .ref lumpCells, .ref boatNames, .ref boatCells, .ref loads, .ref spoons, .ref spoonsLeft, .ref depths])), (lumpNames, .inl (ky 1, 6, .inr (.inl lumpNamesF)))] sz) (va_Qi (fun (r : Int32) (u : Nat × Nat × (Nat → Int32) × Nat × Int32 × Nat × Int32 × Int32 × Int64 × Int32 × Int32) => match u with | (ccodeCountG, conesG, ccodesG, rplaceG, rkindG, rbeginG, rwordG, rnumberG, rlettersG, rfaultKindG, rfaultPlaceG) => ((r = nI 1 ∧ (isO (sAnd bt rlength rmostBytes gnu lumps 1 gp cones) = true ∧ RT bt rlength rmostBytes (srP (sAnd bt rlength rmostBytes gnu lumps 1 gp cones)) rkindG rbeginG rplaceG rwordG rnumberG rlettersG ∧ conesG = srO (sAnd bt rlength rmostBytes gnu lumps 1 gp cones) ∧ ccodeCountG + 1 + 2 * cones ≤ ccodeCount + 2 * conesG ∧ cones < conesG ∧ rfaultKindG = rfaultKind ∧ rfaultPlaceG = rfaultPlace)) ∨ (r = nI 0 ∧ (isO (sAnd bt rlength rmostBytes gnu lumps 1 gp cones) = false ∧ rfaultKindG = nI (erA (sAnd bt rlength rmostBytes gnu lumps 1 gp cones)) ∧ rfaultPlaceG = nI (erB (sAnd bt rlength rmostBytes gnu lumps 1 gp cones))))) ∧ (ccodeCountG ≤ 40) ∧ (conesG ≤ 20) ∧ (rplaceG ≤ rlength) ∧ (rbeginG ≤ 940)) (BU dC dI ky (fun (u : Nat × Nat × (Nat → Int32) × Nat × Int32 × Nat × Int32 × Int32 × Int64 × Int32 × Int32) => match u with | (ccodeCountG, conesG, ccodesG, rplaceG, rkindG, rbeginG, rwordG, rnumberG, rlettersG, rfaultKindG, rfaultPlaceG) => [(se, .inr (9, [.ref ccodes, .int (nI ccodeCountG), .int (nI conesG)])), (ccodes, .inl (ky 0, 40, .inl ccodesG)), (reader, .inr (5, [.ref rtape, .int (nI rlength), .int (nI rmostBytes), .int (nI rplaceG), .int rkindG, .int (nI rbeginG), .int rwordG, .int rnumberG, .long rlettersG, .int rfaultKindG, .int rfaultPlaceG])), (rtape, .inl (ky 2, 940, .inl rtapeF)), (a, .inr (7, [.int (nI wide), .int (nI high), .int heat, .int cools, .int skinHeat, .int today, .int stirs, .int steps, .int (nI lumps), .int (nI boats), .ref thickness, .ref lumpNames, .ref lumpCells, .ref boatNames, .ref boatCells, .ref loads, .ref spoons, .ref spoonsLeft, .ref depths])), (lumpNames, .inl (ky 1, 6, .inr (.inl lumpNamesF)))]) (va_A [(se, .inr (9, [.ref ccodes, .int (nI ccodeCount), .int (nI cones)])), (ccodes, .inl (ky 0, 40, .inl ccodesF)), (reader, .inr (5, [.ref rtape, .int (nI rlength), .int (nI rmostBytes), .int (nI rplace), .int rkind, .int (nI rbegin), .int rword, .int rnumber, .long rletters, .int rfaultKind, .int rfaultPlace])), (rtape, .inl (ky 2, 940, .inl rtapeF)), (a, .inr (7, [.int (nI wide), .int (nI high), .int heat, .int cools, .int skinHeat, .int today, .int stirs, .int steps, .int (nI lumps), .int (nI boats), .ref thickness, .ref lumpNames, .ref lumpCells, .ref boatNames, .ref boatCells, .ref loads, .ref spoons, .ref spoonsLeft, .ref depths])), (lumpNames, .inl (ky 1, 6, .inr (.inl lumpNamesF)))] sz)) (va_A [(se, .inr (9, [.ref ccodes, .int (nI ccodeCount), .int (nI cones)])), (ccodes, .inl (ky 0, 40, .inl ccodesF)), (reader, .inr (5, [.ref rtape, .int (nI rlength), .int (nI rmostBytes), .int (nI rplace), .int rkind, .int (nI rbegin), .int rword, .int rnumber, .long rletters, .int rfaultKind, .int rfaultPlace])), (rtape, .inl (ky 2, 940, .inl rtapeF)), (a, .inr (7, [.int (nI wide), .int (nI high), .int heat, .int cools, .int skinHeat, .int today, .int stirs, .int steps, .int (nI lumps), .int (nI boats), .ref thickness, .ref lumpNames, .ref lumpCells, .ref boatNames, .ref boatCells, .ref loads, .ref spoons, .ref spoonsLeft, .ref depths])), (lumpNames, .inl (ky 1, 6, .inr (.inl lumpNamesF)))] sz)) 0 0 (va_A [(se, .inr (9, [.ref ccodes, .int (nI ccodeCount), .int (nI cones)])), (ccodes, .inl (ky 0, 40, .inl ccodesF)), (reader, .inr (5, [.ref rtape, .int (nI rlength), .int (nI rmostBytes), .int (nI rplace), .int rkind, .int (nI rbegin), .int rword, .int rnumber, .long rletters, .int rfaultKind, .int rfaultPlace])), (rtape, .inl (ky 2, 940, .inl rtapeF)), (a, .inr (7, [.int (nI wide), .int (nI high), .int heat, .int cools, .int skinHeat, .int today, .int stirs, .int steps, .int (nI lumps), .int (nI boats), .ref thickness, .ref lumpNames, .ref lumpCells, .ref boatNames, .ref boatCells, .ref loads, .ref spoons, .ref spoonsLeft, .ref depths])), (lumpNames, .inl (ky 1, 6, .inr (.inl lumpNamesF)))] sz) := by
  refine Met.ofW (cc := cX9_readAll) (maxL := 6) (ret := (some .boolean)) (by decide) rfl ?_
  intro p e s m args below meth c s₁ B hml hv
  obtain ⟨rfl, hsz, hP, hK, hD0, hE⟩ := hv
  have hx := B.exec
  have hb := B.bytes
  have hr := B.returns
  have hts := atoms_spec (ws := wsX9_readAll) B.pre
  have hown : s.vm.findClass RX9 = some m.cls := findClass_of_methodNamed B.named
  have hlocks := B.notSynchronized
  subst hsz
  have hD := hD0.self (sz := s.heap.size)
  generalize hAe : va_A [(se, .inr (9, [.ref ccodes, .int (nI ccodeCount), .int (nI cones)])), (ccodes, .inl (ky 0, 40, .inl ccodesF)), (reader, .inr (5, [.ref rtape, .int (nI rlength), .int (nI rmostBytes), .int (nI rplace), .int rkind, .int (nI rbegin), .int rword, .int rnumber, .long rletters, .int rfaultKind, .int rfaultPlace])), (rtape, .inl (ky 2, 940, .inl rtapeF)), (a, .inr (7, [.int (nI wide), .int (nI high), .int heat, .int cools, .int skinHeat, .int today, .int stirs, .int steps, .int (nI lumps), .int (nI boats), .ref thickness, .ref lumpNames, .ref lumpCells, .ref boatNames, .ref boatCells, .ref loads, .ref spoons, .ref spoonsLeft, .ref depths])), (lumpNames, .inl (ky 1, 6, .inr (.inl lumpNamesF)))] s.heap.size = A at hD hE ⊢
  have hA : ∀ q : Nat, s.heap.size ≤ q → A q := fun q h => by rw [← hAe]; exact Or.inr h
  have hS : va_S A s.heap s.heap [] := va_S.rf
  have hl := lv_entry ([.ref se, .ref reader, .ref a, .int (nI 8)]) (n := 6) (Nat.le_of_ble_eq_true rfl)
  rw [lg_entry_eq]
  generalize (lg_sl ([.ref se, .ref reader, .ref a, .int (nI 8)]) ++ List.replicate (6 - (lg_sl ([.ref se, .ref reader, .ref a, .int (nI 8)])).length) Slot.unset).toArray = ls at hl ⊢
  have hl : lv_has ls 6 [(0, .ref se), (1, .ref reader), (2, .ref a), (3, .int (nI 8))] := hl
  refine q_name (fun Q hQ => ?_)
  generalize ([.ref se, .ref reader, .ref a, .int (nI 8)] : List Value).toArray = args at hts hQ ⊢
  refine lv_aload_n hx hb dX9_readAll_0 rfl (lv_at hl 0 rfl) ?_
  refine lv_aload_n hx hb dX9_readAll_1 rfl (lv_at hl 1 rfl) ?_
  refine lv_aload_n hx hb dX9_readAll_2 rfl (lv_at hl 2 rfl) ?_
  refine lv_iload_n hx hb dX9_readAll_3 rfl (lv_at hl 3 rfl) ?_
  refine r_call_i (wr := []) (va_runV (As := [.ref reader, .ref a, .int (nI 8)]) (rest := []) ⟨hx, hb, hml, hown, hts⟩ (c_f_sn18 l dC dI ky s.heap.size adK adV se ccodes ccodeCount cones ccodesF bt reader rtape rlength rmostBytes rplace rkind rbegin rword rnumber rletters rfaultKind rfaultPlace rtapeF a wide high heat cools skinHeat today stirs steps lumps boats thickness lumpNames lumpCells boatNames boatCells loads spoons spoonsLeft depths lumpNamesF gp gnu iv_cse_0 iv_cse_1 iv_rreader_0 iv_rreader_1 iv_rreader_2 iv_rreader_3 hTC iv_a_0 iv_a_1 iv_a_2 iv_a_3 iv_a_4 iv_a_5 hRT hNL hcc) (cwV 3 hts gX9_readAll_X9_readOne rfl rfl rfl (by decide +kernel) ⟨(Nat.le_of_ble_eq_true rfl), (Nat.le_of_ble_eq_true rfl)⟩) (pre_UEV hE hS hA hK hP hD [0, 1, 2, 3, 4, 5] (by decide) rfl (va_recv hK hP (ci := 9) (q0 := 0) rfl rfl)) rfl rfl hl.1 rfl (lv_room (Nat.le_of_ble_eq_true rfl)) dX9_readAll_4 ⟨(Nat.le_of_ble_eq_true rfl), (Nat.le_of_ble_eq_true rfl)⟩) hP hD hS hA [0, 1, 2, 3, 4, 5] [] rfl rfl (by decide) (by decide) (fun r3 u1 H locs p2 hP hD hS => ?_)
  obtain ⟨ccodeCountG_4, conesG_5, ccodesG_6, rplaceG_7, rkindG_8, rbeginG_9, rwordG_10, rnumberG_11, rlettersG_12, rfaultKindG_13, rfaultPlaceG_14⟩ := u1
  try dsimp only at p2
  obtain ⟨p15, p16, p17, p18, p19⟩ := p2
  refine W.widen (k := 0) (n := 0) (Nat.le_of_ble_eq_true rfl) (Nat.le_of_ble_eq_true rfl) ?_
  have hP : va_P (dC, dI) vwCl [(se, .inr (9, [.ref ccodes, .int (nI ccodeCountG_4), .int (nI conesG_5)])), (ccodes, .inl (ky 0, 40, .inl ccodesG_6)), (reader, .inr (5, [.ref rtape, .int (nI rlength), .int (nI rmostBytes), .int (nI rplaceG_7), .int rkindG_8, .int (nI rbeginG_9), .int rwordG_10, .int rnumberG_11, .long rlettersG_12, .int rfaultKindG_13, .int rfaultPlaceG_14])), (rtape, .inl (ky 2, 940, .inl rtapeF)), (a, .inr (7, [.int (nI wide), .int (nI high), .int heat, .int cools, .int skinHeat, .int today, .int stirs, .int steps, .int (nI lumps), .int (nI boats), .ref thickness, .ref lumpNames, .ref lumpCells, .ref boatNames, .ref boatCells, .ref loads, .ref spoons, .ref spoonsLeft, .ref depths])), (lumpNames, .inl (ky 1, 6, .inr (.inl lumpNamesF)))] H := hP
  have hD : va_D A [(se, .inr (9, [.ref ccodes, .int (nI ccodeCountG_4), .int (nI conesG_5)])), (ccodes, .inl (ky 0, 40, .inl ccodesG_6)), (reader, .inr (5, [.ref rtape, .int (nI rlength), .int (nI rmostBytes), .int (nI rplaceG_7), .int rkindG_8, .int (nI rbeginG_9), .int rwordG_10, .int rnumberG_11, .long rlettersG_12, .int rfaultKindG_13, .int rfaultPlaceG_14])), (rtape, .inl (ky 2, 940, .inl rtapeF)), (a, .inr (7, [.int (nI wide), .int (nI high), .int heat, .int cools, .int skinHeat, .int today, .int stirs, .int steps, .int (nI lumps), .int (nI boats), .ref thickness, .ref lumpNames, .ref lumpCells, .ref boatNames, .ref boatCells, .ref loads, .ref spoons, .ref spoonsLeft, .ref depths])), (lumpNames, .inl (ky 1, 6, .inr (.inl lumpNamesF)))] := hD
  rcases p15 with ⟨rfl, t20, t21, t22, t23, t24, t25, t26⟩ | ⟨rfl, t27, t28, t29⟩
  · refine lv_istore (lv' := [(4, .int (nI 1)), (0, .ref se), (1, .ref reader), (2, .ref a), (3, .int (nI 8))]) hx hb dX9_readAll_7 hl (by decide) rfl (fun ls hl => ?_)
    refine lv_iconst (v := nI 0) hx hb dX9_readAll_9 (by decide) ?_
    refine lv_istore (lv' := [(5, .int (nI 0)), (4, .int (nI 1)), (0, .ref se), (1, .ref reader), (2, .ref a), (3, .int (nI 8))]) hx hb dX9_readAll_10 hl (by decide) rfl (fun ls hl => ?_)
    have hL87 : ∀ (n88 : Nat) (k69 : Nat) (k70 : Nat) (k71 : Nat) (f72 : Nat → Int32) (k73 : Nat) (x74 : Int32) (k75 : Nat) (x76 : Int32) (x77 : Int32) (w78 : Int64) (x79 : Int32) (x80 : Int32) (z68 : Nat), (k69 ≤ 20) → (k70 ≤ 40) → (k71 ≤ 20) → (k73 ≤ 940) → (k75 ≤ 940) → (k73 ≤ rlength) → (RT bt rlength rmostBytes z68 x74 k75 k73 x76 x77 w78) → (sAnd bt rlength rmostBytes gnu lumps 1 gp cones = sLoop bt rlength rmostBytes 21 (sOne bt rlength rmostBytes gnu lumps 1) 30 z68 k71) → (k69 + cones + 1 ≤ k71) → (k70 + 1 + 2 * cones ≤ ccodeCount + 2 * k71) → (x79 = rfaultKind) → (x80 = rfaultPlace) → 20 - k69 < n88 → ∀ (H : Heap) (locs : List Loc) (ls : Array Slot), va_P (dC, dI) vwCl [(se, .inr (9, [.ref ccodes, .int (nI k70), .int (nI k71)])), (ccodes, .inl (ky 0, 40, .inl f72)), (reader, .inr (5, [.ref rtape, .int (nI rlength), .int (nI rmostBytes), .int (nI k73), .int x74, .int (nI k75), .int x76, .int x77, .long w78, .int x79, .int x80])), (rtape, .inl (ky 2, 940, .inl rtapeF)), (a, .inr (7, [.int (nI wide), .int (nI high), .int heat, .int cools, .int skinHeat, .int today, .int stirs, .int steps, .int (nI lumps), .int (nI boats), .ref thickness, .ref lumpNames, .ref lumpCells, .ref boatNames, .ref boatCells, .ref loads, .ref spoons, .ref spoonsLeft, .ref depths])), (lumpNames, .inl (ky 1, 6, .inr (.inl lumpNamesF)))] H → va_D A [(se, .inr (9, [.ref ccodes, .int (nI k70), .int (nI k71)])), (ccodes, .inl (ky 0, 40, .inl f72)), (reader, .inr (5, [.ref rtape, .int (nI rlength), .int (nI rmostBytes), .int (nI k73), .int x74, .int (nI k75), .int x76, .int x77, .long w78, .int x79, .int x80])), (rtape, .inl (ky 2, 940, .inl rtapeF)), (a, .inr (7, [.int (nI wide), .int (nI high), .int heat, .int cools, .int skinHeat, .int today, .int stirs, .int steps, .int (nI lumps), .int (nI boats), .ref thickness, .ref lumpNames, .ref lumpCells, .ref boatNames, .ref boatCells, .ref loads, .ref spoons, .ref spoonsLeft, .ref depths])), (lumpNames, .inl (ky 1, 6, .inr (.inl lumpNamesF)))] → va_S A s.heap H locs → lv_has ls 6 [(5, .int (nI k69)), (4, .int (nI 1)), (0, .ref se), (1, .ref reader), (2, .ref a), (3, .int (nI 8))] → W p l e (headSpec wsX9_readAll ({ frames := 9, cells := 0, slots := 0, locals := 203 })).room s m args below meth c H locs 0 0 Q (F0 m 12 ls []) := by
      intro n88
      induction n88 with
      | zero => intro k69 k70 k71 f72 k73 x74 k75 x76 x77 w78 x79 x80 z68 _ _ _ _ _ _ _ _ _ _ _ _ h9; exact absurd h9 (Nat.not_lt_zero _)
      | succ n88 ih89 =>
        intro k69 k70 k71 f72 k73 x74 k75 x76 x77 w78 x79 x80 z68 j81 j82 j83 j84 j85 j86 jRT jX jI jC jFk jFp hm90 H locs ls hP hD hS hl
        refine lv_iload hx hb dX9_readAll_12 (lv_at hl 0 rfl) ?_
        refine lv_bipush (v := nI 20) hx hb dX9_readAll_14 (by decide) ?_
        refine n_icmp_ge (x := k69) (y := 20) (tgt := 69) hx hb (by omega) (by omega) dX9_readAll_16 (by decide) (fun c91 => ?_) (fun c91 => ?_)
        · refine lv_iload hx hb dX9_readAll_69 (lv_at hl 1 rfl) ?_
          rw [hQ]
          exact W.zret (v := nI 1) hx hb hr (by decide) (fun t9 ht9 hW9 => ⟨⟨nI 1, (k70, k71, f72, k73, x74, k75, x76, x77, w78, x79, x80), rfl, ⟨(lf_f_snA8_1 ccodeCount cones bt rlength rmostBytes rplace rkind rbegin rword rnumber rletters rfaultKind rfaultPlace rtapeF lumps lumpNamesF gp gnu ccodeCountG_4 conesG_5 rplaceG_7 rkindG_8 rbeginG_9 rwordG_10 rnumberG_11 rlettersG_12 rfaultKindG_13 rfaultPlaceG_14 k69 k70 k71 k73 x74 k75 x76 x77 w78 x79 x80 z68 n88 iv_cse_0 iv_cse_1 iv_rreader_0 iv_rreader_1 iv_rreader_2 iv_rreader_3 hTC iv_a_4 hRT hNL hcc p16 p17 p18 p19 t20 t21 t22 t23 t24 t25 t26 j81 j82 j83 j84 j85 j86 jRT jX jI jC jFk jFp hm90 c91), j82, j83, j86, j85⟩, by rw [ht9]; exact hP, va_K.moved hW9.alike hK, hD⟩, hS.F ht9⟩) hS.2.2 dX9_readAll_71
        · refine lv_iload hx hb dX9_readAll_19 (lv_at hl 1 rfl) ?_
          refine lv_if_eq (tgt := 69) hx hb dX9_readAll_21 (by decide) (fun c92 => absurd c92 (by decide)) (fun c92 => ?_)
          refine lv_aload_n hx hb dX9_readAll_24 rfl (lv_at hl 3 rfl) ?_
          refine vp_callSi (W.runV (As := []) (rest := []) ⟨hx, hb, hml, hown, hts⟩ (c_f_nextWord l dC dI ky reader rtape rlength rmostBytes k73 x74 k75 x76 x77 w78 x79 x80 iv_rreader_0 j86 iv_rreader_2 j85) (cwV 0 hts gX9_readAll_X5_nextWord rfl rfl rfl (by decide +kernel) ⟨(Nat.le_of_ble_eq_true rfl), (Nat.le_of_ble_eq_true rfl)⟩) (pre_PV hK hP [2] rfl (ci := 5) (q0 := 2) rfl rfl) rfl rfl hl.1 rfl (lv_room (Nat.le_of_ble_eq_true rfl)) dX9_readAll_25 ⟨(Nat.le_of_ble_eq_true rfl), (Nat.le_of_ble_eq_true rfl)⟩) (fun r93 p94 => ?_)
          refine lv_bipush (v := nI 21) hx hb dX9_readAll_28 (by decide) ?_
          refine lv_icmp_ne (tgt := 69) hx hb dX9_readAll_30 (by decide) (fun c95 => ?_) (fun c95 => ?_)
          · refine lv_iload hx hb dX9_readAll_69 (lv_at hl 1 rfl) ?_
            rw [hQ]
            exact W.zret (v := nI 1) hx hb hr (by decide) (fun t9 ht9 hW9 => ⟨⟨nI 1, (k70, k71, f72, k73, x74, k75, x76, x77, w78, x79, x80), rfl, ⟨(lf_f_snA8_2 ccodeCount cones bt rlength rmostBytes rplace rkind rbegin rword rnumber rletters rfaultKind rfaultPlace rtapeF lumps lumpNamesF gp gnu ccodeCountG_4 conesG_5 rplaceG_7 rkindG_8 rbeginG_9 rwordG_10 rnumberG_11 rlettersG_12 rfaultKindG_13 rfaultPlaceG_14 k69 k70 k71 k73 x74 k75 x76 x77 w78 x79 x80 z68 n88 r93 iv_cse_0 iv_cse_1 iv_rreader_0 iv_rreader_1 iv_rreader_2 iv_rreader_3 hTC iv_a_4 hRT hNL hcc p16 p17 p18 p19 t20 t21 t22 t23 t24 t25 t26 j81 j82 j83 j84 j85 j86 jRT jX jI jC jFk jFp hm90 c91 p94 c95), j82, j83, j86, j85⟩, by rw [ht9]; exact hP, va_K.moved hW9.alike hK, hD⟩, hS.F ht9⟩) hS.2.2 dX9_readAll_71
          · refine lv_aload_n hx hb dX9_readAll_33 rfl (lv_at hl 3 rfl) ?_
            refine r_call_v (wr := [(se, .inr (9, [.ref ccodes, .int (nI k70), .int (nI k71)])), (ccodes, .inl (ky 0, 40, .inl f72)), (a, .inr (7, [.int (nI wide), .int (nI high), .int heat, .int cools, .int skinHeat, .int today, .int stirs, .int steps, .int (nI lumps), .int (nI boats), .ref thickness, .ref lumpNames, .ref lumpCells, .ref boatNames, .ref boatCells, .ref loads, .ref spoons, .ref spoonsLeft, .ref depths])), (lumpNames, .inl (ky 1, 6, .inr (.inl lumpNamesF)))]) (va_runV (As := []) (rest := []) ⟨hx, hb, hml, hown, hts⟩ (c_f_adv l dC dI ky H.size adK adV bt reader rtape rlength rmostBytes k73 x74 k75 x76 x77 w78 x79 x80 rtapeF (tT bt rlength rmostBytes z68) iv_rreader_0 j86 iv_rreader_2 j85 hTC jRT.2.2.1) (cwV 0 hts gX9_readAll_X5_advance rfl rfl rfl (by decide +kernel) ⟨(Nat.le_of_ble_eq_true rfl), (Nat.le_of_ble_eq_true rfl)⟩) (pre_UEV hE hS hA hK hP hD [2, 3] (by decide) rfl (va_recv hK hP (ci := 5) (q0 := 2) rfl rfl)) rfl rfl hl.1 rfl (lv_room (Nat.le_of_ble_eq_true rfl)) dX9_readAll_34 ⟨(Nat.le_of_ble_eq_true rfl), (Nat.le_of_ble_eq_true rfl)⟩) hP hD hS hA [2, 3] [0, 1, 4, 5] rfl rfl (by decide) (by decide) (fun  u96 H locs p97 hP hD hS => ?_)
            obtain ⟨rplaceG_98, rkindG_99, rbeginG_100, rwordG_101, rnumberG_102, rlettersG_103⟩ := u96
            try dsimp only at p97
            obtain ⟨p104, p105, p106⟩ := p97
            refine W.widen (k := 0) (n := 0) (Nat.le_of_ble_eq_true rfl) (Nat.le_of_ble_eq_true rfl) ?_
            have hP : va_P (dC, dI) vwCl [(se, .inr (9, [.ref ccodes, .int (nI k70), .int (nI k71)])), (ccodes, .inl (ky 0, 40, .inl f72)), (a, .inr (7, [.int (nI wide), .int (nI high), .int heat, .int cools, .int skinHeat, .int today, .int stirs, .int steps, .int (nI lumps), .int (nI boats), .ref thickness, .ref lumpNames, .ref lumpCells, .ref boatNames, .ref boatCells, .ref loads, .ref spoons, .ref spoonsLeft, .ref depths])), (lumpNames, .inl (ky 1, 6, .inr (.inl lumpNamesF))), (reader, .inr (5, [.ref rtape, .int (nI rlength), .int (nI rmostBytes), .int (nI rplaceG_98), .int rkindG_99, .int (nI rbeginG_100), .int rwordG_101, .int rnumberG_102, .long rlettersG_103, .int x79, .int x80])), (rtape, .inl (ky 2, 940, .inl rtapeF))] H := hP
            have hD : va_D A [(se, .inr (9, [.ref ccodes, .int (nI k70), .int (nI k71)])), (ccodes, .inl (ky 0, 40, .inl f72)), (a, .inr (7, [.int (nI wide), .int (nI high), .int heat, .int cools, .int skinHeat, .int today, .int stirs, .int steps, .int (nI lumps), .int (nI boats), .ref thickness, .ref lumpNames, .ref lumpCells, .ref boatNames, .ref boatCells, .ref loads, .ref spoons, .ref spoonsLeft, .ref depths])), (lumpNames, .inl (ky 1, 6, .inr (.inl lumpNamesF))), (reader, .inr (5, [.ref rtape, .int (nI rlength), .int (nI rmostBytes), .int (nI rplaceG_98), .int rkindG_99, .int (nI rbeginG_100), .int rwordG_101, .int rnumberG_102, .long rlettersG_103, .int x79, .int x80])), (rtape, .inl (ky 2, 940, .inl rtapeF))] := hD
            refine lv_aload_n hx hb dX9_readAll_37 rfl (lv_at hl 2 rfl) ?_
            refine lv_aload_n hx hb dX9_readAll_38 rfl (lv_at hl 3 rfl) ?_
            refine lv_aload_n hx hb dX9_readAll_39 rfl (lv_at hl 4 rfl) ?_
            refine lv_iload_n hx hb dX9_readAll_40 rfl (lv_at hl 5 rfl) ?_
            refine r_call_i (wr := []) (va_runV (As := [.ref reader, .ref a, .int (nI 8)]) (rest := []) ⟨hx, hb, hml, hown, hts⟩ (c_f_sn18 l dC dI ky H.size adK adV se ccodes k70 k71 f72 bt reader rtape rlength rmostBytes rplaceG_98 rkindG_99 rbeginG_100 rwordG_101 rnumberG_102 rlettersG_103 x79 x80 rtapeF a wide high heat cools skinHeat today stirs steps lumps boats thickness lumpNames lumpCells boatNames boatCells loads spoons spoonsLeft depths lumpNamesF (tT bt rlength rmostBytes z68) gnu j82 j83 iv_rreader_0 p104 iv_rreader_2 p105 hTC iv_a_0 iv_a_1 iv_a_2 iv_a_3 iv_a_4 iv_a_5 p106 hNL (lf_f_snA8_3 ccodeCount cones bt rlength rmostBytes rplace rkind rbegin rword rnumber rletters rtapeF lumps lumpNamesF gp gnu ccodeCountG_4 conesG_5 rplaceG_7 rkindG_8 rbeginG_9 rwordG_10 rnumberG_11 rlettersG_12 k69 k70 k71 k73 x74 k75 x76 x77 w78 z68 n88 r93 rplaceG_98 rkindG_99 rbeginG_100 rwordG_101 rnumberG_102 rlettersG_103 iv_cse_0 iv_cse_1 iv_rreader_0 iv_rreader_1 iv_rreader_2 iv_rreader_3 hTC iv_a_4 hRT hNL hcc p16 p17 p18 p19 t20 t21 t22 t23 t24 j81 j82 j83 j84 j85 j86 jRT jX jI jC hm90 c91 p94 c95 p104 p105 p106)) (cwV 3 hts gX9_readAll_X9_readOne rfl rfl rfl (by decide +kernel) ⟨(Nat.le_of_ble_eq_true rfl), (Nat.le_of_ble_eq_true rfl)⟩) (pre_UEV hE hS hA hK hP hD [0, 1, 4, 5, 2, 3] (by decide) rfl (va_recv hK hP (ci := 9) (q0 := 0) rfl rfl)) rfl rfl hl.1 rfl (lv_room (Nat.le_of_ble_eq_true rfl)) dX9_readAll_41 ⟨(Nat.le_of_ble_eq_true rfl), (Nat.le_of_ble_eq_true rfl)⟩) hP hD hS hA [0, 1, 4, 5, 2, 3] [] rfl rfl (by decide) (by decide) (fun r109 u107 H locs p108 hP hD hS => ?_)
            obtain ⟨ccodeCountG_110, conesG_111, ccodesG_112, rplaceG_113, rkindG_114, rbeginG_115, rwordG_116, rnumberG_117, rlettersG_118, rfaultKindG_119, rfaultPlaceG_120⟩ := u107
            try dsimp only at p108
            obtain ⟨p121, p122, p123, p124, p125⟩ := p108
            refine W.widen (k := 0) (n := 0) (Nat.le_of_ble_eq_true rfl) (Nat.le_of_ble_eq_true rfl) ?_
            have hP : va_P (dC, dI) vwCl [(se, .inr (9, [.ref ccodes, .int (nI ccodeCountG_110), .int (nI conesG_111)])), (ccodes, .inl (ky 0, 40, .inl ccodesG_112)), (reader, .inr (5, [.ref rtape, .int (nI rlength), .int (nI rmostBytes), .int (nI rplaceG_113), .int rkindG_114, .int (nI rbeginG_115), .int rwordG_116, .int rnumberG_117, .long rlettersG_118, .int rfaultKindG_119, .int rfaultPlaceG_120])), (rtape, .inl (ky 2, 940, .inl rtapeF)), (a, .inr (7, [.int (nI wide), .int (nI high), .int heat, .int cools, .int skinHeat, .int today, .int stirs, .int steps, .int (nI lumps), .int (nI boats), .ref thickness, .ref lumpNames, .ref lumpCells, .ref boatNames, .ref boatCells, .ref loads, .ref spoons, .ref spoonsLeft, .ref depths])), (lumpNames, .inl (ky 1, 6, .inr (.inl lumpNamesF)))] H := hP
            have hD : va_D A [(se, .inr (9, [.ref ccodes, .int (nI ccodeCountG_110), .int (nI conesG_111)])), (ccodes, .inl (ky 0, 40, .inl ccodesG_112)), (reader, .inr (5, [.ref rtape, .int (nI rlength), .int (nI rmostBytes), .int (nI rplaceG_113), .int rkindG_114, .int (nI rbeginG_115), .int rwordG_116, .int rnumberG_117, .long rlettersG_118, .int rfaultKindG_119, .int rfaultPlaceG_120])), (rtape, .inl (ky 2, 940, .inl rtapeF)), (a, .inr (7, [.int (nI wide), .int (nI high), .int heat, .int cools, .int skinHeat, .int today, .int stirs, .int steps, .int (nI lumps), .int (nI boats), .ref thickness, .ref lumpNames, .ref lumpCells, .ref boatNames, .ref boatCells, .ref loads, .ref spoons, .ref spoonsLeft, .ref depths])), (lumpNames, .inl (ky 1, 6, .inr (.inl lumpNamesF)))] := hD
            rcases p121 with ⟨rfl, t126, t127, t128, t129, t130, t131, t132⟩ | ⟨rfl, t133, t134, t135⟩
            · refine lv_if_eq (tgt := 60) hx hb dX9_readAll_44 (by decide) (fun c136 => absurd c136 (by decide)) (fun c136 => ?_)
              refine lv_aload_n hx hb dX9_readAll_47 rfl (lv_at hl 2 rfl) ?_
              refine lv_bipush (v := nI 21) hx hb dX9_readAll_48 (by decide) ?_
              refine r_call_i (wr := [(reader, .inr (5, [.ref rtape, .int (nI rlength), .int (nI rmostBytes), .int (nI rplaceG_113), .int rkindG_114, .int (nI rbeginG_115), .int rwordG_116, .int rnumberG_117, .long rlettersG_118, .int rfaultKindG_119, .int rfaultPlaceG_120])), (rtape, .inl (ky 2, 940, .inl rtapeF)), (a, .inr (7, [.int (nI wide), .int (nI high), .int heat, .int cools, .int skinHeat, .int today, .int stirs, .int steps, .int (nI lumps), .int (nI boats), .ref thickness, .ref lumpNames, .ref lumpCells, .ref boatNames, .ref boatCells, .ref loads, .ref spoons, .ref spoonsLeft, .ref depths])), (lumpNames, .inl (ky 1, 6, .inr (.inl lumpNamesF)))]) (va_runV (As := [.int (nI 21)]) (rest := []) ⟨hx, hb, hml, hown, hts⟩ (c_f_put9 l dC dI ky H.size se ccodes ccodeCountG_110 conesG_111 ccodesG_112 (nI 21) p122 p123 (lf_f_snA8_4 ccodeCount cones bt rlength rmostBytes rplace rkind rbegin rword rnumber rletters rtapeF lumps lumpNamesF gp gnu ccodeCountG_4 conesG_5 rplaceG_7 rkindG_8 rbeginG_9 rwordG_10 rnumberG_11 rlettersG_12 k69 k70 k71 k73 x74 k75 x76 x77 w78 z68 n88 r93 rplaceG_98 rkindG_99 rbeginG_100 rwordG_101 rnumberG_102 rlettersG_103 ccodeCountG_110 conesG_111 rplaceG_113 rkindG_114 rbeginG_115 rwordG_116 rnumberG_117 rlettersG_118 iv_cse_0 iv_cse_1 iv_rreader_0 iv_rreader_1 iv_rreader_2 iv_rreader_3 hTC iv_a_4 hRT hNL hcc p16 p17 p18 p19 t20 t21 t22 t23 t24 j81 j82 j83 j84 j85 j86 jRT jX jI jC hm90 c91 p94 c95 p104 p105 p106 p122 p123 p124 p125 t126 t127 t128 t129 t130)) (cwV 1 hts gX9_readAll_X9_put rfl rfl rfl (by decide +kernel) ⟨(Nat.le_of_ble_eq_true rfl), (Nat.le_of_ble_eq_true rfl)⟩) (pre_UV hK hP hD [0, 1] (by decide) rfl (ci := 9) (q0 := 0) rfl rfl) rfl rfl hl.1 rfl (lv_room (Nat.le_of_ble_eq_true rfl)) dX9_readAll_50 ⟨(Nat.le_of_ble_eq_true rfl), (Nat.le_of_ble_eq_true rfl)⟩) hP hD hS hA [0, 1] [2, 3, 4, 5] rfl rfl (by decide) (by decide) (fun r139 u137 H locs p138 hP hD hS => ?_)
              obtain ⟨ccodeCountG_140, ccodesG_141⟩ := u137
              try dsimp only at p138
              obtain ⟨p142, p143, p144⟩ := p138
              refine W.widen (k := 0) (n := 0) (Nat.le_of_ble_eq_true rfl) (Nat.le_of_ble_eq_true rfl) ?_
              have hP : va_P (dC, dI) vwCl [(reader, .inr (5, [.ref rtape, .int (nI rlength), .int (nI rmostBytes), .int (nI rplaceG_113), .int rkindG_114, .int (nI rbeginG_115), .int rwordG_116, .int rnumberG_117, .long rlettersG_118, .int rfaultKindG_119, .int rfaultPlaceG_120])), (rtape, .inl (ky 2, 940, .inl rtapeF)), (a, .inr (7, [.int (nI wide), .int (nI high), .int heat, .int cools, .int skinHeat, .int today, .int stirs, .int steps, .int (nI lumps), .int (nI boats), .ref thickness, .ref lumpNames, .ref lumpCells, .ref boatNames, .ref boatCells, .ref loads, .ref spoons, .ref spoonsLeft, .ref depths])), (lumpNames, .inl (ky 1, 6, .inr (.inl lumpNamesF))), (se, .inr (9, [.ref ccodes, .int (nI ccodeCountG_140), .int (nI conesG_111)])), (ccodes, .inl (ky 0, 40, .inl ccodesG_141))] H := hP
              have hD : va_D A [(reader, .inr (5, [.ref rtape, .int (nI rlength), .int (nI rmostBytes), .int (nI rplaceG_113), .int rkindG_114, .int (nI rbeginG_115), .int rwordG_116, .int rnumberG_117, .long rlettersG_118, .int rfaultKindG_119, .int rfaultPlaceG_120])), (rtape, .inl (ky 2, 940, .inl rtapeF)), (a, .inr (7, [.int (nI wide), .int (nI high), .int heat, .int cools, .int skinHeat, .int today, .int stirs, .int steps, .int (nI lumps), .int (nI boats), .ref thickness, .ref lumpNames, .ref lumpCells, .ref boatNames, .ref boatCells, .ref loads, .ref spoons, .ref spoonsLeft, .ref depths])), (lumpNames, .inl (ky 1, 6, .inr (.inl lumpNamesF))), (se, .inr (9, [.ref ccodes, .int (nI ccodeCountG_140), .int (nI conesG_111)])), (ccodes, .inl (ky 0, 40, .inl ccodesG_141))] := hD
              subst p142
              refine lv_if_eq (tgt := 60) hx hb dX9_readAll_53 (by decide) (fun c145 => absurd c145 (by decide)) (fun c145 => ?_)
              refine lv_iconst (v := nI 1) hx hb dX9_readAll_56 (by decide) ?_
              refine lv_goto (tgt := 61) hx hb dX9_readAll_57 (by decide) ?_
              refine lv_istore (lv' := [(4, .int (nI 1)), (5, .int (nI k69)), (0, .ref se), (1, .ref reader), (2, .ref a), (3, .int (nI 8))]) hx hb dX9_readAll_61 hl (by decide) rfl (fun ls hl => ?_)
              refine lv_iinc (v := nI (k69 + 1)) (lv' := [(5, .int (nI (k69 + 1))), (4, .int (nI 1)), (0, .ref se), (1, .ref reader), (2, .ref a), (3, .int (nI 8))]) hx hb dX9_readAll_63 hl (k := 1) rfl (show nI k69 + nI 1 = nI (k69 + 1) from nI_add _ _) (by decide) rfl (fun ls hl => ?_)
              refine lv_goto (tgt := 12) hx hb dX9_readAll_66 (by decide) ?_
              exact ih89 (k69 + 1) ccodeCountG_140 conesG_111 ccodesG_141 rplaceG_113 rkindG_114 rbeginG_115 rwordG_116 rnumberG_117 rlettersG_118 rfaultKindG_119 rfaultPlaceG_120 (srP (sOne bt rlength rmostBytes gnu lumps 1 (tT bt rlength rmostBytes z68) k71)) (lf_f_snA8_5 ccodeCount cones bt rlength rmostBytes rplace rkind rbegin rword rnumber rletters rtapeF lumps lumpNamesF gp gnu ccodeCountG_4 conesG_5 rplaceG_7 rkindG_8 rbeginG_9 rwordG_10 rnumberG_11 rlettersG_12 k69 k70 k71 k73 x74 k75 x76 x77 w78 z68 n88 r93 rplaceG_98 rkindG_99 rbeginG_100 rwordG_101 rnumberG_102 rlettersG_103 ccodeCountG_110 conesG_111 rplaceG_113 rkindG_114 rbeginG_115 rwordG_116 rnumberG_117 rlettersG_118 ccodeCountG_140 iv_cse_0 iv_cse_1 iv_rreader_0 iv_rreader_1 iv_rreader_2 iv_rreader_3 hTC iv_a_4 hRT hNL hcc p16 p17 p18 p19 t20 t21 t22 t23 t24 j81 j82 j83 j84 j85 j86 jRT jX jI jC hm90 c91 p94 c95 p104 p105 p106 p122 p123 p124 p125 t126 t127 t128 t129 t130 p143 p144) p143 p123 (lf_f_snA8_6 ccodeCount cones bt rlength rmostBytes rplace rkind rbegin rword rnumber rletters rtapeF lumps lumpNamesF gp gnu ccodeCountG_4 conesG_5 rplaceG_7 rkindG_8 rbeginG_9 rwordG_10 rnumberG_11 rlettersG_12 k69 k70 k71 k73 x74 k75 x76 x77 w78 z68 n88 r93 rplaceG_98 rkindG_99 rbeginG_100 rwordG_101 rnumberG_102 rlettersG_103 ccodeCountG_110 conesG_111 rplaceG_113 rkindG_114 rbeginG_115 rwordG_116 rnumberG_117 rlettersG_118 ccodeCountG_140 iv_cse_0 iv_cse_1 iv_rreader_0 iv_rreader_1 iv_rreader_2 iv_rreader_3 hTC iv_a_4 hRT hNL hcc p16 p17 p18 p19 t20 t21 t22 t23 t24 j81 j82 j83 j84 j85 j86 jRT jX jI jC hm90 c91 p94 c95 p104 p105 p106 p122 p123 p124 p125 t126 t127 t128 t129 t130 p143 p144) p125 p124 t127 (lf_f_snA8_7 ccodeCount cones bt rlength rmostBytes rplace rkind rbegin rword rnumber rletters rtapeF lumps lumpNamesF gp gnu ccodeCountG_4 conesG_5 rplaceG_7 rkindG_8 rbeginG_9 rwordG_10 rnumberG_11 rlettersG_12 k69 k70 k71 k73 x74 k75 x76 x77 w78 z68 n88 r93 rplaceG_98 rkindG_99 rbeginG_100 rwordG_101 rnumberG_102 rlettersG_103 ccodeCountG_110 conesG_111 rplaceG_113 rkindG_114 rbeginG_115 rwordG_116 rnumberG_117 rlettersG_118 ccodeCountG_140 iv_cse_0 iv_cse_1 iv_rreader_0 iv_rreader_1 iv_rreader_2 iv_rreader_3 hTC iv_a_4 hRT hNL hcc p16 p17 p18 p19 t20 t21 t22 t23 t24 j81 j82 j83 j84 j85 j86 jRT jX jI jC hm90 c91 p94 c95 p104 p105 p106 p122 p123 p124 p125 t126 t127 t128 t129 t130 p143 p144) (lf_f_snA8_8 ccodeCount cones bt rlength rmostBytes rplace rkind rbegin rword rnumber rletters rtapeF lumps lumpNamesF gp gnu ccodeCountG_4 conesG_5 rplaceG_7 rkindG_8 rbeginG_9 rwordG_10 rnumberG_11 rlettersG_12 k69 k70 k71 k73 x74 k75 x76 x77 w78 z68 n88 r93 rplaceG_98 rkindG_99 rbeginG_100 rwordG_101 rnumberG_102 rlettersG_103 ccodeCountG_110 conesG_111 rplaceG_113 rkindG_114 rbeginG_115 rwordG_116 rnumberG_117 rlettersG_118 ccodeCountG_140 iv_cse_0 iv_cse_1 iv_rreader_0 iv_rreader_1 iv_rreader_2 iv_rreader_3 hTC iv_a_4 hRT hNL hcc p16 p17 p18 p19 t20 t21 t22 t23 t24 j81 j82 j83 j84 j85 j86 jRT jX jI jC hm90 c91 p94 c95 p104 p105 p106 p122 p123 p124 p125 t126 t127 t128 t129 t130 p143 p144) (lf_f_snA8_9 ccodeCount cones bt rlength rmostBytes rplace rkind rbegin rword rnumber rletters rtapeF lumps lumpNamesF gp gnu ccodeCountG_4 conesG_5 rplaceG_7 rkindG_8 rbeginG_9 rwordG_10 rnumberG_11 rlettersG_12 k69 k70 k71 k73 x74 k75 x76 x77 w78 z68 n88 r93 rplaceG_98 rkindG_99 rbeginG_100 rwordG_101 rnumberG_102 rlettersG_103 ccodeCountG_110 conesG_111 rplaceG_113 rkindG_114 rbeginG_115 rwordG_116 rnumberG_117 rlettersG_118 ccodeCountG_140 iv_cse_0 iv_cse_1 iv_rreader_0 iv_rreader_1 iv_rreader_2 iv_rreader_3 hTC iv_a_4 hRT hNL hcc p16 p17 p18 p19 t20 t21 t22 t23 t24 j81 j82 j83 j84 j85 j86 jRT jX jI jC hm90 c91 p94 c95 p104 p105 p106 p122 p123 p124 p125 t126 t127 t128 t129 t130 p143 p144) (lf_f_snA8_10 adK adV se ccodes ccodeCount cones ccodesF bt reader rtape rlength rmostBytes rplace rkind rbegin rword rnumber rletters rfaultKind rfaultPlace rtapeF a wide high heat cools skinHeat today stirs steps lumps boats thickness lumpNames lumpCells boatNames boatCells loads spoons spoonsLeft depths lumpNamesF gp gnu ccodeCountG_4 conesG_5 ccodesG_6 rplaceG_7 rkindG_8 rbeginG_9 rwordG_10 rnumberG_11 rlettersG_12 rfaultKindG_13 rfaultPlaceG_14 k69 k70 k71 f72 k73 x74 k75 x76 x77 w78 x79 x80 z68 n88 r93 rplaceG_98 rkindG_99 rbeginG_100 rwordG_101 rnumberG_102 rlettersG_103 ccodeCountG_110 conesG_111 ccodesG_112 rplaceG_113 rkindG_114 rbeginG_115 rwordG_116 rnumberG_117 rlettersG_118 rfaultKindG_119 rfaultPlaceG_120 ccodeCountG_140 ccodesG_141 iv_cse_0 iv_cse_1 iv_rreader_0 iv_rreader_1 iv_rreader_2 iv_rreader_3 hTC iv_a_0 iv_a_1 iv_a_2 iv_a_3 iv_a_4 iv_a_5 hRT hNL hcc p16 p17 p18 p19 t20 t21 t22 t23 t24 t25 t26 j81 j82 j83 j84 j85 j86 jRT jX jI jC jFk jFp hm90 c91 p94 c95 p104 p105 p106 p122 p123 p124 p125 t126 t127 t128 t129 t130 t131 t132 p143 p144) (lf_f_snA8_11 adK adV se ccodes ccodeCount cones ccodesF bt reader rtape rlength rmostBytes rplace rkind rbegin rword rnumber rletters rfaultKind rfaultPlace rtapeF a wide high heat cools skinHeat today stirs steps lumps boats thickness lumpNames lumpCells boatNames boatCells loads spoons spoonsLeft depths lumpNamesF gp gnu ccodeCountG_4 conesG_5 ccodesG_6 rplaceG_7 rkindG_8 rbeginG_9 rwordG_10 rnumberG_11 rlettersG_12 rfaultKindG_13 rfaultPlaceG_14 k69 k70 k71 f72 k73 x74 k75 x76 x77 w78 x79 x80 z68 n88 r93 rplaceG_98 rkindG_99 rbeginG_100 rwordG_101 rnumberG_102 rlettersG_103 ccodeCountG_110 conesG_111 ccodesG_112 rplaceG_113 rkindG_114 rbeginG_115 rwordG_116 rnumberG_117 rlettersG_118 rfaultKindG_119 rfaultPlaceG_120 ccodeCountG_140 ccodesG_141 iv_cse_0 iv_cse_1 iv_rreader_0 iv_rreader_1 iv_rreader_2 iv_rreader_3 hTC iv_a_0 iv_a_1 iv_a_2 iv_a_3 iv_a_4 iv_a_5 hRT hNL hcc p16 p17 p18 p19 t20 t21 t22 t23 t24 t25 t26 j81 j82 j83 j84 j85 j86 jRT jX jI jC jFk jFp hm90 c91 p94 c95 p104 p105 p106 p122 p123 p124 p125 t126 t127 t128 t129 t130 t131 t132 p143 p144) (lf_f_snA8_12 ccodeCount cones bt rlength rmostBytes rplace rkind rbegin rword rnumber rletters rtapeF lumps lumpNamesF gp gnu ccodeCountG_4 conesG_5 rplaceG_7 rkindG_8 rbeginG_9 rwordG_10 rnumberG_11 rlettersG_12 k69 k70 k71 k73 x74 k75 x76 x77 w78 z68 n88 r93 rplaceG_98 rkindG_99 rbeginG_100 rwordG_101 rnumberG_102 rlettersG_103 ccodeCountG_110 conesG_111 rplaceG_113 rkindG_114 rbeginG_115 rwordG_116 rnumberG_117 rlettersG_118 ccodeCountG_140 iv_cse_0 iv_cse_1 iv_rreader_0 iv_rreader_1 iv_rreader_2 iv_rreader_3 hTC iv_a_4 hRT hNL hcc p16 p17 p18 p19 t20 t21 t22 t23 t24 j81 j82 j83 j84 j85 j86 jRT jX jI jC hm90 c91 p94 c95 p104 p105 p106 p122 p123 p124 p125 t126 t127 t128 t129 t130 p143 p144) _ _ _ (hP.sub [4, 5, 0, 1, 2, 3] rfl) (hD.sub [4, 5, 0, 1, 2, 3] (by decide) rfl) hS (lv_sub hl [0, 1, 2, 3, 4, 5] rfl)
            · refine lv_if_eq (tgt := 60) hx hb dX9_readAll_44 (by decide) (fun c146 => ?_) (fun c146 => absurd (by decide) c146)
              refine lv_iconst (v := nI 0) hx hb dX9_readAll_60 (by decide) ?_
              refine lv_istore (lv' := [(4, .int (nI 0)), (5, .int (nI k69)), (0, .ref se), (1, .ref reader), (2, .ref a), (3, .int (nI 8))]) hx hb dX9_readAll_61 hl (by decide) rfl (fun ls hl => ?_)
              refine lv_iinc (v := nI (k69 + 1)) (lv' := [(5, .int (nI (k69 + 1))), (4, .int (nI 0)), (0, .ref se), (1, .ref reader), (2, .ref a), (3, .int (nI 8))]) hx hb dX9_readAll_63 hl (k := 1) rfl (show nI k69 + nI 1 = nI (k69 + 1) from nI_add _ _) (by decide) rfl (fun ls hl => ?_)
              refine lv_goto (tgt := 12) hx hb dX9_readAll_66 (by decide) ?_
              refine lv_iload hx hb dX9_readAll_12 (lv_at hl 0 rfl) ?_
              refine lv_bipush (v := nI 20) hx hb dX9_readAll_14 (by decide) ?_
              refine n_icmp_ge (x := (k69 + 1)) (y := 20) (tgt := 69) hx hb (by omega) (by omega) dX9_readAll_16 (by decide) (fun c147 => ?_) (fun c147 => ?_)
              · refine lv_iload hx hb dX9_readAll_69 (lv_at hl 1 rfl) ?_
                rw [hQ]
                exact W.zret (v := nI 0) hx hb hr (by decide) (fun t9 ht9 hW9 => ⟨⟨nI 0, (ccodeCountG_110, conesG_111, ccodesG_112, rplaceG_113, rkindG_114, rbeginG_115, rwordG_116, rnumberG_117, rlettersG_118, rfaultKindG_119, rfaultPlaceG_120), rfl, ⟨(lf_f_snA8_13 ccodeCount cones bt rlength rmostBytes rplace rkind rbegin rword rnumber rletters rfaultKind rfaultPlace rtapeF lumps lumpNamesF gp gnu ccodeCountG_4 conesG_5 rplaceG_7 rkindG_8 rbeginG_9 rwordG_10 rnumberG_11 rlettersG_12 rfaultKindG_13 rfaultPlaceG_14 k69 k70 k71 k73 x74 k75 x76 x77 w78 x79 x80 z68 n88 r93 rplaceG_98 rkindG_99 rbeginG_100 rwordG_101 rnumberG_102 rlettersG_103 ccodeCountG_110 conesG_111 rplaceG_113 rkindG_114 rbeginG_115 rwordG_116 rnumberG_117 rlettersG_118 rfaultKindG_119 rfaultPlaceG_120 iv_cse_0 iv_cse_1 iv_rreader_0 iv_rreader_1 iv_rreader_2 iv_rreader_3 hTC iv_a_4 hRT hNL hcc p16 p17 p18 p19 t20 t21 t22 t23 t24 t25 t26 j81 j82 j83 j84 j85 j86 jRT jX jI jC jFk jFp hm90 c91 p94 c95 p104 p105 p106 p122 p123 p124 p125 t133 t134 t135 c147), p122, p123, p124, p125⟩, by rw [ht9]; exact hP, va_K.moved hW9.alike hK, hD⟩, hS.F ht9⟩) hS.2.2 dX9_readAll_71
              · refine lv_iload hx hb dX9_readAll_19 (lv_at hl 1 rfl) ?_
                refine lv_if_eq (tgt := 69) hx hb dX9_readAll_21 (by decide) (fun c148 => ?_) (fun c148 => absurd (by decide) c148)
                refine lv_iload hx hb dX9_readAll_69 (lv_at hl 1 rfl) ?_
                rw [hQ]
                exact W.zret (v := nI 0) hx hb hr (by decide) (fun t9 ht9 hW9 => ⟨⟨nI 0, (ccodeCountG_110, conesG_111, ccodesG_112, rplaceG_113, rkindG_114, rbeginG_115, rwordG_116, rnumberG_117, rlettersG_118, rfaultKindG_119, rfaultPlaceG_120), rfl, ⟨(lf_f_snA8_14 ccodeCount cones bt rlength rmostBytes rplace rkind rbegin rword rnumber rletters rfaultKind rfaultPlace rtapeF lumps lumpNamesF gp gnu ccodeCountG_4 conesG_5 rplaceG_7 rkindG_8 rbeginG_9 rwordG_10 rnumberG_11 rlettersG_12 rfaultKindG_13 rfaultPlaceG_14 k69 k70 k71 k73 x74 k75 x76 x77 w78 x79 x80 z68 n88 r93 rplaceG_98 rkindG_99 rbeginG_100 rwordG_101 rnumberG_102 rlettersG_103 ccodeCountG_110 conesG_111 rplaceG_113 rkindG_114 rbeginG_115 rwordG_116 rnumberG_117 rlettersG_118 rfaultKindG_119 rfaultPlaceG_120 iv_cse_0 iv_cse_1 iv_rreader_0 iv_rreader_1 iv_rreader_2 iv_rreader_3 hTC iv_a_4 hRT hNL hcc p16 p17 p18 p19 t20 t21 t22 t23 t24 t25 t26 j81 j82 j83 j84 j85 j86 jRT jX jI jC jFk jFp hm90 c91 p94 c95 p104 p105 p106 p122 p123 p124 p125 t133 t134 t135 c147), p122, p123, p124, p125⟩, by rw [ht9]; exact hP, va_K.moved hW9.alike hK, hD⟩, hS.F ht9⟩) hS.2.2 dX9_readAll_71
    exact hL87 ((20 - 0) + 1) 0 ccodeCountG_4 conesG_5 ccodesG_6 rplaceG_7 rkindG_8 rbeginG_9 rwordG_10 rnumberG_11 rlettersG_12 rfaultKindG_13 rfaultPlaceG_14 (srP (sOne bt rlength rmostBytes gnu lumps 1 gp cones)) (lf_f_snA8_15) p16 p17 (lf_f_snA8_16 ccodeCount cones bt rlength rmostBytes rplace rkind rbegin rword rnumber rletters rtapeF lumps lumpNamesF gp gnu ccodeCountG_4 conesG_5 rplaceG_7 rkindG_8 rbeginG_9 rwordG_10 rnumberG_11 rlettersG_12 iv_cse_0 iv_cse_1 iv_rreader_0 iv_rreader_1 iv_rreader_2 iv_rreader_3 hTC iv_a_4 hRT hNL hcc p16 p17 p18 p19 t20 t21 t22 t23 t24) p19 p18 t21 (lf_f_snA8_17 ccodeCount cones bt rlength rmostBytes rplace rkind rbegin rword rnumber rletters rtapeF lumps lumpNamesF gp gnu ccodeCountG_4 conesG_5 rplaceG_7 rkindG_8 rbeginG_9 rwordG_10 rnumberG_11 rlettersG_12 iv_cse_0 iv_cse_1 iv_rreader_0 iv_rreader_1 iv_rreader_2 iv_rreader_3 hTC iv_a_4 hRT hNL hcc p16 p17 p18 p19 t20 t21 t22 t23 t24) (lf_f_snA8_18 ccodeCount cones bt rlength rmostBytes rplace rkind rbegin rword rnumber rletters rtapeF lumps lumpNamesF gp gnu ccodeCountG_4 conesG_5 rplaceG_7 rkindG_8 rbeginG_9 rwordG_10 rnumberG_11 rlettersG_12 iv_cse_0 iv_cse_1 iv_rreader_0 iv_rreader_1 iv_rreader_2 iv_rreader_3 hTC iv_a_4 hRT hNL hcc p16 p17 p18 p19 t20 t21 t22 t23 t24) t23 t25 t26 (Nat.lt_succ_self _) _ _ _ hP hD hS (lv_sub hl [0, 1, 2, 3, 4, 5] rfl)
  · refine lv_istore (lv' := [(4, .int (nI 0)), (0, .ref se), (1, .ref reader), (2, .ref a), (3, .int (nI 8))]) hx hb dX9_readAll_7 hl (by decide) rfl (fun ls hl => ?_)
    refine lv_iconst (v := nI 0) hx hb dX9_readAll_9 (by decide) ?_
    refine lv_istore (lv' := [(5, .int (nI 0)), (4, .int (nI 0)), (0, .ref se), (1, .ref reader), (2, .ref a), (3, .int (nI 8))]) hx hb dX9_readAll_10 hl (by decide) rfl (fun ls hl => ?_)
    refine lv_iload hx hb dX9_readAll_12 (lv_at hl 0 rfl) ?_
    refine lv_bipush (v := nI 20) hx hb dX9_readAll_14 (by decide) ?_
    refine lv_icmp_ge (tgt := 69) hx hb dX9_readAll_16 (by decide) (fun c149 => absurd c149 (by decide)) (fun c149 => ?_)
    refine lv_iload hx hb dX9_readAll_19 (lv_at hl 1 rfl) ?_
    refine lv_if_eq (tgt := 69) hx hb dX9_readAll_21 (by decide) (fun c150 => ?_) (fun c150 => absurd (by decide) c150)
    refine lv_iload hx hb dX9_readAll_69 (lv_at hl 1 rfl) ?_
    rw [hQ]
    exact W.zret (v := nI 0) hx hb hr (by decide) (fun t9 ht9 hW9 => ⟨⟨nI 0, (ccodeCountG_4, conesG_5, ccodesG_6, rplaceG_7, rkindG_8, rbeginG_9, rwordG_10, rnumberG_11, rlettersG_12, rfaultKindG_13, rfaultPlaceG_14), rfl, ⟨(lf_f_snA8_19 ccodeCount cones bt rlength rmostBytes rplace rkind rbegin rword rnumber rletters rfaultKind rfaultPlace rtapeF lumps lumpNamesF gp gnu ccodeCountG_4 conesG_5 rplaceG_7 rkindG_8 rbeginG_9 rwordG_10 rnumberG_11 rlettersG_12 rfaultKindG_13 rfaultPlaceG_14 iv_cse_0 iv_cse_1 iv_rreader_0 iv_rreader_1 iv_rreader_2 iv_rreader_3 hTC iv_a_4 hRT hNL hcc p16 p17 p18 p19 t27 t28 t29), p16, p17, p18, p19⟩, by rw [ht9]; exact hP, va_K.moved hW9.alike hK, hD⟩, hS.F ht9⟩) hS.2.2 dX9_readAll_71
set_option maxRecDepth 20000 in
theorem lf_f_snC8_1 (ccodeCount : Nat) (cones : Nat) (bt : Nat → Nat) (rlength : Nat) (rmostBytes : Nat) (rplace : Nat) (rkind : Int32) (rbegin : Nat) (rword : Int32) (rnumber : Int32) (rletters : Int64) (rfaultKind : Int32) (rfaultPlace : Int32) (rtapeF : Nat → Int32) (lumps : Nat) (lumpNamesF : Nat → Int64) (gp : Nat) (gnu : Nat → Nat) (ccodeCountG_4 : Nat) (conesG_5 : Nat) (rplaceG_7 : Nat) (rkindG_8 : Int32) (rbeginG_9 : Nat) (rwordG_10 : Int32) (rnumberG_11 : Int32) (rlettersG_12 : Int64) (rfaultKindG_13 : Int32) (rfaultPlaceG_14 : Int32) (k69 : Nat) (k70 : Nat) (k71 : Nat) (k73 : Nat) (x74 : Int32) (k75 : Nat) (x76 : Int32) (x77 : Int32) (w78 : Int64) (x79 : Int32) (x80 : Int32) (z68 : Nat) (n88 : Nat) (iv_cse_0 : ccodeCount ≤ 40) (iv_cse_1 : cones ≤ 20) (iv_rreader_0 : rlength ≤ 940) (iv_rreader_1 : rplace ≤ rlength) (iv_rreader_2 : rmostBytes ≤ 900) (iv_rreader_3 : rbegin ≤ 940) (hTC : TC bt rtapeF) (iv_a_4 : lumps ≤ 6) (hRT : RT bt rlength rmostBytes gp rkind rbegin rplace rword rnumber rletters) (hNL : NL gnu 0 lumps lumpNamesF) (hcc : ccodeCount ≤ 2 * cones) (p16 : ccodeCountG_4 ≤ 40) (p17 : conesG_5 ≤ 20) (p18 : rplaceG_7 ≤ rlength) (p19 : rbeginG_9 ≤ 940) (t20 : isO (sAnd bt rlength rmostBytes gnu lumps 1 gp cones) = true) (t21 : RT bt rlength rmostBytes (srP (sAnd bt rlength rmostBytes gnu lumps 1 gp cones)) rkindG_8 rbeginG_9 rplaceG_7 rwordG_10 rnumberG_11 rlettersG_12) (t22 : conesG_5 = srO (sAnd bt rlength rmostBytes gnu lumps 1 gp cones)) (t23 : ccodeCountG_4 + 1 + 2 * cones ≤ ccodeCount + 2 * conesG_5) (t24 : cones < conesG_5) (t25 : rfaultKindG_13 = rfaultKind) (t26 : rfaultPlaceG_14 = rfaultPlace) (j81 : k69 ≤ 20) (j82 : k70 ≤ 40) (j83 : k71 ≤ 20) (j84 : k73 ≤ 940) (j85 : k75 ≤ 940) (j86 : k73 ≤ rlength) (jRT : RT bt rlength rmostBytes z68 x74 k75 k73 x76 x77 w78) (jX : sOr bt rlength rmostBytes gnu lumps 1 gp cones = sLoop bt rlength rmostBytes 20 (sAnd bt rlength rmostBytes gnu lumps 1) 30 z68 k71) (jI : k69 + cones + 1 ≤ k71) (jC : k70 + 1 + 2 * cones ≤ ccodeCount + 2 * k71) (jFk : x79 = rfaultKind) (jFp : x80 = rfaultPlace) (hm90 : 20 - k69 < n88 + 1) (c91 : 20 ≤ k69) : ((nI 1) = nI 1 ∧ (isO (sOr bt rlength rmostBytes gnu lumps 1 gp cones) = true ∧ RT bt rlength rmostBytes (srP (sOr bt rlength rmostBytes gnu lumps 1 gp cones)) x74 k75 k73 x76 x77 w78 ∧ k71 = srO (sOr bt rlength rmostBytes gnu lumps 1 gp cones) ∧ k70 + 1 + 2 * cones ≤ ccodeCount + 2 * k71 ∧ cones < k71 ∧ x79 = rfaultKind ∧ x80 = rfaultPlace)) ∨ ((nI 1) = nI 0 ∧ (isO (sOr bt rlength rmostBytes gnu lumps 1 gp cones) = false ∧ x79 = nI (erA (sOr bt rlength rmostBytes gnu lumps 1 gp cones)) ∧ x80 = nI (erB (sOr bt rlength rmostBytes gnu lumps 1 gp cones)))) := by
  have w9 : ¬ tW bt rlength rmostBytes z68 = 20 := fun h9 => absurd ((RT_w jRT (by decide)).mpr h9) (by
    have kk20 := ia_n 20 (by decide)
    have b_rkind := ia_b rkind
    have b_rword := ia_b rword
    have b_rnumber := ia_b rnumber
    have b_rfaultKind := ia_b rfaultKind
    have b_rfaultPlace := ia_b rfaultPlace
    have b_rkindG_8 := ia_b rkindG_8
    have b_rwordG_10 := ia_b rwordG_10
    have b_rnumberG_11 := ia_b rnumberG_11
    have b_rfaultKindG_13 := ia_b rfaultKindG_13
    have b_rfaultPlaceG_14 := ia_b rfaultPlaceG_14
    have b_x74 := ia_b x74
    have b_x76 := ia_b x76
    have b_x77 := ia_b x77
    have b_x79 := ia_b x79
    have b_x80 := ia_b x80
    have b_rletters := Int64.toInt_lt rletters
    have b_rlettersG_12 := Int64.toInt_lt rlettersG_12
    have b_w78 := Int64.toInt_lt w78
    try have k_0 := ia_n 1 (by first | decide | omega)
    try have k_1 := ia_n 0 (by first | decide | omega)
    try have k_2 := ia_n (erA (sOr bt rlength rmostBytes gnu lumps 1 gp cones)) (by first | decide | omega)
    try have k_3 := ia_n (erB (sOr bt rlength rmostBytes gnu lumps 1 gp cones)) (by first | decide | omega)
    try simp only [ia_lt, ia_le, ia_eq, ia_m1, ia_0, ia_1, ne_eq, true_and, and_true, false_and, and_false, or_false, false_or, or_true, true_or, not_true_eq_false, not_false_eq_true] at *
    all_goals omega)
  rw [jX, sL_no w9]
  exact Or.inl ⟨rfl, rfl, jRT, rfl, by omega, by omega, (by first | rfl | assumption | (subst_vars; rfl) | (subst_vars; assumption)), (by first | rfl | assumption | (subst_vars; rfl) | (subst_vars; assumption))⟩
set_option maxRecDepth 20000 in
theorem lf_f_snC8_2 (ccodeCount : Nat) (cones : Nat) (bt : Nat → Nat) (rlength : Nat) (rmostBytes : Nat) (rplace : Nat) (rkind : Int32) (rbegin : Nat) (rword : Int32) (rnumber : Int32) (rletters : Int64) (rfaultKind : Int32) (rfaultPlace : Int32) (rtapeF : Nat → Int32) (lumps : Nat) (lumpNamesF : Nat → Int64) (gp : Nat) (gnu : Nat → Nat) (ccodeCountG_4 : Nat) (conesG_5 : Nat) (rplaceG_7 : Nat) (rkindG_8 : Int32) (rbeginG_9 : Nat) (rwordG_10 : Int32) (rnumberG_11 : Int32) (rlettersG_12 : Int64) (rfaultKindG_13 : Int32) (rfaultPlaceG_14 : Int32) (k69 : Nat) (k70 : Nat) (k71 : Nat) (k73 : Nat) (x74 : Int32) (k75 : Nat) (x76 : Int32) (x77 : Int32) (w78 : Int64) (x79 : Int32) (x80 : Int32) (z68 : Nat) (n88 : Nat) (r93 : Int32) (iv_cse_0 : ccodeCount ≤ 40) (iv_cse_1 : cones ≤ 20) (iv_rreader_0 : rlength ≤ 940) (iv_rreader_1 : rplace ≤ rlength) (iv_rreader_2 : rmostBytes ≤ 900) (iv_rreader_3 : rbegin ≤ 940) (hTC : TC bt rtapeF) (iv_a_4 : lumps ≤ 6) (hRT : RT bt rlength rmostBytes gp rkind rbegin rplace rword rnumber rletters) (hNL : NL gnu 0 lumps lumpNamesF) (hcc : ccodeCount ≤ 2 * cones) (p16 : ccodeCountG_4 ≤ 40) (p17 : conesG_5 ≤ 20) (p18 : rplaceG_7 ≤ rlength) (p19 : rbeginG_9 ≤ 940) (t20 : isO (sAnd bt rlength rmostBytes gnu lumps 1 gp cones) = true) (t21 : RT bt rlength rmostBytes (srP (sAnd bt rlength rmostBytes gnu lumps 1 gp cones)) rkindG_8 rbeginG_9 rplaceG_7 rwordG_10 rnumberG_11 rlettersG_12) (t22 : conesG_5 = srO (sAnd bt rlength rmostBytes gnu lumps 1 gp cones)) (t23 : ccodeCountG_4 + 1 + 2 * cones ≤ ccodeCount + 2 * conesG_5) (t24 : cones < conesG_5) (t25 : rfaultKindG_13 = rfaultKind) (t26 : rfaultPlaceG_14 = rfaultPlace) (j81 : k69 ≤ 20) (j82 : k70 ≤ 40) (j83 : k71 ≤ 20) (j84 : k73 ≤ 940) (j85 : k75 ≤ 940) (j86 : k73 ≤ rlength) (jRT : RT bt rlength rmostBytes z68 x74 k75 k73 x76 x77 w78) (jX : sOr bt rlength rmostBytes gnu lumps 1 gp cones = sLoop bt rlength rmostBytes 20 (sAnd bt rlength rmostBytes gnu lumps 1) 30 z68 k71) (jI : k69 + cones + 1 ≤ k71) (jC : k70 + 1 + 2 * cones ≤ ccodeCount + 2 * k71) (jFk : x79 = rfaultKind) (jFp : x80 = rfaultPlace) (hm90 : 20 - k69 < n88 + 1) (c91 : k69 < 20) (p94 : r93 = x76) (c95 : r93 ≠ nI 20) : ((nI 1) = nI 1 ∧ (isO (sOr bt rlength rmostBytes gnu lumps 1 gp cones) = true ∧ RT bt rlength rmostBytes (srP (sOr bt rlength rmostBytes gnu lumps 1 gp cones)) x74 k75 k73 x76 x77 w78 ∧ k71 = srO (sOr bt rlength rmostBytes gnu lumps 1 gp cones) ∧ k70 + 1 + 2 * cones ≤ ccodeCount + 2 * k71 ∧ cones < k71 ∧ x79 = rfaultKind ∧ x80 = rfaultPlace)) ∨ ((nI 1) = nI 0 ∧ (isO (sOr bt rlength rmostBytes gnu lumps 1 gp cones) = false ∧ x79 = nI (erA (sOr bt rlength rmostBytes gnu lumps 1 gp cones)) ∧ x80 = nI (erB (sOr bt rlength rmostBytes gnu lumps 1 gp cones)))) := by
  have w9 : ¬ tW bt rlength rmostBytes z68 = 20 := fun h9 => absurd ((RT_w jRT (by decide)).mpr h9) (by
    have kk20 := ia_n 20 (by decide)
    have b_rkind := ia_b rkind
    have b_rword := ia_b rword
    have b_rnumber := ia_b rnumber
    have b_rfaultKind := ia_b rfaultKind
    have b_rfaultPlace := ia_b rfaultPlace
    have b_rkindG_8 := ia_b rkindG_8
    have b_rwordG_10 := ia_b rwordG_10
    have b_rnumberG_11 := ia_b rnumberG_11
    have b_rfaultKindG_13 := ia_b rfaultKindG_13
    have b_rfaultPlaceG_14 := ia_b rfaultPlaceG_14
    have b_x74 := ia_b x74
    have b_x76 := ia_b x76
    have b_x77 := ia_b x77
    have b_x79 := ia_b x79
    have b_x80 := ia_b x80
    have b_r93 := ia_b r93
    have b_rletters := Int64.toInt_lt rletters
    have b_rlettersG_12 := Int64.toInt_lt rlettersG_12
    have b_w78 := Int64.toInt_lt w78
    try have k_0 := ia_n 20 (by first | decide | omega)
    try have k_1 := ia_n 1 (by first | decide | omega)
    try have k_2 := ia_n 0 (by first | decide | omega)
    try have k_3 := ia_n (erA (sOr bt rlength rmostBytes gnu lumps 1 gp cones)) (by first | decide | omega)
    try have k_4 := ia_n (erB (sOr bt rlength rmostBytes gnu lumps 1 gp cones)) (by first | decide | omega)
    try simp only [ia_lt, ia_le, ia_eq, ia_m1, ia_0, ia_1, ne_eq, true_and, and_true, false_and, and_false, or_false, false_or, or_true, true_or, not_true_eq_false, not_false_eq_true] at *
    all_goals omega)
  rw [jX, sL_no w9]
  exact Or.inl ⟨rfl, rfl, jRT, rfl, by omega, by omega, (by first | rfl | assumption | (subst_vars; rfl) | (subst_vars; assumption)), (by first | rfl | assumption | (subst_vars; rfl) | (subst_vars; assumption))⟩
set_option maxRecDepth 20000 in
theorem lf_f_snC8_3 (ccodeCount : Nat) (cones : Nat) (bt : Nat → Nat) (rlength : Nat) (rmostBytes : Nat) (rplace : Nat) (rkind : Int32) (rbegin : Nat) (rword : Int32) (rnumber : Int32) (rletters : Int64) (rtapeF : Nat → Int32) (lumps : Nat) (lumpNamesF : Nat → Int64) (gp : Nat) (gnu : Nat → Nat) (ccodeCountG_4 : Nat) (conesG_5 : Nat) (rplaceG_7 : Nat) (rkindG_8 : Int32) (rbeginG_9 : Nat) (rwordG_10 : Int32) (rnumberG_11 : Int32) (rlettersG_12 : Int64) (k69 : Nat) (k70 : Nat) (k71 : Nat) (k73 : Nat) (x74 : Int32) (k75 : Nat) (x76 : Int32) (x77 : Int32) (w78 : Int64) (z68 : Nat) (n88 : Nat) (r93 : Int32) (rplaceG_98 : Nat) (rkindG_99 : Int32) (rbeginG_100 : Nat) (rwordG_101 : Int32) (rnumberG_102 : Int32) (rlettersG_103 : Int64) (iv_cse_0 : ccodeCount ≤ 40) (iv_cse_1 : cones ≤ 20) (iv_rreader_0 : rlength ≤ 940) (iv_rreader_1 : rplace ≤ rlength) (iv_rreader_2 : rmostBytes ≤ 900) (iv_rreader_3 : rbegin ≤ 940) (hTC : TC bt rtapeF) (iv_a_4 : lumps ≤ 6) (hRT : RT bt rlength rmostBytes gp rkind rbegin rplace rword rnumber rletters) (hNL : NL gnu 0 lumps lumpNamesF) (hcc : ccodeCount ≤ 2 * cones) (p16 : ccodeCountG_4 ≤ 40) (p17 : conesG_5 ≤ 20) (p18 : rplaceG_7 ≤ rlength) (p19 : rbeginG_9 ≤ 940) (t20 : isO (sAnd bt rlength rmostBytes gnu lumps 1 gp cones) = true) (t21 : RT bt rlength rmostBytes (srP (sAnd bt rlength rmostBytes gnu lumps 1 gp cones)) rkindG_8 rbeginG_9 rplaceG_7 rwordG_10 rnumberG_11 rlettersG_12) (t22 : conesG_5 = srO (sAnd bt rlength rmostBytes gnu lumps 1 gp cones)) (t23 : ccodeCountG_4 + 1 + 2 * cones ≤ ccodeCount + 2 * conesG_5) (t24 : cones < conesG_5) (j81 : k69 ≤ 20) (j82 : k70 ≤ 40) (j83 : k71 ≤ 20) (j84 : k73 ≤ 940) (j85 : k75 ≤ 940) (j86 : k73 ≤ rlength) (jRT : RT bt rlength rmostBytes z68 x74 k75 k73 x76 x77 w78) (jX : sOr bt rlength rmostBytes gnu lumps 1 gp cones = sLoop bt rlength rmostBytes 20 (sAnd bt rlength rmostBytes gnu lumps 1) 30 z68 k71) (jI : k69 + cones + 1 ≤ k71) (jC : k70 + 1 + 2 * cones ≤ ccodeCount + 2 * k71) (hm90 : 20 - k69 < n88 + 1) (c91 : k69 < 20) (p94 : r93 = x76) (c95 : r93 = nI 20) (p104 : rplaceG_98 ≤ rlength) (p105 : rbeginG_100 ≤ 940) (p106 : RT bt rlength rmostBytes (tT bt rlength rmostBytes z68) rkindG_99 rbeginG_100 rplaceG_98 rwordG_101 rnumberG_102 rlettersG_103) : k70 ≤ 2 * k71 := by
  have b_rkind := ia_b rkind
  have b_rword := ia_b rword
  have b_rnumber := ia_b rnumber
  have b_rkindG_8 := ia_b rkindG_8
  have b_rwordG_10 := ia_b rwordG_10
  have b_rnumberG_11 := ia_b rnumberG_11
  have b_x74 := ia_b x74
  have b_x76 := ia_b x76
  have b_x77 := ia_b x77
  have b_r93 := ia_b r93
  have b_rkindG_99 := ia_b rkindG_99
  have b_rwordG_101 := ia_b rwordG_101
  have b_rnumberG_102 := ia_b rnumberG_102
  have b_rletters := Int64.toInt_lt rletters
  have b_rlettersG_12 := Int64.toInt_lt rlettersG_12
  have b_w78 := Int64.toInt_lt w78
  have b_rlettersG_103 := Int64.toInt_lt rlettersG_103
  try have k_0 := ia_n 20 (by first | decide | omega)
  try simp only [ia_lt, ia_le, ia_eq, ia_m1, ia_0, ia_1, ne_eq, true_and, and_true, false_and, and_false, or_false, false_or, or_true, true_or, not_true_eq_false, not_false_eq_true] at *
  all_goals omega
set_option maxRecDepth 20000 in
theorem lf_f_snC8_4 (ccodeCount : Nat) (cones : Nat) (bt : Nat → Nat) (rlength : Nat) (rmostBytes : Nat) (rplace : Nat) (rkind : Int32) (rbegin : Nat) (rword : Int32) (rnumber : Int32) (rletters : Int64) (rtapeF : Nat → Int32) (lumps : Nat) (lumpNamesF : Nat → Int64) (gp : Nat) (gnu : Nat → Nat) (ccodeCountG_4 : Nat) (conesG_5 : Nat) (rplaceG_7 : Nat) (rkindG_8 : Int32) (rbeginG_9 : Nat) (rwordG_10 : Int32) (rnumberG_11 : Int32) (rlettersG_12 : Int64) (k69 : Nat) (k70 : Nat) (k71 : Nat) (k73 : Nat) (x74 : Int32) (k75 : Nat) (x76 : Int32) (x77 : Int32) (w78 : Int64) (z68 : Nat) (n88 : Nat) (r93 : Int32) (rplaceG_98 : Nat) (rkindG_99 : Int32) (rbeginG_100 : Nat) (rwordG_101 : Int32) (rnumberG_102 : Int32) (rlettersG_103 : Int64) (ccodeCountG_110 : Nat) (conesG_111 : Nat) (rplaceG_113 : Nat) (rkindG_114 : Int32) (rbeginG_115 : Nat) (rwordG_116 : Int32) (rnumberG_117 : Int32) (rlettersG_118 : Int64) (iv_cse_0 : ccodeCount ≤ 40) (iv_cse_1 : cones ≤ 20) (iv_rreader_0 : rlength ≤ 940) (iv_rreader_1 : rplace ≤ rlength) (iv_rreader_2 : rmostBytes ≤ 900) (iv_rreader_3 : rbegin ≤ 940) (hTC : TC bt rtapeF) (iv_a_4 : lumps ≤ 6) (hRT : RT bt rlength rmostBytes gp rkind rbegin rplace rword rnumber rletters) (hNL : NL gnu 0 lumps lumpNamesF) (hcc : ccodeCount ≤ 2 * cones) (p16 : ccodeCountG_4 ≤ 40) (p17 : conesG_5 ≤ 20) (p18 : rplaceG_7 ≤ rlength) (p19 : rbeginG_9 ≤ 940) (t20 : isO (sAnd bt rlength rmostBytes gnu lumps 1 gp cones) = true) (t21 : RT bt rlength rmostBytes (srP (sAnd bt rlength rmostBytes gnu lumps 1 gp cones)) rkindG_8 rbeginG_9 rplaceG_7 rwordG_10 rnumberG_11 rlettersG_12) (t22 : conesG_5 = srO (sAnd bt rlength rmostBytes gnu lumps 1 gp cones)) (t23 : ccodeCountG_4 + 1 + 2 * cones ≤ ccodeCount + 2 * conesG_5) (t24 : cones < conesG_5) (j81 : k69 ≤ 20) (j82 : k70 ≤ 40) (j83 : k71 ≤ 20) (j84 : k73 ≤ 940) (j85 : k75 ≤ 940) (j86 : k73 ≤ rlength) (jRT : RT bt rlength rmostBytes z68 x74 k75 k73 x76 x77 w78) (jX : sOr bt rlength rmostBytes gnu lumps 1 gp cones = sLoop bt rlength rmostBytes 20 (sAnd bt rlength rmostBytes gnu lumps 1) 30 z68 k71) (jI : k69 + cones + 1 ≤ k71) (jC : k70 + 1 + 2 * cones ≤ ccodeCount + 2 * k71) (hm90 : 20 - k69 < n88 + 1) (c91 : k69 < 20) (p94 : r93 = x76) (c95 : r93 = nI 20) (p104 : rplaceG_98 ≤ rlength) (p105 : rbeginG_100 ≤ 940) (p106 : RT bt rlength rmostBytes (tT bt rlength rmostBytes z68) rkindG_99 rbeginG_100 rplaceG_98 rwordG_101 rnumberG_102 rlettersG_103) (p122 : ccodeCountG_110 ≤ 40) (p123 : conesG_111 ≤ 20) (p124 : rplaceG_113 ≤ rlength) (p125 : rbeginG_115 ≤ 940) (t126 : isO (sAnd bt rlength rmostBytes gnu lumps 1 (tT bt rlength rmostBytes z68) k71) = true) (t127 : RT bt rlength rmostBytes (srP (sAnd bt rlength rmostBytes gnu lumps 1 (tT bt rlength rmostBytes z68) k71)) rkindG_114 rbeginG_115 rplaceG_113 rwordG_116 rnumberG_117 rlettersG_118) (t128 : conesG_111 = srO (sAnd bt rlength rmostBytes gnu lumps 1 (tT bt rlength rmostBytes z68) k71)) (t129 : ccodeCountG_110 + 1 + 2 * k71 ≤ k70 + 2 * conesG_111) (t130 : k71 < conesG_111) : ccodeCountG_110 < 40 := by
  have b_rkind := ia_b rkind
  have b_rword := ia_b rword
  have b_rnumber := ia_b rnumber
  have b_rkindG_8 := ia_b rkindG_8
  have b_rwordG_10 := ia_b rwordG_10
  have b_rnumberG_11 := ia_b rnumberG_11
  have b_x74 := ia_b x74
  have b_x76 := ia_b x76
  have b_x77 := ia_b x77
  have b_r93 := ia_b r93
  have b_rkindG_99 := ia_b rkindG_99
  have b_rwordG_101 := ia_b rwordG_101
  have b_rnumberG_102 := ia_b rnumberG_102
  have b_rkindG_114 := ia_b rkindG_114
  have b_rwordG_116 := ia_b rwordG_116
  have b_rnumberG_117 := ia_b rnumberG_117
  have b_rletters := Int64.toInt_lt rletters
  have b_rlettersG_12 := Int64.toInt_lt rlettersG_12
  have b_w78 := Int64.toInt_lt w78
  have b_rlettersG_103 := Int64.toInt_lt rlettersG_103
  have b_rlettersG_118 := Int64.toInt_lt rlettersG_118
  try have k_0 := ia_n 20 (by first | decide | omega)
  try simp only [ia_lt, ia_le, ia_eq, ia_m1, ia_0, ia_1, ne_eq, true_and, and_true, false_and, and_false, or_false, false_or, or_true, true_or, not_true_eq_false, not_false_eq_true] at *
  all_goals omega
set_option maxRecDepth 20000 in
theorem lf_f_snC8_5 (ccodeCount : Nat) (cones : Nat) (bt : Nat → Nat) (rlength : Nat) (rmostBytes : Nat) (rplace : Nat) (rkind : Int32) (rbegin : Nat) (rword : Int32) (rnumber : Int32) (rletters : Int64) (rtapeF : Nat → Int32) (lumps : Nat) (lumpNamesF : Nat → Int64) (gp : Nat) (gnu : Nat → Nat) (ccodeCountG_4 : Nat) (conesG_5 : Nat) (rplaceG_7 : Nat) (rkindG_8 : Int32) (rbeginG_9 : Nat) (rwordG_10 : Int32) (rnumberG_11 : Int32) (rlettersG_12 : Int64) (k69 : Nat) (k70 : Nat) (k71 : Nat) (k73 : Nat) (x74 : Int32) (k75 : Nat) (x76 : Int32) (x77 : Int32) (w78 : Int64) (z68 : Nat) (n88 : Nat) (r93 : Int32) (rplaceG_98 : Nat) (rkindG_99 : Int32) (rbeginG_100 : Nat) (rwordG_101 : Int32) (rnumberG_102 : Int32) (rlettersG_103 : Int64) (ccodeCountG_110 : Nat) (conesG_111 : Nat) (rplaceG_113 : Nat) (rkindG_114 : Int32) (rbeginG_115 : Nat) (rwordG_116 : Int32) (rnumberG_117 : Int32) (rlettersG_118 : Int64) (ccodeCountG_140 : Nat) (iv_cse_0 : ccodeCount ≤ 40) (iv_cse_1 : cones ≤ 20) (iv_rreader_0 : rlength ≤ 940) (iv_rreader_1 : rplace ≤ rlength) (iv_rreader_2 : rmostBytes ≤ 900) (iv_rreader_3 : rbegin ≤ 940) (hTC : TC bt rtapeF) (iv_a_4 : lumps ≤ 6) (hRT : RT bt rlength rmostBytes gp rkind rbegin rplace rword rnumber rletters) (hNL : NL gnu 0 lumps lumpNamesF) (hcc : ccodeCount ≤ 2 * cones) (p16 : ccodeCountG_4 ≤ 40) (p17 : conesG_5 ≤ 20) (p18 : rplaceG_7 ≤ rlength) (p19 : rbeginG_9 ≤ 940) (t20 : isO (sAnd bt rlength rmostBytes gnu lumps 1 gp cones) = true) (t21 : RT bt rlength rmostBytes (srP (sAnd bt rlength rmostBytes gnu lumps 1 gp cones)) rkindG_8 rbeginG_9 rplaceG_7 rwordG_10 rnumberG_11 rlettersG_12) (t22 : conesG_5 = srO (sAnd bt rlength rmostBytes gnu lumps 1 gp cones)) (t23 : ccodeCountG_4 + 1 + 2 * cones ≤ ccodeCount + 2 * conesG_5) (t24 : cones < conesG_5) (j81 : k69 ≤ 20) (j82 : k70 ≤ 40) (j83 : k71 ≤ 20) (j84 : k73 ≤ 940) (j85 : k75 ≤ 940) (j86 : k73 ≤ rlength) (jRT : RT bt rlength rmostBytes z68 x74 k75 k73 x76 x77 w78) (jX : sOr bt rlength rmostBytes gnu lumps 1 gp cones = sLoop bt rlength rmostBytes 20 (sAnd bt rlength rmostBytes gnu lumps 1) 30 z68 k71) (jI : k69 + cones + 1 ≤ k71) (jC : k70 + 1 + 2 * cones ≤ ccodeCount + 2 * k71) (hm90 : 20 - k69 < n88 + 1) (c91 : k69 < 20) (p94 : r93 = x76) (c95 : r93 = nI 20) (p104 : rplaceG_98 ≤ rlength) (p105 : rbeginG_100 ≤ 940) (p106 : RT bt rlength rmostBytes (tT bt rlength rmostBytes z68) rkindG_99 rbeginG_100 rplaceG_98 rwordG_101 rnumberG_102 rlettersG_103) (p122 : ccodeCountG_110 ≤ 40) (p123 : conesG_111 ≤ 20) (p124 : rplaceG_113 ≤ rlength) (p125 : rbeginG_115 ≤ 940) (t126 : isO (sAnd bt rlength rmostBytes gnu lumps 1 (tT bt rlength rmostBytes z68) k71) = true) (t127 : RT bt rlength rmostBytes (srP (sAnd bt rlength rmostBytes gnu lumps 1 (tT bt rlength rmostBytes z68) k71)) rkindG_114 rbeginG_115 rplaceG_113 rwordG_116 rnumberG_117 rlettersG_118) (t128 : conesG_111 = srO (sAnd bt rlength rmostBytes gnu lumps 1 (tT bt rlength rmostBytes z68) k71)) (t129 : ccodeCountG_110 + 1 + 2 * k71 ≤ k70 + 2 * conesG_111) (t130 : k71 < conesG_111) (p143 : ccodeCountG_140 ≤ 40) (p144 : ccodeCountG_140 = ccodeCountG_110 + 1) : (k69 + 1) ≤ 20 := by
  have b_rkind := ia_b rkind
  have b_rword := ia_b rword
  have b_rnumber := ia_b rnumber
  have b_rkindG_8 := ia_b rkindG_8
  have b_rwordG_10 := ia_b rwordG_10
  have b_rnumberG_11 := ia_b rnumberG_11
  have b_x74 := ia_b x74
  have b_x76 := ia_b x76
  have b_x77 := ia_b x77
  have b_r93 := ia_b r93
  have b_rkindG_99 := ia_b rkindG_99
  have b_rwordG_101 := ia_b rwordG_101
  have b_rnumberG_102 := ia_b rnumberG_102
  have b_rkindG_114 := ia_b rkindG_114
  have b_rwordG_116 := ia_b rwordG_116
  have b_rnumberG_117 := ia_b rnumberG_117
  have b_rletters := Int64.toInt_lt rletters
  have b_rlettersG_12 := Int64.toInt_lt rlettersG_12
  have b_w78 := Int64.toInt_lt w78
  have b_rlettersG_103 := Int64.toInt_lt rlettersG_103
  have b_rlettersG_118 := Int64.toInt_lt rlettersG_118
  try have k_0 := ia_n 20 (by first | decide | omega)
  try simp only [ia_lt, ia_le, ia_eq, ia_m1, ia_0, ia_1, ne_eq, true_and, and_true, false_and, and_false, or_false, false_or, or_true, true_or, not_true_eq_false, not_false_eq_true] at *
  all_goals omega
set_option maxRecDepth 20000 in
theorem lf_f_snC8_6 (ccodeCount : Nat) (cones : Nat) (bt : Nat → Nat) (rlength : Nat) (rmostBytes : Nat) (rplace : Nat) (rkind : Int32) (rbegin : Nat) (rword : Int32) (rnumber : Int32) (rletters : Int64) (rtapeF : Nat → Int32) (lumps : Nat) (lumpNamesF : Nat → Int64) (gp : Nat) (gnu : Nat → Nat) (ccodeCountG_4 : Nat) (conesG_5 : Nat) (rplaceG_7 : Nat) (rkindG_8 : Int32) (rbeginG_9 : Nat) (rwordG_10 : Int32) (rnumberG_11 : Int32) (rlettersG_12 : Int64) (k69 : Nat) (k70 : Nat) (k71 : Nat) (k73 : Nat) (x74 : Int32) (k75 : Nat) (x76 : Int32) (x77 : Int32) (w78 : Int64) (z68 : Nat) (n88 : Nat) (r93 : Int32) (rplaceG_98 : Nat) (rkindG_99 : Int32) (rbeginG_100 : Nat) (rwordG_101 : Int32) (rnumberG_102 : Int32) (rlettersG_103 : Int64) (ccodeCountG_110 : Nat) (conesG_111 : Nat) (rplaceG_113 : Nat) (rkindG_114 : Int32) (rbeginG_115 : Nat) (rwordG_116 : Int32) (rnumberG_117 : Int32) (rlettersG_118 : Int64) (ccodeCountG_140 : Nat) (iv_cse_0 : ccodeCount ≤ 40) (iv_cse_1 : cones ≤ 20) (iv_rreader_0 : rlength ≤ 940) (iv_rreader_1 : rplace ≤ rlength) (iv_rreader_2 : rmostBytes ≤ 900) (iv_rreader_3 : rbegin ≤ 940) (hTC : TC bt rtapeF) (iv_a_4 : lumps ≤ 6) (hRT : RT bt rlength rmostBytes gp rkind rbegin rplace rword rnumber rletters) (hNL : NL gnu 0 lumps lumpNamesF) (hcc : ccodeCount ≤ 2 * cones) (p16 : ccodeCountG_4 ≤ 40) (p17 : conesG_5 ≤ 20) (p18 : rplaceG_7 ≤ rlength) (p19 : rbeginG_9 ≤ 940) (t20 : isO (sAnd bt rlength rmostBytes gnu lumps 1 gp cones) = true) (t21 : RT bt rlength rmostBytes (srP (sAnd bt rlength rmostBytes gnu lumps 1 gp cones)) rkindG_8 rbeginG_9 rplaceG_7 rwordG_10 rnumberG_11 rlettersG_12) (t22 : conesG_5 = srO (sAnd bt rlength rmostBytes gnu lumps 1 gp cones)) (t23 : ccodeCountG_4 + 1 + 2 * cones ≤ ccodeCount + 2 * conesG_5) (t24 : cones < conesG_5) (j81 : k69 ≤ 20) (j82 : k70 ≤ 40) (j83 : k71 ≤ 20) (j84 : k73 ≤ 940) (j85 : k75 ≤ 940) (j86 : k73 ≤ rlength) (jRT : RT bt rlength rmostBytes z68 x74 k75 k73 x76 x77 w78) (jX : sOr bt rlength rmostBytes gnu lumps 1 gp cones = sLoop bt rlength rmostBytes 20 (sAnd bt rlength rmostBytes gnu lumps 1) 30 z68 k71) (jI : k69 + cones + 1 ≤ k71) (jC : k70 + 1 + 2 * cones ≤ ccodeCount + 2 * k71) (hm90 : 20 - k69 < n88 + 1) (c91 : k69 < 20) (p94 : r93 = x76) (c95 : r93 = nI 20) (p104 : rplaceG_98 ≤ rlength) (p105 : rbeginG_100 ≤ 940) (p106 : RT bt rlength rmostBytes (tT bt rlength rmostBytes z68) rkindG_99 rbeginG_100 rplaceG_98 rwordG_101 rnumberG_102 rlettersG_103) (p122 : ccodeCountG_110 ≤ 40) (p123 : conesG_111 ≤ 20) (p124 : rplaceG_113 ≤ rlength) (p125 : rbeginG_115 ≤ 940) (t126 : isO (sAnd bt rlength rmostBytes gnu lumps 1 (tT bt rlength rmostBytes z68) k71) = true) (t127 : RT bt rlength rmostBytes (srP (sAnd bt rlength rmostBytes gnu lumps 1 (tT bt rlength rmostBytes z68) k71)) rkindG_114 rbeginG_115 rplaceG_113 rwordG_116 rnumberG_117 rlettersG_118) (t128 : conesG_111 = srO (sAnd bt rlength rmostBytes gnu lumps 1 (tT bt rlength rmostBytes z68) k71)) (t129 : ccodeCountG_110 + 1 + 2 * k71 ≤ k70 + 2 * conesG_111) (t130 : k71 < conesG_111) (p143 : ccodeCountG_140 ≤ 40) (p144 : ccodeCountG_140 = ccodeCountG_110 + 1) : rplaceG_113 ≤ 940 := by
  have b_rkind := ia_b rkind
  have b_rword := ia_b rword
  have b_rnumber := ia_b rnumber
  have b_rkindG_8 := ia_b rkindG_8
  have b_rwordG_10 := ia_b rwordG_10
  have b_rnumberG_11 := ia_b rnumberG_11
  have b_x74 := ia_b x74
  have b_x76 := ia_b x76
  have b_x77 := ia_b x77
  have b_r93 := ia_b r93
  have b_rkindG_99 := ia_b rkindG_99
  have b_rwordG_101 := ia_b rwordG_101
  have b_rnumberG_102 := ia_b rnumberG_102
  have b_rkindG_114 := ia_b rkindG_114
  have b_rwordG_116 := ia_b rwordG_116
  have b_rnumberG_117 := ia_b rnumberG_117
  have b_rletters := Int64.toInt_lt rletters
  have b_rlettersG_12 := Int64.toInt_lt rlettersG_12
  have b_w78 := Int64.toInt_lt w78
  have b_rlettersG_103 := Int64.toInt_lt rlettersG_103
  have b_rlettersG_118 := Int64.toInt_lt rlettersG_118
  try have k_0 := ia_n 20 (by first | decide | omega)
  try simp only [ia_lt, ia_le, ia_eq, ia_m1, ia_0, ia_1, ne_eq, true_and, and_true, false_and, and_false, or_false, false_or, or_true, true_or, not_true_eq_false, not_false_eq_true] at *
  all_goals omega
set_option maxRecDepth 20000 in
theorem lf_f_snC8_7 (ccodeCount : Nat) (cones : Nat) (bt : Nat → Nat) (rlength : Nat) (rmostBytes : Nat) (rplace : Nat) (rkind : Int32) (rbegin : Nat) (rword : Int32) (rnumber : Int32) (rletters : Int64) (rtapeF : Nat → Int32) (lumps : Nat) (lumpNamesF : Nat → Int64) (gp : Nat) (gnu : Nat → Nat) (ccodeCountG_4 : Nat) (conesG_5 : Nat) (rplaceG_7 : Nat) (rkindG_8 : Int32) (rbeginG_9 : Nat) (rwordG_10 : Int32) (rnumberG_11 : Int32) (rlettersG_12 : Int64) (k69 : Nat) (k70 : Nat) (k71 : Nat) (k73 : Nat) (x74 : Int32) (k75 : Nat) (x76 : Int32) (x77 : Int32) (w78 : Int64) (z68 : Nat) (n88 : Nat) (r93 : Int32) (rplaceG_98 : Nat) (rkindG_99 : Int32) (rbeginG_100 : Nat) (rwordG_101 : Int32) (rnumberG_102 : Int32) (rlettersG_103 : Int64) (ccodeCountG_110 : Nat) (conesG_111 : Nat) (rplaceG_113 : Nat) (rkindG_114 : Int32) (rbeginG_115 : Nat) (rwordG_116 : Int32) (rnumberG_117 : Int32) (rlettersG_118 : Int64) (ccodeCountG_140 : Nat) (iv_cse_0 : ccodeCount ≤ 40) (iv_cse_1 : cones ≤ 20) (iv_rreader_0 : rlength ≤ 940) (iv_rreader_1 : rplace ≤ rlength) (iv_rreader_2 : rmostBytes ≤ 900) (iv_rreader_3 : rbegin ≤ 940) (hTC : TC bt rtapeF) (iv_a_4 : lumps ≤ 6) (hRT : RT bt rlength rmostBytes gp rkind rbegin rplace rword rnumber rletters) (hNL : NL gnu 0 lumps lumpNamesF) (hcc : ccodeCount ≤ 2 * cones) (p16 : ccodeCountG_4 ≤ 40) (p17 : conesG_5 ≤ 20) (p18 : rplaceG_7 ≤ rlength) (p19 : rbeginG_9 ≤ 940) (t20 : isO (sAnd bt rlength rmostBytes gnu lumps 1 gp cones) = true) (t21 : RT bt rlength rmostBytes (srP (sAnd bt rlength rmostBytes gnu lumps 1 gp cones)) rkindG_8 rbeginG_9 rplaceG_7 rwordG_10 rnumberG_11 rlettersG_12) (t22 : conesG_5 = srO (sAnd bt rlength rmostBytes gnu lumps 1 gp cones)) (t23 : ccodeCountG_4 + 1 + 2 * cones ≤ ccodeCount + 2 * conesG_5) (t24 : cones < conesG_5) (j81 : k69 ≤ 20) (j82 : k70 ≤ 40) (j83 : k71 ≤ 20) (j84 : k73 ≤ 940) (j85 : k75 ≤ 940) (j86 : k73 ≤ rlength) (jRT : RT bt rlength rmostBytes z68 x74 k75 k73 x76 x77 w78) (jX : sOr bt rlength rmostBytes gnu lumps 1 gp cones = sLoop bt rlength rmostBytes 20 (sAnd bt rlength rmostBytes gnu lumps 1) 30 z68 k71) (jI : k69 + cones + 1 ≤ k71) (jC : k70 + 1 + 2 * cones ≤ ccodeCount + 2 * k71) (hm90 : 20 - k69 < n88 + 1) (c91 : k69 < 20) (p94 : r93 = x76) (c95 : r93 = nI 20) (p104 : rplaceG_98 ≤ rlength) (p105 : rbeginG_100 ≤ 940) (p106 : RT bt rlength rmostBytes (tT bt rlength rmostBytes z68) rkindG_99 rbeginG_100 rplaceG_98 rwordG_101 rnumberG_102 rlettersG_103) (p122 : ccodeCountG_110 ≤ 40) (p123 : conesG_111 ≤ 20) (p124 : rplaceG_113 ≤ rlength) (p125 : rbeginG_115 ≤ 940) (t126 : isO (sAnd bt rlength rmostBytes gnu lumps 1 (tT bt rlength rmostBytes z68) k71) = true) (t127 : RT bt rlength rmostBytes (srP (sAnd bt rlength rmostBytes gnu lumps 1 (tT bt rlength rmostBytes z68) k71)) rkindG_114 rbeginG_115 rplaceG_113 rwordG_116 rnumberG_117 rlettersG_118) (t128 : conesG_111 = srO (sAnd bt rlength rmostBytes gnu lumps 1 (tT bt rlength rmostBytes z68) k71)) (t129 : ccodeCountG_110 + 1 + 2 * k71 ≤ k70 + 2 * conesG_111) (t130 : k71 < conesG_111) (p143 : ccodeCountG_140 ≤ 40) (p144 : ccodeCountG_140 = ccodeCountG_110 + 1) : sOr bt rlength rmostBytes gnu lumps 1 gp cones = sLoop bt rlength rmostBytes 20 (sAnd bt rlength rmostBytes gnu lumps 1) 30 (srP (sAnd bt rlength rmostBytes gnu lumps 1 (tT bt rlength rmostBytes z68) k71)) conesG_111 := by
  have w9 : tW bt rlength rmostBytes z68 = 20 := (RT_w jRT (by decide)).mp (by
    have kk20 := ia_n 20 (by decide)
    have b_rkind := ia_b rkind
    have b_rword := ia_b rword
    have b_rnumber := ia_b rnumber
    have b_rkindG_8 := ia_b rkindG_8
    have b_rwordG_10 := ia_b rwordG_10
    have b_rnumberG_11 := ia_b rnumberG_11
    have b_x74 := ia_b x74
    have b_x76 := ia_b x76
    have b_x77 := ia_b x77
    have b_r93 := ia_b r93
    have b_rkindG_99 := ia_b rkindG_99
    have b_rwordG_101 := ia_b rwordG_101
    have b_rnumberG_102 := ia_b rnumberG_102
    have b_rkindG_114 := ia_b rkindG_114
    have b_rwordG_116 := ia_b rwordG_116
    have b_rnumberG_117 := ia_b rnumberG_117
    have b_rletters := Int64.toInt_lt rletters
    have b_rlettersG_12 := Int64.toInt_lt rlettersG_12
    have b_w78 := Int64.toInt_lt w78
    have b_rlettersG_103 := Int64.toInt_lt rlettersG_103
    have b_rlettersG_118 := Int64.toInt_lt rlettersG_118
    try have k_0 := ia_n 20 (by first | decide | omega)
    try simp only [ia_lt, ia_le, ia_eq, ia_m1, ia_0, ia_1, ne_eq, true_and, and_true, false_and, and_false, or_false, false_or, or_true, true_or, not_true_eq_false, not_false_eq_true] at *
    all_goals omega)
  rw [jX]
  have q := sL_yes (w := 20) (sAnd_mn (B := bt) (n := rlength) (m := rmostBytes) (ν := gnu) (L := lumps) 1) (p := z68) (o := k71) (by omega) w9 (by assumption)
  subst_vars
  exact q
set_option maxRecDepth 20000 in
theorem lf_f_snC8_8 (ccodeCount : Nat) (cones : Nat) (bt : Nat → Nat) (rlength : Nat) (rmostBytes : Nat) (rplace : Nat) (rkind : Int32) (rbegin : Nat) (rword : Int32) (rnumber : Int32) (rletters : Int64) (rtapeF : Nat → Int32) (lumps : Nat) (lumpNamesF : Nat → Int64) (gp : Nat) (gnu : Nat → Nat) (ccodeCountG_4 : Nat) (conesG_5 : Nat) (rplaceG_7 : Nat) (rkindG_8 : Int32) (rbeginG_9 : Nat) (rwordG_10 : Int32) (rnumberG_11 : Int32) (rlettersG_12 : Int64) (k69 : Nat) (k70 : Nat) (k71 : Nat) (k73 : Nat) (x74 : Int32) (k75 : Nat) (x76 : Int32) (x77 : Int32) (w78 : Int64) (z68 : Nat) (n88 : Nat) (r93 : Int32) (rplaceG_98 : Nat) (rkindG_99 : Int32) (rbeginG_100 : Nat) (rwordG_101 : Int32) (rnumberG_102 : Int32) (rlettersG_103 : Int64) (ccodeCountG_110 : Nat) (conesG_111 : Nat) (rplaceG_113 : Nat) (rkindG_114 : Int32) (rbeginG_115 : Nat) (rwordG_116 : Int32) (rnumberG_117 : Int32) (rlettersG_118 : Int64) (ccodeCountG_140 : Nat) (iv_cse_0 : ccodeCount ≤ 40) (iv_cse_1 : cones ≤ 20) (iv_rreader_0 : rlength ≤ 940) (iv_rreader_1 : rplace ≤ rlength) (iv_rreader_2 : rmostBytes ≤ 900) (iv_rreader_3 : rbegin ≤ 940) (hTC : TC bt rtapeF) (iv_a_4 : lumps ≤ 6) (hRT : RT bt rlength rmostBytes gp rkind rbegin rplace rword rnumber rletters) (hNL : NL gnu 0 lumps lumpNamesF) (hcc : ccodeCount ≤ 2 * cones) (p16 : ccodeCountG_4 ≤ 40) (p17 : conesG_5 ≤ 20) (p18 : rplaceG_7 ≤ rlength) (p19 : rbeginG_9 ≤ 940) (t20 : isO (sAnd bt rlength rmostBytes gnu lumps 1 gp cones) = true) (t21 : RT bt rlength rmostBytes (srP (sAnd bt rlength rmostBytes gnu lumps 1 gp cones)) rkindG_8 rbeginG_9 rplaceG_7 rwordG_10 rnumberG_11 rlettersG_12) (t22 : conesG_5 = srO (sAnd bt rlength rmostBytes gnu lumps 1 gp cones)) (t23 : ccodeCountG_4 + 1 + 2 * cones ≤ ccodeCount + 2 * conesG_5) (t24 : cones < conesG_5) (j81 : k69 ≤ 20) (j82 : k70 ≤ 40) (j83 : k71 ≤ 20) (j84 : k73 ≤ 940) (j85 : k75 ≤ 940) (j86 : k73 ≤ rlength) (jRT : RT bt rlength rmostBytes z68 x74 k75 k73 x76 x77 w78) (jX : sOr bt rlength rmostBytes gnu lumps 1 gp cones = sLoop bt rlength rmostBytes 20 (sAnd bt rlength rmostBytes gnu lumps 1) 30 z68 k71) (jI : k69 + cones + 1 ≤ k71) (jC : k70 + 1 + 2 * cones ≤ ccodeCount + 2 * k71) (hm90 : 20 - k69 < n88 + 1) (c91 : k69 < 20) (p94 : r93 = x76) (c95 : r93 = nI 20) (p104 : rplaceG_98 ≤ rlength) (p105 : rbeginG_100 ≤ 940) (p106 : RT bt rlength rmostBytes (tT bt rlength rmostBytes z68) rkindG_99 rbeginG_100 rplaceG_98 rwordG_101 rnumberG_102 rlettersG_103) (p122 : ccodeCountG_110 ≤ 40) (p123 : conesG_111 ≤ 20) (p124 : rplaceG_113 ≤ rlength) (p125 : rbeginG_115 ≤ 940) (t126 : isO (sAnd bt rlength rmostBytes gnu lumps 1 (tT bt rlength rmostBytes z68) k71) = true) (t127 : RT bt rlength rmostBytes (srP (sAnd bt rlength rmostBytes gnu lumps 1 (tT bt rlength rmostBytes z68) k71)) rkindG_114 rbeginG_115 rplaceG_113 rwordG_116 rnumberG_117 rlettersG_118) (t128 : conesG_111 = srO (sAnd bt rlength rmostBytes gnu lumps 1 (tT bt rlength rmostBytes z68) k71)) (t129 : ccodeCountG_110 + 1 + 2 * k71 ≤ k70 + 2 * conesG_111) (t130 : k71 < conesG_111) (p143 : ccodeCountG_140 ≤ 40) (p144 : ccodeCountG_140 = ccodeCountG_110 + 1) : (k69 + 1) + cones + 1 ≤ conesG_111 := by
  have b_rkind := ia_b rkind
  have b_rword := ia_b rword
  have b_rnumber := ia_b rnumber
  have b_rkindG_8 := ia_b rkindG_8
  have b_rwordG_10 := ia_b rwordG_10
  have b_rnumberG_11 := ia_b rnumberG_11
  have b_x74 := ia_b x74
  have b_x76 := ia_b x76
  have b_x77 := ia_b x77
  have b_r93 := ia_b r93
  have b_rkindG_99 := ia_b rkindG_99
  have b_rwordG_101 := ia_b rwordG_101
  have b_rnumberG_102 := ia_b rnumberG_102
  have b_rkindG_114 := ia_b rkindG_114
  have b_rwordG_116 := ia_b rwordG_116
  have b_rnumberG_117 := ia_b rnumberG_117
  have b_rletters := Int64.toInt_lt rletters
  have b_rlettersG_12 := Int64.toInt_lt rlettersG_12
  have b_w78 := Int64.toInt_lt w78
  have b_rlettersG_103 := Int64.toInt_lt rlettersG_103
  have b_rlettersG_118 := Int64.toInt_lt rlettersG_118
  try have k_0 := ia_n 20 (by first | decide | omega)
  try simp only [ia_lt, ia_le, ia_eq, ia_m1, ia_0, ia_1, ne_eq, true_and, and_true, false_and, and_false, or_false, false_or, or_true, true_or, not_true_eq_false, not_false_eq_true] at *
  all_goals omega
set_option maxRecDepth 20000 in
theorem lf_f_snC8_9 (ccodeCount : Nat) (cones : Nat) (bt : Nat → Nat) (rlength : Nat) (rmostBytes : Nat) (rplace : Nat) (rkind : Int32) (rbegin : Nat) (rword : Int32) (rnumber : Int32) (rletters : Int64) (rtapeF : Nat → Int32) (lumps : Nat) (lumpNamesF : Nat → Int64) (gp : Nat) (gnu : Nat → Nat) (ccodeCountG_4 : Nat) (conesG_5 : Nat) (rplaceG_7 : Nat) (rkindG_8 : Int32) (rbeginG_9 : Nat) (rwordG_10 : Int32) (rnumberG_11 : Int32) (rlettersG_12 : Int64) (k69 : Nat) (k70 : Nat) (k71 : Nat) (k73 : Nat) (x74 : Int32) (k75 : Nat) (x76 : Int32) (x77 : Int32) (w78 : Int64) (z68 : Nat) (n88 : Nat) (r93 : Int32) (rplaceG_98 : Nat) (rkindG_99 : Int32) (rbeginG_100 : Nat) (rwordG_101 : Int32) (rnumberG_102 : Int32) (rlettersG_103 : Int64) (ccodeCountG_110 : Nat) (conesG_111 : Nat) (rplaceG_113 : Nat) (rkindG_114 : Int32) (rbeginG_115 : Nat) (rwordG_116 : Int32) (rnumberG_117 : Int32) (rlettersG_118 : Int64) (ccodeCountG_140 : Nat) (iv_cse_0 : ccodeCount ≤ 40) (iv_cse_1 : cones ≤ 20) (iv_rreader_0 : rlength ≤ 940) (iv_rreader_1 : rplace ≤ rlength) (iv_rreader_2 : rmostBytes ≤ 900) (iv_rreader_3 : rbegin ≤ 940) (hTC : TC bt rtapeF) (iv_a_4 : lumps ≤ 6) (hRT : RT bt rlength rmostBytes gp rkind rbegin rplace rword rnumber rletters) (hNL : NL gnu 0 lumps lumpNamesF) (hcc : ccodeCount ≤ 2 * cones) (p16 : ccodeCountG_4 ≤ 40) (p17 : conesG_5 ≤ 20) (p18 : rplaceG_7 ≤ rlength) (p19 : rbeginG_9 ≤ 940) (t20 : isO (sAnd bt rlength rmostBytes gnu lumps 1 gp cones) = true) (t21 : RT bt rlength rmostBytes (srP (sAnd bt rlength rmostBytes gnu lumps 1 gp cones)) rkindG_8 rbeginG_9 rplaceG_7 rwordG_10 rnumberG_11 rlettersG_12) (t22 : conesG_5 = srO (sAnd bt rlength rmostBytes gnu lumps 1 gp cones)) (t23 : ccodeCountG_4 + 1 + 2 * cones ≤ ccodeCount + 2 * conesG_5) (t24 : cones < conesG_5) (j81 : k69 ≤ 20) (j82 : k70 ≤ 40) (j83 : k71 ≤ 20) (j84 : k73 ≤ 940) (j85 : k75 ≤ 940) (j86 : k73 ≤ rlength) (jRT : RT bt rlength rmostBytes z68 x74 k75 k73 x76 x77 w78) (jX : sOr bt rlength rmostBytes gnu lumps 1 gp cones = sLoop bt rlength rmostBytes 20 (sAnd bt rlength rmostBytes gnu lumps 1) 30 z68 k71) (jI : k69 + cones + 1 ≤ k71) (jC : k70 + 1 + 2 * cones ≤ ccodeCount + 2 * k71) (hm90 : 20 - k69 < n88 + 1) (c91 : k69 < 20) (p94 : r93 = x76) (c95 : r93 = nI 20) (p104 : rplaceG_98 ≤ rlength) (p105 : rbeginG_100 ≤ 940) (p106 : RT bt rlength rmostBytes (tT bt rlength rmostBytes z68) rkindG_99 rbeginG_100 rplaceG_98 rwordG_101 rnumberG_102 rlettersG_103) (p122 : ccodeCountG_110 ≤ 40) (p123 : conesG_111 ≤ 20) (p124 : rplaceG_113 ≤ rlength) (p125 : rbeginG_115 ≤ 940) (t126 : isO (sAnd bt rlength rmostBytes gnu lumps 1 (tT bt rlength rmostBytes z68) k71) = true) (t127 : RT bt rlength rmostBytes (srP (sAnd bt rlength rmostBytes gnu lumps 1 (tT bt rlength rmostBytes z68) k71)) rkindG_114 rbeginG_115 rplaceG_113 rwordG_116 rnumberG_117 rlettersG_118) (t128 : conesG_111 = srO (sAnd bt rlength rmostBytes gnu lumps 1 (tT bt rlength rmostBytes z68) k71)) (t129 : ccodeCountG_110 + 1 + 2 * k71 ≤ k70 + 2 * conesG_111) (t130 : k71 < conesG_111) (p143 : ccodeCountG_140 ≤ 40) (p144 : ccodeCountG_140 = ccodeCountG_110 + 1) : ccodeCountG_140 + 1 + 2 * cones ≤ ccodeCount + 2 * conesG_111 := by
  have b_rkind := ia_b rkind
  have b_rword := ia_b rword
  have b_rnumber := ia_b rnumber
  have b_rkindG_8 := ia_b rkindG_8
  have b_rwordG_10 := ia_b rwordG_10
  have b_rnumberG_11 := ia_b rnumberG_11
  have b_x74 := ia_b x74
  have b_x76 := ia_b x76
  have b_x77 := ia_b x77
  have b_r93 := ia_b r93
  have b_rkindG_99 := ia_b rkindG_99
  have b_rwordG_101 := ia_b rwordG_101
  have b_rnumberG_102 := ia_b rnumberG_102
  have b_rkindG_114 := ia_b rkindG_114
  have b_rwordG_116 := ia_b rwordG_116
  have b_rnumberG_117 := ia_b rnumberG_117
  have b_rletters := Int64.toInt_lt rletters
  have b_rlettersG_12 := Int64.toInt_lt rlettersG_12
  have b_w78 := Int64.toInt_lt w78
  have b_rlettersG_103 := Int64.toInt_lt rlettersG_103
  have b_rlettersG_118 := Int64.toInt_lt rlettersG_118
  try have k_0 := ia_n 20 (by first | decide | omega)
  try simp only [ia_lt, ia_le, ia_eq, ia_m1, ia_0, ia_1, ne_eq, true_and, and_true, false_and, and_false, or_false, false_or, or_true, true_or, not_true_eq_false, not_false_eq_true] at *
  all_goals omega
set_option maxRecDepth 20000 in
theorem lf_f_snC8_10 (adK : Nat → Nat) (adV : Nat → Nat) (se : Nat) (ccodes : Nat) (ccodeCount : Nat) (cones : Nat) (ccodesF : Nat → Int32) (bt : Nat → Nat) (reader : Nat) (rtape : Nat) (rlength : Nat) (rmostBytes : Nat) (rplace : Nat) (rkind : Int32) (rbegin : Nat) (rword : Int32) (rnumber : Int32) (rletters : Int64) (rfaultKind : Int32) (rfaultPlace : Int32) (rtapeF : Nat → Int32) (a : Nat) (wide : Nat) (high : Nat) (heat : Int32) (cools : Int32) (skinHeat : Int32) (today : Int32) (stirs : Int32) (steps : Int32) (lumps : Nat) (boats : Nat) (thickness : Nat) (lumpNames : Nat) (lumpCells : Nat) (boatNames : Nat) (boatCells : Nat) (loads : Nat) (spoons : Nat) (spoonsLeft : Nat) (depths : Nat) (lumpNamesF : Nat → Int64) (gp : Nat) (gnu : Nat → Nat) (ccodeCountG_4 : Nat) (conesG_5 : Nat) (ccodesG_6 : Nat → Int32) (rplaceG_7 : Nat) (rkindG_8 : Int32) (rbeginG_9 : Nat) (rwordG_10 : Int32) (rnumberG_11 : Int32) (rlettersG_12 : Int64) (rfaultKindG_13 : Int32) (rfaultPlaceG_14 : Int32) (k69 : Nat) (k70 : Nat) (k71 : Nat) (f72 : Nat → Int32) (k73 : Nat) (x74 : Int32) (k75 : Nat) (x76 : Int32) (x77 : Int32) (w78 : Int64) (x79 : Int32) (x80 : Int32) (z68 : Nat) (n88 : Nat) (r93 : Int32) (rplaceG_98 : Nat) (rkindG_99 : Int32) (rbeginG_100 : Nat) (rwordG_101 : Int32) (rnumberG_102 : Int32) (rlettersG_103 : Int64) (ccodeCountG_110 : Nat) (conesG_111 : Nat) (ccodesG_112 : Nat → Int32) (rplaceG_113 : Nat) (rkindG_114 : Int32) (rbeginG_115 : Nat) (rwordG_116 : Int32) (rnumberG_117 : Int32) (rlettersG_118 : Int64) (rfaultKindG_119 : Int32) (rfaultPlaceG_120 : Int32) (ccodeCountG_140 : Nat) (ccodesG_141 : Nat → Int32) (iv_cse_0 : ccodeCount ≤ 40) (iv_cse_1 : cones ≤ 20) (iv_rreader_0 : rlength ≤ 940) (iv_rreader_1 : rplace ≤ rlength) (iv_rreader_2 : rmostBytes ≤ 900) (iv_rreader_3 : rbegin ≤ 940) (hTC : TC bt rtapeF) (iv_a_0 : 2 ≤ wide) (iv_a_1 : wide ≤ 6) (iv_a_2 : 2 ≤ high) (iv_a_3 : high ≤ 6) (iv_a_4 : lumps ≤ 6) (iv_a_5 : boats ≤ 6) (hRT : RT bt rlength rmostBytes gp rkind rbegin rplace rword rnumber rletters) (hNL : NL gnu 0 lumps lumpNamesF) (hcc : ccodeCount ≤ 2 * cones) (p16 : ccodeCountG_4 ≤ 40) (p17 : conesG_5 ≤ 20) (p18 : rplaceG_7 ≤ rlength) (p19 : rbeginG_9 ≤ 940) (t20 : isO (sAnd bt rlength rmostBytes gnu lumps 1 gp cones) = true) (t21 : RT bt rlength rmostBytes (srP (sAnd bt rlength rmostBytes gnu lumps 1 gp cones)) rkindG_8 rbeginG_9 rplaceG_7 rwordG_10 rnumberG_11 rlettersG_12) (t22 : conesG_5 = srO (sAnd bt rlength rmostBytes gnu lumps 1 gp cones)) (t23 : ccodeCountG_4 + 1 + 2 * cones ≤ ccodeCount + 2 * conesG_5) (t24 : cones < conesG_5) (t25 : rfaultKindG_13 = rfaultKind) (t26 : rfaultPlaceG_14 = rfaultPlace) (j81 : k69 ≤ 20) (j82 : k70 ≤ 40) (j83 : k71 ≤ 20) (j84 : k73 ≤ 940) (j85 : k75 ≤ 940) (j86 : k73 ≤ rlength) (jRT : RT bt rlength rmostBytes z68 x74 k75 k73 x76 x77 w78) (jX : sOr bt rlength rmostBytes gnu lumps 1 gp cones = sLoop bt rlength rmostBytes 20 (sAnd bt rlength rmostBytes gnu lumps 1) 30 z68 k71) (jI : k69 + cones + 1 ≤ k71) (jC : k70 + 1 + 2 * cones ≤ ccodeCount + 2 * k71) (jFk : x79 = rfaultKind) (jFp : x80 = rfaultPlace) (hm90 : 20 - k69 < n88 + 1) (c91 : k69 < 20) (p94 : r93 = x76) (c95 : r93 = nI 20) (p104 : rplaceG_98 ≤ rlength) (p105 : rbeginG_100 ≤ 940) (p106 : RT bt rlength rmostBytes (tT bt rlength rmostBytes z68) rkindG_99 rbeginG_100 rplaceG_98 rwordG_101 rnumberG_102 rlettersG_103) (p122 : ccodeCountG_110 ≤ 40) (p123 : conesG_111 ≤ 20) (p124 : rplaceG_113 ≤ rlength) (p125 : rbeginG_115 ≤ 940) (t126 : isO (sAnd bt rlength rmostBytes gnu lumps 1 (tT bt rlength rmostBytes z68) k71) = true) (t127 : RT bt rlength rmostBytes (srP (sAnd bt rlength rmostBytes gnu lumps 1 (tT bt rlength rmostBytes z68) k71)) rkindG_114 rbeginG_115 rplaceG_113 rwordG_116 rnumberG_117 rlettersG_118) (t128 : conesG_111 = srO (sAnd bt rlength rmostBytes gnu lumps 1 (tT bt rlength rmostBytes z68) k71)) (t129 : ccodeCountG_110 + 1 + 2 * k71 ≤ k70 + 2 * conesG_111) (t130 : k71 < conesG_111) (t131 : rfaultKindG_119 = x79) (t132 : rfaultPlaceG_120 = x80) (p143 : ccodeCountG_140 ≤ 40) (p144 : ccodeCountG_140 = ccodeCountG_110 + 1) : rfaultKindG_119 = rfaultKind := by
  subst_vars
  first
    | rfl
    | assumption
set_option maxRecDepth 20000 in
theorem lf_f_snC8_11 (adK : Nat → Nat) (adV : Nat → Nat) (se : Nat) (ccodes : Nat) (ccodeCount : Nat) (cones : Nat) (ccodesF : Nat → Int32) (bt : Nat → Nat) (reader : Nat) (rtape : Nat) (rlength : Nat) (rmostBytes : Nat) (rplace : Nat) (rkind : Int32) (rbegin : Nat) (rword : Int32) (rnumber : Int32) (rletters : Int64) (rfaultKind : Int32) (rfaultPlace : Int32) (rtapeF : Nat → Int32) (a : Nat) (wide : Nat) (high : Nat) (heat : Int32) (cools : Int32) (skinHeat : Int32) (today : Int32) (stirs : Int32) (steps : Int32) (lumps : Nat) (boats : Nat) (thickness : Nat) (lumpNames : Nat) (lumpCells : Nat) (boatNames : Nat) (boatCells : Nat) (loads : Nat) (spoons : Nat) (spoonsLeft : Nat) (depths : Nat) (lumpNamesF : Nat → Int64) (gp : Nat) (gnu : Nat → Nat) (ccodeCountG_4 : Nat) (conesG_5 : Nat) (ccodesG_6 : Nat → Int32) (rplaceG_7 : Nat) (rkindG_8 : Int32) (rbeginG_9 : Nat) (rwordG_10 : Int32) (rnumberG_11 : Int32) (rlettersG_12 : Int64) (rfaultKindG_13 : Int32) (rfaultPlaceG_14 : Int32) (k69 : Nat) (k70 : Nat) (k71 : Nat) (f72 : Nat → Int32) (k73 : Nat) (x74 : Int32) (k75 : Nat) (x76 : Int32) (x77 : Int32) (w78 : Int64) (x79 : Int32) (x80 : Int32) (z68 : Nat) (n88 : Nat) (r93 : Int32) (rplaceG_98 : Nat) (rkindG_99 : Int32) (rbeginG_100 : Nat) (rwordG_101 : Int32) (rnumberG_102 : Int32) (rlettersG_103 : Int64) (ccodeCountG_110 : Nat) (conesG_111 : Nat) (ccodesG_112 : Nat → Int32) (rplaceG_113 : Nat) (rkindG_114 : Int32) (rbeginG_115 : Nat) (rwordG_116 : Int32) (rnumberG_117 : Int32) (rlettersG_118 : Int64) (rfaultKindG_119 : Int32) (rfaultPlaceG_120 : Int32) (ccodeCountG_140 : Nat) (ccodesG_141 : Nat → Int32) (iv_cse_0 : ccodeCount ≤ 40) (iv_cse_1 : cones ≤ 20) (iv_rreader_0 : rlength ≤ 940) (iv_rreader_1 : rplace ≤ rlength) (iv_rreader_2 : rmostBytes ≤ 900) (iv_rreader_3 : rbegin ≤ 940) (hTC : TC bt rtapeF) (iv_a_0 : 2 ≤ wide) (iv_a_1 : wide ≤ 6) (iv_a_2 : 2 ≤ high) (iv_a_3 : high ≤ 6) (iv_a_4 : lumps ≤ 6) (iv_a_5 : boats ≤ 6) (hRT : RT bt rlength rmostBytes gp rkind rbegin rplace rword rnumber rletters) (hNL : NL gnu 0 lumps lumpNamesF) (hcc : ccodeCount ≤ 2 * cones) (p16 : ccodeCountG_4 ≤ 40) (p17 : conesG_5 ≤ 20) (p18 : rplaceG_7 ≤ rlength) (p19 : rbeginG_9 ≤ 940) (t20 : isO (sAnd bt rlength rmostBytes gnu lumps 1 gp cones) = true) (t21 : RT bt rlength rmostBytes (srP (sAnd bt rlength rmostBytes gnu lumps 1 gp cones)) rkindG_8 rbeginG_9 rplaceG_7 rwordG_10 rnumberG_11 rlettersG_12) (t22 : conesG_5 = srO (sAnd bt rlength rmostBytes gnu lumps 1 gp cones)) (t23 : ccodeCountG_4 + 1 + 2 * cones ≤ ccodeCount + 2 * conesG_5) (t24 : cones < conesG_5) (t25 : rfaultKindG_13 = rfaultKind) (t26 : rfaultPlaceG_14 = rfaultPlace) (j81 : k69 ≤ 20) (j82 : k70 ≤ 40) (j83 : k71 ≤ 20) (j84 : k73 ≤ 940) (j85 : k75 ≤ 940) (j86 : k73 ≤ rlength) (jRT : RT bt rlength rmostBytes z68 x74 k75 k73 x76 x77 w78) (jX : sOr bt rlength rmostBytes gnu lumps 1 gp cones = sLoop bt rlength rmostBytes 20 (sAnd bt rlength rmostBytes gnu lumps 1) 30 z68 k71) (jI : k69 + cones + 1 ≤ k71) (jC : k70 + 1 + 2 * cones ≤ ccodeCount + 2 * k71) (jFk : x79 = rfaultKind) (jFp : x80 = rfaultPlace) (hm90 : 20 - k69 < n88 + 1) (c91 : k69 < 20) (p94 : r93 = x76) (c95 : r93 = nI 20) (p104 : rplaceG_98 ≤ rlength) (p105 : rbeginG_100 ≤ 940) (p106 : RT bt rlength rmostBytes (tT bt rlength rmostBytes z68) rkindG_99 rbeginG_100 rplaceG_98 rwordG_101 rnumberG_102 rlettersG_103) (p122 : ccodeCountG_110 ≤ 40) (p123 : conesG_111 ≤ 20) (p124 : rplaceG_113 ≤ rlength) (p125 : rbeginG_115 ≤ 940) (t126 : isO (sAnd bt rlength rmostBytes gnu lumps 1 (tT bt rlength rmostBytes z68) k71) = true) (t127 : RT bt rlength rmostBytes (srP (sAnd bt rlength rmostBytes gnu lumps 1 (tT bt rlength rmostBytes z68) k71)) rkindG_114 rbeginG_115 rplaceG_113 rwordG_116 rnumberG_117 rlettersG_118) (t128 : conesG_111 = srO (sAnd bt rlength rmostBytes gnu lumps 1 (tT bt rlength rmostBytes z68) k71)) (t129 : ccodeCountG_110 + 1 + 2 * k71 ≤ k70 + 2 * conesG_111) (t130 : k71 < conesG_111) (t131 : rfaultKindG_119 = x79) (t132 : rfaultPlaceG_120 = x80) (p143 : ccodeCountG_140 ≤ 40) (p144 : ccodeCountG_140 = ccodeCountG_110 + 1) : rfaultPlaceG_120 = rfaultPlace := by
  subst_vars
  first
    | rfl
    | assumption
set_option maxRecDepth 20000 in
theorem lf_f_snC8_12 (ccodeCount : Nat) (cones : Nat) (bt : Nat → Nat) (rlength : Nat) (rmostBytes : Nat) (rplace : Nat) (rkind : Int32) (rbegin : Nat) (rword : Int32) (rnumber : Int32) (rletters : Int64) (rtapeF : Nat → Int32) (lumps : Nat) (lumpNamesF : Nat → Int64) (gp : Nat) (gnu : Nat → Nat) (ccodeCountG_4 : Nat) (conesG_5 : Nat) (rplaceG_7 : Nat) (rkindG_8 : Int32) (rbeginG_9 : Nat) (rwordG_10 : Int32) (rnumberG_11 : Int32) (rlettersG_12 : Int64) (k69 : Nat) (k70 : Nat) (k71 : Nat) (k73 : Nat) (x74 : Int32) (k75 : Nat) (x76 : Int32) (x77 : Int32) (w78 : Int64) (z68 : Nat) (n88 : Nat) (r93 : Int32) (rplaceG_98 : Nat) (rkindG_99 : Int32) (rbeginG_100 : Nat) (rwordG_101 : Int32) (rnumberG_102 : Int32) (rlettersG_103 : Int64) (ccodeCountG_110 : Nat) (conesG_111 : Nat) (rplaceG_113 : Nat) (rkindG_114 : Int32) (rbeginG_115 : Nat) (rwordG_116 : Int32) (rnumberG_117 : Int32) (rlettersG_118 : Int64) (ccodeCountG_140 : Nat) (iv_cse_0 : ccodeCount ≤ 40) (iv_cse_1 : cones ≤ 20) (iv_rreader_0 : rlength ≤ 940) (iv_rreader_1 : rplace ≤ rlength) (iv_rreader_2 : rmostBytes ≤ 900) (iv_rreader_3 : rbegin ≤ 940) (hTC : TC bt rtapeF) (iv_a_4 : lumps ≤ 6) (hRT : RT bt rlength rmostBytes gp rkind rbegin rplace rword rnumber rletters) (hNL : NL gnu 0 lumps lumpNamesF) (hcc : ccodeCount ≤ 2 * cones) (p16 : ccodeCountG_4 ≤ 40) (p17 : conesG_5 ≤ 20) (p18 : rplaceG_7 ≤ rlength) (p19 : rbeginG_9 ≤ 940) (t20 : isO (sAnd bt rlength rmostBytes gnu lumps 1 gp cones) = true) (t21 : RT bt rlength rmostBytes (srP (sAnd bt rlength rmostBytes gnu lumps 1 gp cones)) rkindG_8 rbeginG_9 rplaceG_7 rwordG_10 rnumberG_11 rlettersG_12) (t22 : conesG_5 = srO (sAnd bt rlength rmostBytes gnu lumps 1 gp cones)) (t23 : ccodeCountG_4 + 1 + 2 * cones ≤ ccodeCount + 2 * conesG_5) (t24 : cones < conesG_5) (j81 : k69 ≤ 20) (j82 : k70 ≤ 40) (j83 : k71 ≤ 20) (j84 : k73 ≤ 940) (j85 : k75 ≤ 940) (j86 : k73 ≤ rlength) (jRT : RT bt rlength rmostBytes z68 x74 k75 k73 x76 x77 w78) (jX : sOr bt rlength rmostBytes gnu lumps 1 gp cones = sLoop bt rlength rmostBytes 20 (sAnd bt rlength rmostBytes gnu lumps 1) 30 z68 k71) (jI : k69 + cones + 1 ≤ k71) (jC : k70 + 1 + 2 * cones ≤ ccodeCount + 2 * k71) (hm90 : 20 - k69 < n88 + 1) (c91 : k69 < 20) (p94 : r93 = x76) (c95 : r93 = nI 20) (p104 : rplaceG_98 ≤ rlength) (p105 : rbeginG_100 ≤ 940) (p106 : RT bt rlength rmostBytes (tT bt rlength rmostBytes z68) rkindG_99 rbeginG_100 rplaceG_98 rwordG_101 rnumberG_102 rlettersG_103) (p122 : ccodeCountG_110 ≤ 40) (p123 : conesG_111 ≤ 20) (p124 : rplaceG_113 ≤ rlength) (p125 : rbeginG_115 ≤ 940) (t126 : isO (sAnd bt rlength rmostBytes gnu lumps 1 (tT bt rlength rmostBytes z68) k71) = true) (t127 : RT bt rlength rmostBytes (srP (sAnd bt rlength rmostBytes gnu lumps 1 (tT bt rlength rmostBytes z68) k71)) rkindG_114 rbeginG_115 rplaceG_113 rwordG_116 rnumberG_117 rlettersG_118) (t128 : conesG_111 = srO (sAnd bt rlength rmostBytes gnu lumps 1 (tT bt rlength rmostBytes z68) k71)) (t129 : ccodeCountG_110 + 1 + 2 * k71 ≤ k70 + 2 * conesG_111) (t130 : k71 < conesG_111) (p143 : ccodeCountG_140 ≤ 40) (p144 : ccodeCountG_140 = ccodeCountG_110 + 1) : 20 - (k69 + 1) < n88 := by
  have b_rkind := ia_b rkind
  have b_rword := ia_b rword
  have b_rnumber := ia_b rnumber
  have b_rkindG_8 := ia_b rkindG_8
  have b_rwordG_10 := ia_b rwordG_10
  have b_rnumberG_11 := ia_b rnumberG_11
  have b_x74 := ia_b x74
  have b_x76 := ia_b x76
  have b_x77 := ia_b x77
  have b_r93 := ia_b r93
  have b_rkindG_99 := ia_b rkindG_99
  have b_rwordG_101 := ia_b rwordG_101
  have b_rnumberG_102 := ia_b rnumberG_102
  have b_rkindG_114 := ia_b rkindG_114
  have b_rwordG_116 := ia_b rwordG_116
  have b_rnumberG_117 := ia_b rnumberG_117
  have b_rletters := Int64.toInt_lt rletters
  have b_rlettersG_12 := Int64.toInt_lt rlettersG_12
  have b_w78 := Int64.toInt_lt w78
  have b_rlettersG_103 := Int64.toInt_lt rlettersG_103
  have b_rlettersG_118 := Int64.toInt_lt rlettersG_118
  try have k_0 := ia_n 20 (by first | decide | omega)
  try simp only [ia_lt, ia_le, ia_eq, ia_m1, ia_0, ia_1, ne_eq, true_and, and_true, false_and, and_false, or_false, false_or, or_true, true_or, not_true_eq_false, not_false_eq_true] at *
  all_goals omega
set_option maxRecDepth 20000 in
theorem lf_f_snC8_13 (ccodeCount : Nat) (cones : Nat) (bt : Nat → Nat) (rlength : Nat) (rmostBytes : Nat) (rplace : Nat) (rkind : Int32) (rbegin : Nat) (rword : Int32) (rnumber : Int32) (rletters : Int64) (rfaultKind : Int32) (rfaultPlace : Int32) (rtapeF : Nat → Int32) (lumps : Nat) (lumpNamesF : Nat → Int64) (gp : Nat) (gnu : Nat → Nat) (ccodeCountG_4 : Nat) (conesG_5 : Nat) (rplaceG_7 : Nat) (rkindG_8 : Int32) (rbeginG_9 : Nat) (rwordG_10 : Int32) (rnumberG_11 : Int32) (rlettersG_12 : Int64) (rfaultKindG_13 : Int32) (rfaultPlaceG_14 : Int32) (k69 : Nat) (k70 : Nat) (k71 : Nat) (k73 : Nat) (x74 : Int32) (k75 : Nat) (x76 : Int32) (x77 : Int32) (w78 : Int64) (x79 : Int32) (x80 : Int32) (z68 : Nat) (n88 : Nat) (r93 : Int32) (rplaceG_98 : Nat) (rkindG_99 : Int32) (rbeginG_100 : Nat) (rwordG_101 : Int32) (rnumberG_102 : Int32) (rlettersG_103 : Int64) (ccodeCountG_110 : Nat) (conesG_111 : Nat) (rplaceG_113 : Nat) (rkindG_114 : Int32) (rbeginG_115 : Nat) (rwordG_116 : Int32) (rnumberG_117 : Int32) (rlettersG_118 : Int64) (rfaultKindG_119 : Int32) (rfaultPlaceG_120 : Int32) (iv_cse_0 : ccodeCount ≤ 40) (iv_cse_1 : cones ≤ 20) (iv_rreader_0 : rlength ≤ 940) (iv_rreader_1 : rplace ≤ rlength) (iv_rreader_2 : rmostBytes ≤ 900) (iv_rreader_3 : rbegin ≤ 940) (hTC : TC bt rtapeF) (iv_a_4 : lumps ≤ 6) (hRT : RT bt rlength rmostBytes gp rkind rbegin rplace rword rnumber rletters) (hNL : NL gnu 0 lumps lumpNamesF) (hcc : ccodeCount ≤ 2 * cones) (p16 : ccodeCountG_4 ≤ 40) (p17 : conesG_5 ≤ 20) (p18 : rplaceG_7 ≤ rlength) (p19 : rbeginG_9 ≤ 940) (t20 : isO (sAnd bt rlength rmostBytes gnu lumps 1 gp cones) = true) (t21 : RT bt rlength rmostBytes (srP (sAnd bt rlength rmostBytes gnu lumps 1 gp cones)) rkindG_8 rbeginG_9 rplaceG_7 rwordG_10 rnumberG_11 rlettersG_12) (t22 : conesG_5 = srO (sAnd bt rlength rmostBytes gnu lumps 1 gp cones)) (t23 : ccodeCountG_4 + 1 + 2 * cones ≤ ccodeCount + 2 * conesG_5) (t24 : cones < conesG_5) (t25 : rfaultKindG_13 = rfaultKind) (t26 : rfaultPlaceG_14 = rfaultPlace) (j81 : k69 ≤ 20) (j82 : k70 ≤ 40) (j83 : k71 ≤ 20) (j84 : k73 ≤ 940) (j85 : k75 ≤ 940) (j86 : k73 ≤ rlength) (jRT : RT bt rlength rmostBytes z68 x74 k75 k73 x76 x77 w78) (jX : sOr bt rlength rmostBytes gnu lumps 1 gp cones = sLoop bt rlength rmostBytes 20 (sAnd bt rlength rmostBytes gnu lumps 1) 30 z68 k71) (jI : k69 + cones + 1 ≤ k71) (jC : k70 + 1 + 2 * cones ≤ ccodeCount + 2 * k71) (jFk : x79 = rfaultKind) (jFp : x80 = rfaultPlace) (hm90 : 20 - k69 < n88 + 1) (c91 : k69 < 20) (p94 : r93 = x76) (c95 : r93 = nI 20) (p104 : rplaceG_98 ≤ rlength) (p105 : rbeginG_100 ≤ 940) (p106 : RT bt rlength rmostBytes (tT bt rlength rmostBytes z68) rkindG_99 rbeginG_100 rplaceG_98 rwordG_101 rnumberG_102 rlettersG_103) (p122 : ccodeCountG_110 ≤ 40) (p123 : conesG_111 ≤ 20) (p124 : rplaceG_113 ≤ rlength) (p125 : rbeginG_115 ≤ 940) (t133 : isO (sAnd bt rlength rmostBytes gnu lumps 1 (tT bt rlength rmostBytes z68) k71) = false) (t134 : rfaultKindG_119 = nI (erA (sAnd bt rlength rmostBytes gnu lumps 1 (tT bt rlength rmostBytes z68) k71))) (t135 : rfaultPlaceG_120 = nI (erB (sAnd bt rlength rmostBytes gnu lumps 1 (tT bt rlength rmostBytes z68) k71))) (c147 : 20 ≤ (k69 + 1)) : ((nI 0) = nI 1 ∧ (isO (sOr bt rlength rmostBytes gnu lumps 1 gp cones) = true ∧ RT bt rlength rmostBytes (srP (sOr bt rlength rmostBytes gnu lumps 1 gp cones)) rkindG_114 rbeginG_115 rplaceG_113 rwordG_116 rnumberG_117 rlettersG_118 ∧ conesG_111 = srO (sOr bt rlength rmostBytes gnu lumps 1 gp cones) ∧ ccodeCountG_110 + 1 + 2 * cones ≤ ccodeCount + 2 * conesG_111 ∧ cones < conesG_111 ∧ rfaultKindG_119 = rfaultKind ∧ rfaultPlaceG_120 = rfaultPlace)) ∨ ((nI 0) = nI 0 ∧ (isO (sOr bt rlength rmostBytes gnu lumps 1 gp cones) = false ∧ rfaultKindG_119 = nI (erA (sOr bt rlength rmostBytes gnu lumps 1 gp cones)) ∧ rfaultPlaceG_120 = nI (erB (sOr bt rlength rmostBytes gnu lumps 1 gp cones)))) := by
  have w9 : tW bt rlength rmostBytes z68 = 20 := (RT_w jRT (by decide)).mp (by
    have kk20 := ia_n 20 (by decide)
    have b_rkind := ia_b rkind
    have b_rword := ia_b rword
    have b_rnumber := ia_b rnumber
    have b_rfaultKind := ia_b rfaultKind
    have b_rfaultPlace := ia_b rfaultPlace
    have b_rkindG_8 := ia_b rkindG_8
    have b_rwordG_10 := ia_b rwordG_10
    have b_rnumberG_11 := ia_b rnumberG_11
    have b_rfaultKindG_13 := ia_b rfaultKindG_13
    have b_rfaultPlaceG_14 := ia_b rfaultPlaceG_14
    have b_x74 := ia_b x74
    have b_x76 := ia_b x76
    have b_x77 := ia_b x77
    have b_x79 := ia_b x79
    have b_x80 := ia_b x80
    have b_r93 := ia_b r93
    have b_rkindG_99 := ia_b rkindG_99
    have b_rwordG_101 := ia_b rwordG_101
    have b_rnumberG_102 := ia_b rnumberG_102
    have b_rkindG_114 := ia_b rkindG_114
    have b_rwordG_116 := ia_b rwordG_116
    have b_rnumberG_117 := ia_b rnumberG_117
    have b_rfaultKindG_119 := ia_b rfaultKindG_119
    have b_rfaultPlaceG_120 := ia_b rfaultPlaceG_120
    have b_rletters := Int64.toInt_lt rletters
    have b_rlettersG_12 := Int64.toInt_lt rlettersG_12
    have b_w78 := Int64.toInt_lt w78
    have b_rlettersG_103 := Int64.toInt_lt rlettersG_103
    have b_rlettersG_118 := Int64.toInt_lt rlettersG_118
    try have k_0 := ia_n 20 (by first | decide | omega)
    try have k_1 := ia_n (erA (sAnd bt rlength rmostBytes gnu lumps 1 (tT bt rlength rmostBytes z68) k71)) (by first | decide | omega)
    try have k_2 := ia_n (erB (sAnd bt rlength rmostBytes gnu lumps 1 (tT bt rlength rmostBytes z68) k71)) (by first | decide | omega)
    try have k_3 := ia_n 0 (by first | decide | omega)
    try have k_4 := ia_n 1 (by first | decide | omega)
    try have k_5 := ia_n (erA (sOr bt rlength rmostBytes gnu lumps 1 gp cones)) (by first | decide | omega)
    try have k_6 := ia_n (erB (sOr bt rlength rmostBytes gnu lumps 1 gp cones)) (by first | decide | omega)
    try simp only [ia_lt, ia_le, ia_eq, ia_m1, ia_0, ia_1, ne_eq, true_and, and_true, false_and, and_false, or_false, false_or, or_true, true_or, not_true_eq_false, not_false_eq_true] at *
    all_goals omega)
  rw [jX, sL_err w9 (by assumption)]
  exact Or.inr ⟨rfl, rfl, ‹_›, ‹_›⟩
set_option maxRecDepth 20000 in
theorem lf_f_snC8_14 (ccodeCount : Nat) (cones : Nat) (bt : Nat → Nat) (rlength : Nat) (rmostBytes : Nat) (rplace : Nat) (rkind : Int32) (rbegin : Nat) (rword : Int32) (rnumber : Int32) (rletters : Int64) (rfaultKind : Int32) (rfaultPlace : Int32) (rtapeF : Nat → Int32) (lumps : Nat) (lumpNamesF : Nat → Int64) (gp : Nat) (gnu : Nat → Nat) (ccodeCountG_4 : Nat) (conesG_5 : Nat) (rplaceG_7 : Nat) (rkindG_8 : Int32) (rbeginG_9 : Nat) (rwordG_10 : Int32) (rnumberG_11 : Int32) (rlettersG_12 : Int64) (rfaultKindG_13 : Int32) (rfaultPlaceG_14 : Int32) (k69 : Nat) (k70 : Nat) (k71 : Nat) (k73 : Nat) (x74 : Int32) (k75 : Nat) (x76 : Int32) (x77 : Int32) (w78 : Int64) (x79 : Int32) (x80 : Int32) (z68 : Nat) (n88 : Nat) (r93 : Int32) (rplaceG_98 : Nat) (rkindG_99 : Int32) (rbeginG_100 : Nat) (rwordG_101 : Int32) (rnumberG_102 : Int32) (rlettersG_103 : Int64) (ccodeCountG_110 : Nat) (conesG_111 : Nat) (rplaceG_113 : Nat) (rkindG_114 : Int32) (rbeginG_115 : Nat) (rwordG_116 : Int32) (rnumberG_117 : Int32) (rlettersG_118 : Int64) (rfaultKindG_119 : Int32) (rfaultPlaceG_120 : Int32) (iv_cse_0 : ccodeCount ≤ 40) (iv_cse_1 : cones ≤ 20) (iv_rreader_0 : rlength ≤ 940) (iv_rreader_1 : rplace ≤ rlength) (iv_rreader_2 : rmostBytes ≤ 900) (iv_rreader_3 : rbegin ≤ 940) (hTC : TC bt rtapeF) (iv_a_4 : lumps ≤ 6) (hRT : RT bt rlength rmostBytes gp rkind rbegin rplace rword rnumber rletters) (hNL : NL gnu 0 lumps lumpNamesF) (hcc : ccodeCount ≤ 2 * cones) (p16 : ccodeCountG_4 ≤ 40) (p17 : conesG_5 ≤ 20) (p18 : rplaceG_7 ≤ rlength) (p19 : rbeginG_9 ≤ 940) (t20 : isO (sAnd bt rlength rmostBytes gnu lumps 1 gp cones) = true) (t21 : RT bt rlength rmostBytes (srP (sAnd bt rlength rmostBytes gnu lumps 1 gp cones)) rkindG_8 rbeginG_9 rplaceG_7 rwordG_10 rnumberG_11 rlettersG_12) (t22 : conesG_5 = srO (sAnd bt rlength rmostBytes gnu lumps 1 gp cones)) (t23 : ccodeCountG_4 + 1 + 2 * cones ≤ ccodeCount + 2 * conesG_5) (t24 : cones < conesG_5) (t25 : rfaultKindG_13 = rfaultKind) (t26 : rfaultPlaceG_14 = rfaultPlace) (j81 : k69 ≤ 20) (j82 : k70 ≤ 40) (j83 : k71 ≤ 20) (j84 : k73 ≤ 940) (j85 : k75 ≤ 940) (j86 : k73 ≤ rlength) (jRT : RT bt rlength rmostBytes z68 x74 k75 k73 x76 x77 w78) (jX : sOr bt rlength rmostBytes gnu lumps 1 gp cones = sLoop bt rlength rmostBytes 20 (sAnd bt rlength rmostBytes gnu lumps 1) 30 z68 k71) (jI : k69 + cones + 1 ≤ k71) (jC : k70 + 1 + 2 * cones ≤ ccodeCount + 2 * k71) (jFk : x79 = rfaultKind) (jFp : x80 = rfaultPlace) (hm90 : 20 - k69 < n88 + 1) (c91 : k69 < 20) (p94 : r93 = x76) (c95 : r93 = nI 20) (p104 : rplaceG_98 ≤ rlength) (p105 : rbeginG_100 ≤ 940) (p106 : RT bt rlength rmostBytes (tT bt rlength rmostBytes z68) rkindG_99 rbeginG_100 rplaceG_98 rwordG_101 rnumberG_102 rlettersG_103) (p122 : ccodeCountG_110 ≤ 40) (p123 : conesG_111 ≤ 20) (p124 : rplaceG_113 ≤ rlength) (p125 : rbeginG_115 ≤ 940) (t133 : isO (sAnd bt rlength rmostBytes gnu lumps 1 (tT bt rlength rmostBytes z68) k71) = false) (t134 : rfaultKindG_119 = nI (erA (sAnd bt rlength rmostBytes gnu lumps 1 (tT bt rlength rmostBytes z68) k71))) (t135 : rfaultPlaceG_120 = nI (erB (sAnd bt rlength rmostBytes gnu lumps 1 (tT bt rlength rmostBytes z68) k71))) (c147 : (k69 + 1) < 20) : ((nI 0) = nI 1 ∧ (isO (sOr bt rlength rmostBytes gnu lumps 1 gp cones) = true ∧ RT bt rlength rmostBytes (srP (sOr bt rlength rmostBytes gnu lumps 1 gp cones)) rkindG_114 rbeginG_115 rplaceG_113 rwordG_116 rnumberG_117 rlettersG_118 ∧ conesG_111 = srO (sOr bt rlength rmostBytes gnu lumps 1 gp cones) ∧ ccodeCountG_110 + 1 + 2 * cones ≤ ccodeCount + 2 * conesG_111 ∧ cones < conesG_111 ∧ rfaultKindG_119 = rfaultKind ∧ rfaultPlaceG_120 = rfaultPlace)) ∨ ((nI 0) = nI 0 ∧ (isO (sOr bt rlength rmostBytes gnu lumps 1 gp cones) = false ∧ rfaultKindG_119 = nI (erA (sOr bt rlength rmostBytes gnu lumps 1 gp cones)) ∧ rfaultPlaceG_120 = nI (erB (sOr bt rlength rmostBytes gnu lumps 1 gp cones)))) := by
  have w9 : tW bt rlength rmostBytes z68 = 20 := (RT_w jRT (by decide)).mp (by
    have kk20 := ia_n 20 (by decide)
    have b_rkind := ia_b rkind
    have b_rword := ia_b rword
    have b_rnumber := ia_b rnumber
    have b_rfaultKind := ia_b rfaultKind
    have b_rfaultPlace := ia_b rfaultPlace
    have b_rkindG_8 := ia_b rkindG_8
    have b_rwordG_10 := ia_b rwordG_10
    have b_rnumberG_11 := ia_b rnumberG_11
    have b_rfaultKindG_13 := ia_b rfaultKindG_13
    have b_rfaultPlaceG_14 := ia_b rfaultPlaceG_14
    have b_x74 := ia_b x74
    have b_x76 := ia_b x76
    have b_x77 := ia_b x77
    have b_x79 := ia_b x79
    have b_x80 := ia_b x80
    have b_r93 := ia_b r93
    have b_rkindG_99 := ia_b rkindG_99
    have b_rwordG_101 := ia_b rwordG_101
    have b_rnumberG_102 := ia_b rnumberG_102
    have b_rkindG_114 := ia_b rkindG_114
    have b_rwordG_116 := ia_b rwordG_116
    have b_rnumberG_117 := ia_b rnumberG_117
    have b_rfaultKindG_119 := ia_b rfaultKindG_119
    have b_rfaultPlaceG_120 := ia_b rfaultPlaceG_120
    have b_rletters := Int64.toInt_lt rletters
    have b_rlettersG_12 := Int64.toInt_lt rlettersG_12
    have b_w78 := Int64.toInt_lt w78
    have b_rlettersG_103 := Int64.toInt_lt rlettersG_103
    have b_rlettersG_118 := Int64.toInt_lt rlettersG_118
    try have k_0 := ia_n 20 (by first | decide | omega)
    try have k_1 := ia_n (erA (sAnd bt rlength rmostBytes gnu lumps 1 (tT bt rlength rmostBytes z68) k71)) (by first | decide | omega)
    try have k_2 := ia_n (erB (sAnd bt rlength rmostBytes gnu lumps 1 (tT bt rlength rmostBytes z68) k71)) (by first | decide | omega)
    try have k_3 := ia_n 0 (by first | decide | omega)
    try have k_4 := ia_n 1 (by first | decide | omega)
    try have k_5 := ia_n (erA (sOr bt rlength rmostBytes gnu lumps 1 gp cones)) (by first | decide | omega)
    try have k_6 := ia_n (erB (sOr bt rlength rmostBytes gnu lumps 1 gp cones)) (by first | decide | omega)
    try simp only [ia_lt, ia_le, ia_eq, ia_m1, ia_0, ia_1, ne_eq, true_and, and_true, false_and, and_false, or_false, false_or, or_true, true_or, not_true_eq_false, not_false_eq_true] at *
    all_goals omega)
  rw [jX, sL_err w9 (by assumption)]
  exact Or.inr ⟨rfl, rfl, ‹_›, ‹_›⟩
set_option maxRecDepth 20000 in
theorem lf_f_snC8_15   : 0 ≤ 20 := by
  try simp only [ia_lt, ia_le, ia_eq, ia_m1, ia_0, ia_1, ne_eq, true_and, and_true, false_and, and_false, or_false, false_or, or_true, true_or, not_true_eq_false, not_false_eq_true] at *
  all_goals omega
set_option maxRecDepth 20000 in
theorem lf_f_snC8_16 (ccodeCount : Nat) (cones : Nat) (bt : Nat → Nat) (rlength : Nat) (rmostBytes : Nat) (rplace : Nat) (rkind : Int32) (rbegin : Nat) (rword : Int32) (rnumber : Int32) (rletters : Int64) (rtapeF : Nat → Int32) (lumps : Nat) (lumpNamesF : Nat → Int64) (gp : Nat) (gnu : Nat → Nat) (ccodeCountG_4 : Nat) (conesG_5 : Nat) (rplaceG_7 : Nat) (rkindG_8 : Int32) (rbeginG_9 : Nat) (rwordG_10 : Int32) (rnumberG_11 : Int32) (rlettersG_12 : Int64) (iv_cse_0 : ccodeCount ≤ 40) (iv_cse_1 : cones ≤ 20) (iv_rreader_0 : rlength ≤ 940) (iv_rreader_1 : rplace ≤ rlength) (iv_rreader_2 : rmostBytes ≤ 900) (iv_rreader_3 : rbegin ≤ 940) (hTC : TC bt rtapeF) (iv_a_4 : lumps ≤ 6) (hRT : RT bt rlength rmostBytes gp rkind rbegin rplace rword rnumber rletters) (hNL : NL gnu 0 lumps lumpNamesF) (hcc : ccodeCount ≤ 2 * cones) (p16 : ccodeCountG_4 ≤ 40) (p17 : conesG_5 ≤ 20) (p18 : rplaceG_7 ≤ rlength) (p19 : rbeginG_9 ≤ 940) (t20 : isO (sAnd bt rlength rmostBytes gnu lumps 1 gp cones) = true) (t21 : RT bt rlength rmostBytes (srP (sAnd bt rlength rmostBytes gnu lumps 1 gp cones)) rkindG_8 rbeginG_9 rplaceG_7 rwordG_10 rnumberG_11 rlettersG_12) (t22 : conesG_5 = srO (sAnd bt rlength rmostBytes gnu lumps 1 gp cones)) (t23 : ccodeCountG_4 + 1 + 2 * cones ≤ ccodeCount + 2 * conesG_5) (t24 : cones < conesG_5) : rplaceG_7 ≤ 940 := by
  have b_rkind := ia_b rkind
  have b_rword := ia_b rword
  have b_rnumber := ia_b rnumber
  have b_rkindG_8 := ia_b rkindG_8
  have b_rwordG_10 := ia_b rwordG_10
  have b_rnumberG_11 := ia_b rnumberG_11
  have b_rletters := Int64.toInt_lt rletters
  have b_rlettersG_12 := Int64.toInt_lt rlettersG_12
  try simp only [ia_lt, ia_le, ia_eq, ia_m1, ia_0, ia_1, ne_eq, true_and, and_true, false_and, and_false, or_false, false_or, or_true, true_or, not_true_eq_false, not_false_eq_true] at *
  all_goals omega
set_option maxRecDepth 20000 in
theorem lf_f_snC8_17 (ccodeCount : Nat) (cones : Nat) (bt : Nat → Nat) (rlength : Nat) (rmostBytes : Nat) (rplace : Nat) (rkind : Int32) (rbegin : Nat) (rword : Int32) (rnumber : Int32) (rletters : Int64) (rtapeF : Nat → Int32) (lumps : Nat) (lumpNamesF : Nat → Int64) (gp : Nat) (gnu : Nat → Nat) (ccodeCountG_4 : Nat) (conesG_5 : Nat) (rplaceG_7 : Nat) (rkindG_8 : Int32) (rbeginG_9 : Nat) (rwordG_10 : Int32) (rnumberG_11 : Int32) (rlettersG_12 : Int64) (iv_cse_0 : ccodeCount ≤ 40) (iv_cse_1 : cones ≤ 20) (iv_rreader_0 : rlength ≤ 940) (iv_rreader_1 : rplace ≤ rlength) (iv_rreader_2 : rmostBytes ≤ 900) (iv_rreader_3 : rbegin ≤ 940) (hTC : TC bt rtapeF) (iv_a_4 : lumps ≤ 6) (hRT : RT bt rlength rmostBytes gp rkind rbegin rplace rword rnumber rletters) (hNL : NL gnu 0 lumps lumpNamesF) (hcc : ccodeCount ≤ 2 * cones) (p16 : ccodeCountG_4 ≤ 40) (p17 : conesG_5 ≤ 20) (p18 : rplaceG_7 ≤ rlength) (p19 : rbeginG_9 ≤ 940) (t20 : isO (sAnd bt rlength rmostBytes gnu lumps 1 gp cones) = true) (t21 : RT bt rlength rmostBytes (srP (sAnd bt rlength rmostBytes gnu lumps 1 gp cones)) rkindG_8 rbeginG_9 rplaceG_7 rwordG_10 rnumberG_11 rlettersG_12) (t22 : conesG_5 = srO (sAnd bt rlength rmostBytes gnu lumps 1 gp cones)) (t23 : ccodeCountG_4 + 1 + 2 * cones ≤ ccodeCount + 2 * conesG_5) (t24 : cones < conesG_5) : sOr bt rlength rmostBytes gnu lumps 1 gp cones = sLoop bt rlength rmostBytes 20 (sAnd bt rlength rmostBytes gnu lumps 1) 30 (srP (sAnd bt rlength rmostBytes gnu lumps 1 gp cones)) conesG_5 := by
  unfold sOr
  have q := sS_ok (B := bt) (n := rlength) (m := rmostBytes) (w := 20) (f := sAnd bt rlength rmostBytes gnu lumps 1) (p := gp) (o := cones) (by assumption)
  subst_vars
  exact q
set_option maxRecDepth 20000 in
theorem lf_f_snC8_18 (ccodeCount : Nat) (cones : Nat) (bt : Nat → Nat) (rlength : Nat) (rmostBytes : Nat) (rplace : Nat) (rkind : Int32) (rbegin : Nat) (rword : Int32) (rnumber : Int32) (rletters : Int64) (rtapeF : Nat → Int32) (lumps : Nat) (lumpNamesF : Nat → Int64) (gp : Nat) (gnu : Nat → Nat) (ccodeCountG_4 : Nat) (conesG_5 : Nat) (rplaceG_7 : Nat) (rkindG_8 : Int32) (rbeginG_9 : Nat) (rwordG_10 : Int32) (rnumberG_11 : Int32) (rlettersG_12 : Int64) (iv_cse_0 : ccodeCount ≤ 40) (iv_cse_1 : cones ≤ 20) (iv_rreader_0 : rlength ≤ 940) (iv_rreader_1 : rplace ≤ rlength) (iv_rreader_2 : rmostBytes ≤ 900) (iv_rreader_3 : rbegin ≤ 940) (hTC : TC bt rtapeF) (iv_a_4 : lumps ≤ 6) (hRT : RT bt rlength rmostBytes gp rkind rbegin rplace rword rnumber rletters) (hNL : NL gnu 0 lumps lumpNamesF) (hcc : ccodeCount ≤ 2 * cones) (p16 : ccodeCountG_4 ≤ 40) (p17 : conesG_5 ≤ 20) (p18 : rplaceG_7 ≤ rlength) (p19 : rbeginG_9 ≤ 940) (t20 : isO (sAnd bt rlength rmostBytes gnu lumps 1 gp cones) = true) (t21 : RT bt rlength rmostBytes (srP (sAnd bt rlength rmostBytes gnu lumps 1 gp cones)) rkindG_8 rbeginG_9 rplaceG_7 rwordG_10 rnumberG_11 rlettersG_12) (t22 : conesG_5 = srO (sAnd bt rlength rmostBytes gnu lumps 1 gp cones)) (t23 : ccodeCountG_4 + 1 + 2 * cones ≤ ccodeCount + 2 * conesG_5) (t24 : cones < conesG_5) : 0 + cones + 1 ≤ conesG_5 := by
  have b_rkind := ia_b rkind
  have b_rword := ia_b rword
  have b_rnumber := ia_b rnumber
  have b_rkindG_8 := ia_b rkindG_8
  have b_rwordG_10 := ia_b rwordG_10
  have b_rnumberG_11 := ia_b rnumberG_11
  have b_rletters := Int64.toInt_lt rletters
  have b_rlettersG_12 := Int64.toInt_lt rlettersG_12
  try simp only [ia_lt, ia_le, ia_eq, ia_m1, ia_0, ia_1, ne_eq, true_and, and_true, false_and, and_false, or_false, false_or, or_true, true_or, not_true_eq_false, not_false_eq_true] at *
  all_goals omega
set_option maxRecDepth 20000 in
theorem lf_f_snC8_19 (ccodeCount : Nat) (cones : Nat) (bt : Nat → Nat) (rlength : Nat) (rmostBytes : Nat) (rplace : Nat) (rkind : Int32) (rbegin : Nat) (rword : Int32) (rnumber : Int32) (rletters : Int64) (rfaultKind : Int32) (rfaultPlace : Int32) (rtapeF : Nat → Int32) (lumps : Nat) (lumpNamesF : Nat → Int64) (gp : Nat) (gnu : Nat → Nat) (ccodeCountG_4 : Nat) (conesG_5 : Nat) (rplaceG_7 : Nat) (rkindG_8 : Int32) (rbeginG_9 : Nat) (rwordG_10 : Int32) (rnumberG_11 : Int32) (rlettersG_12 : Int64) (rfaultKindG_13 : Int32) (rfaultPlaceG_14 : Int32) (iv_cse_0 : ccodeCount ≤ 40) (iv_cse_1 : cones ≤ 20) (iv_rreader_0 : rlength ≤ 940) (iv_rreader_1 : rplace ≤ rlength) (iv_rreader_2 : rmostBytes ≤ 900) (iv_rreader_3 : rbegin ≤ 940) (hTC : TC bt rtapeF) (iv_a_4 : lumps ≤ 6) (hRT : RT bt rlength rmostBytes gp rkind rbegin rplace rword rnumber rletters) (hNL : NL gnu 0 lumps lumpNamesF) (hcc : ccodeCount ≤ 2 * cones) (p16 : ccodeCountG_4 ≤ 40) (p17 : conesG_5 ≤ 20) (p18 : rplaceG_7 ≤ rlength) (p19 : rbeginG_9 ≤ 940) (t27 : isO (sAnd bt rlength rmostBytes gnu lumps 1 gp cones) = false) (t28 : rfaultKindG_13 = nI (erA (sAnd bt rlength rmostBytes gnu lumps 1 gp cones))) (t29 : rfaultPlaceG_14 = nI (erB (sAnd bt rlength rmostBytes gnu lumps 1 gp cones))) : ((nI 0) = nI 1 ∧ (isO (sOr bt rlength rmostBytes gnu lumps 1 gp cones) = true ∧ RT bt rlength rmostBytes (srP (sOr bt rlength rmostBytes gnu lumps 1 gp cones)) rkindG_8 rbeginG_9 rplaceG_7 rwordG_10 rnumberG_11 rlettersG_12 ∧ conesG_5 = srO (sOr bt rlength rmostBytes gnu lumps 1 gp cones) ∧ ccodeCountG_4 + 1 + 2 * cones ≤ ccodeCount + 2 * conesG_5 ∧ cones < conesG_5 ∧ rfaultKindG_13 = rfaultKind ∧ rfaultPlaceG_14 = rfaultPlace)) ∨ ((nI 0) = nI 0 ∧ (isO (sOr bt rlength rmostBytes gnu lumps 1 gp cones) = false ∧ rfaultKindG_13 = nI (erA (sOr bt rlength rmostBytes gnu lumps 1 gp cones)) ∧ rfaultPlaceG_14 = nI (erB (sOr bt rlength rmostBytes gnu lumps 1 gp cones)))) := by
  unfold sOr
  rw [sS_err (by assumption)]
  exact Or.inr ⟨rfl, rfl, ‹_›, ‹_›⟩
set_option maxHeartbeats 4000000 in
set_option maxRecDepth 100000 in
theorem c_f_snC8 (l : Launch) (dC : Nat → ClassId) (dI : Nat → Nat → Nat) (ky : Nat → ClassId) (sz : Nat) (adK : Nat → Nat) (adV : Nat → Nat) (se : Nat) (ccodes : Nat) (ccodeCount : Nat) (cones : Nat) (ccodesF : Nat → Int32) (bt : Nat → Nat) (reader : Nat) (rtape : Nat) (rlength : Nat) (rmostBytes : Nat) (rplace : Nat) (rkind : Int32) (rbegin : Nat) (rword : Int32) (rnumber : Int32) (rletters : Int64) (rfaultKind : Int32) (rfaultPlace : Int32) (rtapeF : Nat → Int32) (a : Nat) (wide : Nat) (high : Nat) (heat : Int32) (cools : Int32) (skinHeat : Int32) (today : Int32) (stirs : Int32) (steps : Int32) (lumps : Nat) (boats : Nat) (thickness : Nat) (lumpNames : Nat) (lumpCells : Nat) (boatNames : Nat) (boatCells : Nat) (loads : Nat) (spoons : Nat) (spoonsLeft : Nat) (depths : Nat) (lumpNamesF : Nat → Int64) (gp : Nat) (gnu : Nat → Nat) (iv_cse_0 : ccodeCount ≤ 40) (iv_cse_1 : cones ≤ 20) (iv_rreader_0 : rlength ≤ 940) (iv_rreader_1 : rplace ≤ rlength) (iv_rreader_2 : rmostBytes ≤ 900) (iv_rreader_3 : rbegin ≤ 940) (hTC : TC bt rtapeF) (iv_a_0 : 2 ≤ wide) (iv_a_1 : wide ≤ 6) (iv_a_2 : 2 ≤ high) (iv_a_3 : high ≤ 6) (iv_a_4 : lumps ≤ 6) (iv_a_5 : boats ≤ 6) (hRT : RT bt rlength rmostBytes gp rkind rbegin rplace rword rnumber rletters) (hNL : NL gnu 0 lumps lumpNamesF) (hcc : ccodeCount ≤ 2 * cones) : Met l yX9_readCond wsX9_readCond ({ frames := 10, cells := 0, slots := 0, locals := 228 }) (PcUE dC dI ky adK adV [.ref se, .ref reader, .ref a, .int (nI 8)] [(se, .inr (9, [.ref ccodes, .int (nI ccodeCount), .int (nI cones)])), (ccodes, .inl (ky 0, 40, .inl ccodesF)), (reader, .inr (5, [.ref rtape, .int (nI rlength), .int (nI rmostBytes), .int (nI rplace), .int rkind, .int (nI rbegin), .int rword, .int rnumber, .long rletters, .int rfaultKind, .int rfaultPlace])), (rtape, .inl (ky 2, 940, .inl rtapeF)), (a, .inr (7, [.int (nI wide), .int (nI high), .int heat, .int cools, .int skinHeat, .int today, .int stirs, .int steps, .int (nI lumps), .int (nI boats), .ref thickness, .ref lumpNames, .ref lumpCells, .ref boatNames, .ref boatCells, .ref loads, .ref spoons, .ref spoonsLeft, .ref depths])), (lumpNames, .inl (ky 1, 6, .inr (.inl lumpNamesF)))] sz) (va_Qi (fun (r : Int32) (u : Nat × Nat × (Nat → Int32) × Nat × Int32 × Nat × Int32 × Int32 × Int64 × Int32 × Int32) => match u with | (ccodeCountG, conesG, ccodesG, rplaceG, rkindG, rbeginG, rwordG, rnumberG, rlettersG, rfaultKindG, rfaultPlaceG) => ((r = nI 1 ∧ (isO (sOr bt rlength rmostBytes gnu lumps 1 gp cones) = true ∧ RT bt rlength rmostBytes (srP (sOr bt rlength rmostBytes gnu lumps 1 gp cones)) rkindG rbeginG rplaceG rwordG rnumberG rlettersG ∧ conesG = srO (sOr bt rlength rmostBytes gnu lumps 1 gp cones) ∧ ccodeCountG + 1 + 2 * cones ≤ ccodeCount + 2 * conesG ∧ cones < conesG ∧ rfaultKindG = rfaultKind ∧ rfaultPlaceG = rfaultPlace)) ∨ (r = nI 0 ∧ (isO (sOr bt rlength rmostBytes gnu lumps 1 gp cones) = false ∧ rfaultKindG = nI (erA (sOr bt rlength rmostBytes gnu lumps 1 gp cones)) ∧ rfaultPlaceG = nI (erB (sOr bt rlength rmostBytes gnu lumps 1 gp cones))))) ∧ (ccodeCountG ≤ 40) ∧ (conesG ≤ 20) ∧ (rplaceG ≤ rlength) ∧ (rbeginG ≤ 940)) (BU dC dI ky (fun (u : Nat × Nat × (Nat → Int32) × Nat × Int32 × Nat × Int32 × Int32 × Int64 × Int32 × Int32) => match u with | (ccodeCountG, conesG, ccodesG, rplaceG, rkindG, rbeginG, rwordG, rnumberG, rlettersG, rfaultKindG, rfaultPlaceG) => [(se, .inr (9, [.ref ccodes, .int (nI ccodeCountG), .int (nI conesG)])), (ccodes, .inl (ky 0, 40, .inl ccodesG)), (reader, .inr (5, [.ref rtape, .int (nI rlength), .int (nI rmostBytes), .int (nI rplaceG), .int rkindG, .int (nI rbeginG), .int rwordG, .int rnumberG, .long rlettersG, .int rfaultKindG, .int rfaultPlaceG])), (rtape, .inl (ky 2, 940, .inl rtapeF)), (a, .inr (7, [.int (nI wide), .int (nI high), .int heat, .int cools, .int skinHeat, .int today, .int stirs, .int steps, .int (nI lumps), .int (nI boats), .ref thickness, .ref lumpNames, .ref lumpCells, .ref boatNames, .ref boatCells, .ref loads, .ref spoons, .ref spoonsLeft, .ref depths])), (lumpNames, .inl (ky 1, 6, .inr (.inl lumpNamesF)))]) (va_A [(se, .inr (9, [.ref ccodes, .int (nI ccodeCount), .int (nI cones)])), (ccodes, .inl (ky 0, 40, .inl ccodesF)), (reader, .inr (5, [.ref rtape, .int (nI rlength), .int (nI rmostBytes), .int (nI rplace), .int rkind, .int (nI rbegin), .int rword, .int rnumber, .long rletters, .int rfaultKind, .int rfaultPlace])), (rtape, .inl (ky 2, 940, .inl rtapeF)), (a, .inr (7, [.int (nI wide), .int (nI high), .int heat, .int cools, .int skinHeat, .int today, .int stirs, .int steps, .int (nI lumps), .int (nI boats), .ref thickness, .ref lumpNames, .ref lumpCells, .ref boatNames, .ref boatCells, .ref loads, .ref spoons, .ref spoonsLeft, .ref depths])), (lumpNames, .inl (ky 1, 6, .inr (.inl lumpNamesF)))] sz)) (va_A [(se, .inr (9, [.ref ccodes, .int (nI ccodeCount), .int (nI cones)])), (ccodes, .inl (ky 0, 40, .inl ccodesF)), (reader, .inr (5, [.ref rtape, .int (nI rlength), .int (nI rmostBytes), .int (nI rplace), .int rkind, .int (nI rbegin), .int rword, .int rnumber, .long rletters, .int rfaultKind, .int rfaultPlace])), (rtape, .inl (ky 2, 940, .inl rtapeF)), (a, .inr (7, [.int (nI wide), .int (nI high), .int heat, .int cools, .int skinHeat, .int today, .int stirs, .int steps, .int (nI lumps), .int (nI boats), .ref thickness, .ref lumpNames, .ref lumpCells, .ref boatNames, .ref boatCells, .ref loads, .ref spoons, .ref spoonsLeft, .ref depths])), (lumpNames, .inl (ky 1, 6, .inr (.inl lumpNamesF)))] sz)) 0 0 (va_A [(se, .inr (9, [.ref ccodes, .int (nI ccodeCount), .int (nI cones)])), (ccodes, .inl (ky 0, 40, .inl ccodesF)), (reader, .inr (5, [.ref rtape, .int (nI rlength), .int (nI rmostBytes), .int (nI rplace), .int rkind, .int (nI rbegin), .int rword, .int rnumber, .long rletters, .int rfaultKind, .int rfaultPlace])), (rtape, .inl (ky 2, 940, .inl rtapeF)), (a, .inr (7, [.int (nI wide), .int (nI high), .int heat, .int cools, .int skinHeat, .int today, .int stirs, .int steps, .int (nI lumps), .int (nI boats), .ref thickness, .ref lumpNames, .ref lumpCells, .ref boatNames, .ref boatCells, .ref loads, .ref spoons, .ref spoonsLeft, .ref depths])), (lumpNames, .inl (ky 1, 6, .inr (.inl lumpNamesF)))] sz) := by
  refine Met.ofW (cc := cX9_readCond) (maxL := 6) (ret := (some .boolean)) (by decide) rfl ?_
  intro p e s m args below meth c s₁ B hml hv
  obtain ⟨rfl, hsz, hP, hK, hD0, hE⟩ := hv
  have hx := B.exec
  have hb := B.bytes
  have hr := B.returns
  have hts := atoms_spec (ws := wsX9_readCond) B.pre
  have hown : s.vm.findClass RX9 = some m.cls := findClass_of_methodNamed B.named
  have hlocks := B.notSynchronized
  subst hsz
  have hD := hD0.self (sz := s.heap.size)
  generalize hAe : va_A [(se, .inr (9, [.ref ccodes, .int (nI ccodeCount), .int (nI cones)])), (ccodes, .inl (ky 0, 40, .inl ccodesF)), (reader, .inr (5, [.ref rtape, .int (nI rlength), .int (nI rmostBytes), .int (nI rplace), .int rkind, .int (nI rbegin), .int rword, .int rnumber, .long rletters, .int rfaultKind, .int rfaultPlace])), (rtape, .inl (ky 2, 940, .inl rtapeF)), (a, .inr (7, [.int (nI wide), .int (nI high), .int heat, .int cools, .int skinHeat, .int today, .int stirs, .int steps, .int (nI lumps), .int (nI boats), .ref thickness, .ref lumpNames, .ref lumpCells, .ref boatNames, .ref boatCells, .ref loads, .ref spoons, .ref spoonsLeft, .ref depths])), (lumpNames, .inl (ky 1, 6, .inr (.inl lumpNamesF)))] s.heap.size = A at hD hE ⊢
  have hA : ∀ q : Nat, s.heap.size ≤ q → A q := fun q h => by rw [← hAe]; exact Or.inr h
  have hS : va_S A s.heap s.heap [] := va_S.rf
  have hl := lv_entry ([.ref se, .ref reader, .ref a, .int (nI 8)]) (n := 6) (Nat.le_of_ble_eq_true rfl)
  rw [lg_entry_eq]
  generalize (lg_sl ([.ref se, .ref reader, .ref a, .int (nI 8)]) ++ List.replicate (6 - (lg_sl ([.ref se, .ref reader, .ref a, .int (nI 8)])).length) Slot.unset).toArray = ls at hl ⊢
  have hl : lv_has ls 6 [(0, .ref se), (1, .ref reader), (2, .ref a), (3, .int (nI 8))] := hl
  refine q_name (fun Q hQ => ?_)
  generalize ([.ref se, .ref reader, .ref a, .int (nI 8)] : List Value).toArray = args at hts hQ ⊢
  refine lv_aload_n hx hb dX9_readCond_0 rfl (lv_at hl 0 rfl) ?_
  refine lv_aload_n hx hb dX9_readCond_1 rfl (lv_at hl 1 rfl) ?_
  refine lv_aload_n hx hb dX9_readCond_2 rfl (lv_at hl 2 rfl) ?_
  refine lv_iload_n hx hb dX9_readCond_3 rfl (lv_at hl 3 rfl) ?_
  refine r_call_i (wr := []) (va_runV (As := [.ref reader, .ref a, .int (nI 8)]) (rest := []) ⟨hx, hb, hml, hown, hts⟩ (c_f_snA8 l dC dI ky s.heap.size adK adV se ccodes ccodeCount cones ccodesF bt reader rtape rlength rmostBytes rplace rkind rbegin rword rnumber rletters rfaultKind rfaultPlace rtapeF a wide high heat cools skinHeat today stirs steps lumps boats thickness lumpNames lumpCells boatNames boatCells loads spoons spoonsLeft depths lumpNamesF gp gnu iv_cse_0 iv_cse_1 iv_rreader_0 iv_rreader_1 iv_rreader_2 iv_rreader_3 hTC iv_a_0 iv_a_1 iv_a_2 iv_a_3 iv_a_4 iv_a_5 hRT hNL hcc) (cwV 3 hts gX9_readCond_X9_readAll rfl rfl rfl (by decide +kernel) ⟨(Nat.le_of_ble_eq_true rfl), (Nat.le_of_ble_eq_true rfl)⟩) (pre_UEV hE hS hA hK hP hD [0, 1, 2, 3, 4, 5] (by decide) rfl (va_recv hK hP (ci := 9) (q0 := 0) rfl rfl)) rfl rfl hl.1 rfl (lv_room (Nat.le_of_ble_eq_true rfl)) dX9_readCond_4 ⟨(Nat.le_of_ble_eq_true rfl), (Nat.le_of_ble_eq_true rfl)⟩) hP hD hS hA [0, 1, 2, 3, 4, 5] [] rfl rfl (by decide) (by decide) (fun r3 u1 H locs p2 hP hD hS => ?_)
  obtain ⟨ccodeCountG_4, conesG_5, ccodesG_6, rplaceG_7, rkindG_8, rbeginG_9, rwordG_10, rnumberG_11, rlettersG_12, rfaultKindG_13, rfaultPlaceG_14⟩ := u1
  try dsimp only at p2
  obtain ⟨p15, p16, p17, p18, p19⟩ := p2
  refine W.widen (k := 0) (n := 0) (Nat.le_of_ble_eq_true rfl) (Nat.le_of_ble_eq_true rfl) ?_
  have hP : va_P (dC, dI) vwCl [(se, .inr (9, [.ref ccodes, .int (nI ccodeCountG_4), .int (nI conesG_5)])), (ccodes, .inl (ky 0, 40, .inl ccodesG_6)), (reader, .inr (5, [.ref rtape, .int (nI rlength), .int (nI rmostBytes), .int (nI rplaceG_7), .int rkindG_8, .int (nI rbeginG_9), .int rwordG_10, .int rnumberG_11, .long rlettersG_12, .int rfaultKindG_13, .int rfaultPlaceG_14])), (rtape, .inl (ky 2, 940, .inl rtapeF)), (a, .inr (7, [.int (nI wide), .int (nI high), .int heat, .int cools, .int skinHeat, .int today, .int stirs, .int steps, .int (nI lumps), .int (nI boats), .ref thickness, .ref lumpNames, .ref lumpCells, .ref boatNames, .ref boatCells, .ref loads, .ref spoons, .ref spoonsLeft, .ref depths])), (lumpNames, .inl (ky 1, 6, .inr (.inl lumpNamesF)))] H := hP
  have hD : va_D A [(se, .inr (9, [.ref ccodes, .int (nI ccodeCountG_4), .int (nI conesG_5)])), (ccodes, .inl (ky 0, 40, .inl ccodesG_6)), (reader, .inr (5, [.ref rtape, .int (nI rlength), .int (nI rmostBytes), .int (nI rplaceG_7), .int rkindG_8, .int (nI rbeginG_9), .int rwordG_10, .int rnumberG_11, .long rlettersG_12, .int rfaultKindG_13, .int rfaultPlaceG_14])), (rtape, .inl (ky 2, 940, .inl rtapeF)), (a, .inr (7, [.int (nI wide), .int (nI high), .int heat, .int cools, .int skinHeat, .int today, .int stirs, .int steps, .int (nI lumps), .int (nI boats), .ref thickness, .ref lumpNames, .ref lumpCells, .ref boatNames, .ref boatCells, .ref loads, .ref spoons, .ref spoonsLeft, .ref depths])), (lumpNames, .inl (ky 1, 6, .inr (.inl lumpNamesF)))] := hD
  rcases p15 with ⟨rfl, t20, t21, t22, t23, t24, t25, t26⟩ | ⟨rfl, t27, t28, t29⟩
  · refine lv_istore (lv' := [(4, .int (nI 1)), (0, .ref se), (1, .ref reader), (2, .ref a), (3, .int (nI 8))]) hx hb dX9_readCond_7 hl (by decide) rfl (fun ls hl => ?_)
    refine lv_iconst (v := nI 0) hx hb dX9_readCond_9 (by decide) ?_
    refine lv_istore (lv' := [(5, .int (nI 0)), (4, .int (nI 1)), (0, .ref se), (1, .ref reader), (2, .ref a), (3, .int (nI 8))]) hx hb dX9_readCond_10 hl (by decide) rfl (fun ls hl => ?_)
    have hL87 : ∀ (n88 : Nat) (k69 : Nat) (k70 : Nat) (k71 : Nat) (f72 : Nat → Int32) (k73 : Nat) (x74 : Int32) (k75 : Nat) (x76 : Int32) (x77 : Int32) (w78 : Int64) (x79 : Int32) (x80 : Int32) (z68 : Nat), (k69 ≤ 20) → (k70 ≤ 40) → (k71 ≤ 20) → (k73 ≤ 940) → (k75 ≤ 940) → (k73 ≤ rlength) → (RT bt rlength rmostBytes z68 x74 k75 k73 x76 x77 w78) → (sOr bt rlength rmostBytes gnu lumps 1 gp cones = sLoop bt rlength rmostBytes 20 (sAnd bt rlength rmostBytes gnu lumps 1) 30 z68 k71) → (k69 + cones + 1 ≤ k71) → (k70 + 1 + 2 * cones ≤ ccodeCount + 2 * k71) → (x79 = rfaultKind) → (x80 = rfaultPlace) → 20 - k69 < n88 → ∀ (H : Heap) (locs : List Loc) (ls : Array Slot), va_P (dC, dI) vwCl [(se, .inr (9, [.ref ccodes, .int (nI k70), .int (nI k71)])), (ccodes, .inl (ky 0, 40, .inl f72)), (reader, .inr (5, [.ref rtape, .int (nI rlength), .int (nI rmostBytes), .int (nI k73), .int x74, .int (nI k75), .int x76, .int x77, .long w78, .int x79, .int x80])), (rtape, .inl (ky 2, 940, .inl rtapeF)), (a, .inr (7, [.int (nI wide), .int (nI high), .int heat, .int cools, .int skinHeat, .int today, .int stirs, .int steps, .int (nI lumps), .int (nI boats), .ref thickness, .ref lumpNames, .ref lumpCells, .ref boatNames, .ref boatCells, .ref loads, .ref spoons, .ref spoonsLeft, .ref depths])), (lumpNames, .inl (ky 1, 6, .inr (.inl lumpNamesF)))] H → va_D A [(se, .inr (9, [.ref ccodes, .int (nI k70), .int (nI k71)])), (ccodes, .inl (ky 0, 40, .inl f72)), (reader, .inr (5, [.ref rtape, .int (nI rlength), .int (nI rmostBytes), .int (nI k73), .int x74, .int (nI k75), .int x76, .int x77, .long w78, .int x79, .int x80])), (rtape, .inl (ky 2, 940, .inl rtapeF)), (a, .inr (7, [.int (nI wide), .int (nI high), .int heat, .int cools, .int skinHeat, .int today, .int stirs, .int steps, .int (nI lumps), .int (nI boats), .ref thickness, .ref lumpNames, .ref lumpCells, .ref boatNames, .ref boatCells, .ref loads, .ref spoons, .ref spoonsLeft, .ref depths])), (lumpNames, .inl (ky 1, 6, .inr (.inl lumpNamesF)))] → va_S A s.heap H locs → lv_has ls 6 [(5, .int (nI k69)), (4, .int (nI 1)), (0, .ref se), (1, .ref reader), (2, .ref a), (3, .int (nI 8))] → W p l e (headSpec wsX9_readCond ({ frames := 10, cells := 0, slots := 0, locals := 228 })).room s m args below meth c H locs 0 0 Q (F0 m 12 ls []) := by
      intro n88
      induction n88 with
      | zero => intro k69 k70 k71 f72 k73 x74 k75 x76 x77 w78 x79 x80 z68 _ _ _ _ _ _ _ _ _ _ _ _ h9; exact absurd h9 (Nat.not_lt_zero _)
      | succ n88 ih89 =>
        intro k69 k70 k71 f72 k73 x74 k75 x76 x77 w78 x79 x80 z68 j81 j82 j83 j84 j85 j86 jRT jX jI jC jFk jFp hm90 H locs ls hP hD hS hl
        refine lv_iload hx hb dX9_readCond_12 (lv_at hl 0 rfl) ?_
        refine lv_bipush (v := nI 20) hx hb dX9_readCond_14 (by decide) ?_
        refine n_icmp_ge (x := k69) (y := 20) (tgt := 69) hx hb (by omega) (by omega) dX9_readCond_16 (by decide) (fun c91 => ?_) (fun c91 => ?_)
        · refine lv_iload hx hb dX9_readCond_69 (lv_at hl 1 rfl) ?_
          rw [hQ]
          exact W.zret (v := nI 1) hx hb hr (by decide) (fun t9 ht9 hW9 => ⟨⟨nI 1, (k70, k71, f72, k73, x74, k75, x76, x77, w78, x79, x80), rfl, ⟨(lf_f_snC8_1 ccodeCount cones bt rlength rmostBytes rplace rkind rbegin rword rnumber rletters rfaultKind rfaultPlace rtapeF lumps lumpNamesF gp gnu ccodeCountG_4 conesG_5 rplaceG_7 rkindG_8 rbeginG_9 rwordG_10 rnumberG_11 rlettersG_12 rfaultKindG_13 rfaultPlaceG_14 k69 k70 k71 k73 x74 k75 x76 x77 w78 x79 x80 z68 n88 iv_cse_0 iv_cse_1 iv_rreader_0 iv_rreader_1 iv_rreader_2 iv_rreader_3 hTC iv_a_4 hRT hNL hcc p16 p17 p18 p19 t20 t21 t22 t23 t24 t25 t26 j81 j82 j83 j84 j85 j86 jRT jX jI jC jFk jFp hm90 c91), j82, j83, j86, j85⟩, by rw [ht9]; exact hP, va_K.moved hW9.alike hK, hD⟩, hS.F ht9⟩) hS.2.2 dX9_readCond_71
        · refine lv_iload hx hb dX9_readCond_19 (lv_at hl 1 rfl) ?_
          refine lv_if_eq (tgt := 69) hx hb dX9_readCond_21 (by decide) (fun c92 => absurd c92 (by decide)) (fun c92 => ?_)
          refine lv_aload_n hx hb dX9_readCond_24 rfl (lv_at hl 3 rfl) ?_
          refine vp_callSi (W.runV (As := []) (rest := []) ⟨hx, hb, hml, hown, hts⟩ (c_f_nextWord l dC dI ky reader rtape rlength rmostBytes k73 x74 k75 x76 x77 w78 x79 x80 iv_rreader_0 j86 iv_rreader_2 j85) (cwV 0 hts gX9_readCond_X5_nextWord rfl rfl rfl (by decide +kernel) ⟨(Nat.le_of_ble_eq_true rfl), (Nat.le_of_ble_eq_true rfl)⟩) (pre_PV hK hP [2] rfl (ci := 5) (q0 := 2) rfl rfl) rfl rfl hl.1 rfl (lv_room (Nat.le_of_ble_eq_true rfl)) dX9_readCond_25 ⟨(Nat.le_of_ble_eq_true rfl), (Nat.le_of_ble_eq_true rfl)⟩) (fun r93 p94 => ?_)
          refine lv_bipush (v := nI 20) hx hb dX9_readCond_28 (by decide) ?_
          refine lv_icmp_ne (tgt := 69) hx hb dX9_readCond_30 (by decide) (fun c95 => ?_) (fun c95 => ?_)
          · refine lv_iload hx hb dX9_readCond_69 (lv_at hl 1 rfl) ?_
            rw [hQ]
            exact W.zret (v := nI 1) hx hb hr (by decide) (fun t9 ht9 hW9 => ⟨⟨nI 1, (k70, k71, f72, k73, x74, k75, x76, x77, w78, x79, x80), rfl, ⟨(lf_f_snC8_2 ccodeCount cones bt rlength rmostBytes rplace rkind rbegin rword rnumber rletters rfaultKind rfaultPlace rtapeF lumps lumpNamesF gp gnu ccodeCountG_4 conesG_5 rplaceG_7 rkindG_8 rbeginG_9 rwordG_10 rnumberG_11 rlettersG_12 rfaultKindG_13 rfaultPlaceG_14 k69 k70 k71 k73 x74 k75 x76 x77 w78 x79 x80 z68 n88 r93 iv_cse_0 iv_cse_1 iv_rreader_0 iv_rreader_1 iv_rreader_2 iv_rreader_3 hTC iv_a_4 hRT hNL hcc p16 p17 p18 p19 t20 t21 t22 t23 t24 t25 t26 j81 j82 j83 j84 j85 j86 jRT jX jI jC jFk jFp hm90 c91 p94 c95), j82, j83, j86, j85⟩, by rw [ht9]; exact hP, va_K.moved hW9.alike hK, hD⟩, hS.F ht9⟩) hS.2.2 dX9_readCond_71
          · refine lv_aload_n hx hb dX9_readCond_33 rfl (lv_at hl 3 rfl) ?_
            refine r_call_v (wr := [(se, .inr (9, [.ref ccodes, .int (nI k70), .int (nI k71)])), (ccodes, .inl (ky 0, 40, .inl f72)), (a, .inr (7, [.int (nI wide), .int (nI high), .int heat, .int cools, .int skinHeat, .int today, .int stirs, .int steps, .int (nI lumps), .int (nI boats), .ref thickness, .ref lumpNames, .ref lumpCells, .ref boatNames, .ref boatCells, .ref loads, .ref spoons, .ref spoonsLeft, .ref depths])), (lumpNames, .inl (ky 1, 6, .inr (.inl lumpNamesF)))]) (va_runV (As := []) (rest := []) ⟨hx, hb, hml, hown, hts⟩ (c_f_adv l dC dI ky H.size adK adV bt reader rtape rlength rmostBytes k73 x74 k75 x76 x77 w78 x79 x80 rtapeF (tT bt rlength rmostBytes z68) iv_rreader_0 j86 iv_rreader_2 j85 hTC jRT.2.2.1) (cwV 0 hts gX9_readCond_X5_advance rfl rfl rfl (by decide +kernel) ⟨(Nat.le_of_ble_eq_true rfl), (Nat.le_of_ble_eq_true rfl)⟩) (pre_UEV hE hS hA hK hP hD [2, 3] (by decide) rfl (va_recv hK hP (ci := 5) (q0 := 2) rfl rfl)) rfl rfl hl.1 rfl (lv_room (Nat.le_of_ble_eq_true rfl)) dX9_readCond_34 ⟨(Nat.le_of_ble_eq_true rfl), (Nat.le_of_ble_eq_true rfl)⟩) hP hD hS hA [2, 3] [0, 1, 4, 5] rfl rfl (by decide) (by decide) (fun  u96 H locs p97 hP hD hS => ?_)
            obtain ⟨rplaceG_98, rkindG_99, rbeginG_100, rwordG_101, rnumberG_102, rlettersG_103⟩ := u96
            try dsimp only at p97
            obtain ⟨p104, p105, p106⟩ := p97
            refine W.widen (k := 0) (n := 0) (Nat.le_of_ble_eq_true rfl) (Nat.le_of_ble_eq_true rfl) ?_
            have hP : va_P (dC, dI) vwCl [(se, .inr (9, [.ref ccodes, .int (nI k70), .int (nI k71)])), (ccodes, .inl (ky 0, 40, .inl f72)), (a, .inr (7, [.int (nI wide), .int (nI high), .int heat, .int cools, .int skinHeat, .int today, .int stirs, .int steps, .int (nI lumps), .int (nI boats), .ref thickness, .ref lumpNames, .ref lumpCells, .ref boatNames, .ref boatCells, .ref loads, .ref spoons, .ref spoonsLeft, .ref depths])), (lumpNames, .inl (ky 1, 6, .inr (.inl lumpNamesF))), (reader, .inr (5, [.ref rtape, .int (nI rlength), .int (nI rmostBytes), .int (nI rplaceG_98), .int rkindG_99, .int (nI rbeginG_100), .int rwordG_101, .int rnumberG_102, .long rlettersG_103, .int x79, .int x80])), (rtape, .inl (ky 2, 940, .inl rtapeF))] H := hP
            have hD : va_D A [(se, .inr (9, [.ref ccodes, .int (nI k70), .int (nI k71)])), (ccodes, .inl (ky 0, 40, .inl f72)), (a, .inr (7, [.int (nI wide), .int (nI high), .int heat, .int cools, .int skinHeat, .int today, .int stirs, .int steps, .int (nI lumps), .int (nI boats), .ref thickness, .ref lumpNames, .ref lumpCells, .ref boatNames, .ref boatCells, .ref loads, .ref spoons, .ref spoonsLeft, .ref depths])), (lumpNames, .inl (ky 1, 6, .inr (.inl lumpNamesF))), (reader, .inr (5, [.ref rtape, .int (nI rlength), .int (nI rmostBytes), .int (nI rplaceG_98), .int rkindG_99, .int (nI rbeginG_100), .int rwordG_101, .int rnumberG_102, .long rlettersG_103, .int x79, .int x80])), (rtape, .inl (ky 2, 940, .inl rtapeF))] := hD
            refine lv_aload_n hx hb dX9_readCond_37 rfl (lv_at hl 2 rfl) ?_
            refine lv_aload_n hx hb dX9_readCond_38 rfl (lv_at hl 3 rfl) ?_
            refine lv_aload_n hx hb dX9_readCond_39 rfl (lv_at hl 4 rfl) ?_
            refine lv_iload_n hx hb dX9_readCond_40 rfl (lv_at hl 5 rfl) ?_
            refine r_call_i (wr := []) (va_runV (As := [.ref reader, .ref a, .int (nI 8)]) (rest := []) ⟨hx, hb, hml, hown, hts⟩ (c_f_snA8 l dC dI ky H.size adK adV se ccodes k70 k71 f72 bt reader rtape rlength rmostBytes rplaceG_98 rkindG_99 rbeginG_100 rwordG_101 rnumberG_102 rlettersG_103 x79 x80 rtapeF a wide high heat cools skinHeat today stirs steps lumps boats thickness lumpNames lumpCells boatNames boatCells loads spoons spoonsLeft depths lumpNamesF (tT bt rlength rmostBytes z68) gnu j82 j83 iv_rreader_0 p104 iv_rreader_2 p105 hTC iv_a_0 iv_a_1 iv_a_2 iv_a_3 iv_a_4 iv_a_5 p106 hNL (lf_f_snC8_3 ccodeCount cones bt rlength rmostBytes rplace rkind rbegin rword rnumber rletters rtapeF lumps lumpNamesF gp gnu ccodeCountG_4 conesG_5 rplaceG_7 rkindG_8 rbeginG_9 rwordG_10 rnumberG_11 rlettersG_12 k69 k70 k71 k73 x74 k75 x76 x77 w78 z68 n88 r93 rplaceG_98 rkindG_99 rbeginG_100 rwordG_101 rnumberG_102 rlettersG_103 iv_cse_0 iv_cse_1 iv_rreader_0 iv_rreader_1 iv_rreader_2 iv_rreader_3 hTC iv_a_4 hRT hNL hcc p16 p17 p18 p19 t20 t21 t22 t23 t24 j81 j82 j83 j84 j85 j86 jRT jX jI jC hm90 c91 p94 c95 p104 p105 p106)) (cwV 3 hts gX9_readCond_X9_readAll rfl rfl rfl (by decide +kernel) ⟨(Nat.le_of_ble_eq_true rfl), (Nat.le_of_ble_eq_true rfl)⟩) (pre_UEV hE hS hA hK hP hD [0, 1, 4, 5, 2, 3] (by decide) rfl (va_recv hK hP (ci := 9) (q0 := 0) rfl rfl)) rfl rfl hl.1 rfl (lv_room (Nat.le_of_ble_eq_true rfl)) dX9_readCond_41 ⟨(Nat.le_of_ble_eq_true rfl), (Nat.le_of_ble_eq_true rfl)⟩) hP hD hS hA [0, 1, 4, 5, 2, 3] [] rfl rfl (by decide) (by decide) (fun r109 u107 H locs p108 hP hD hS => ?_)
            obtain ⟨ccodeCountG_110, conesG_111, ccodesG_112, rplaceG_113, rkindG_114, rbeginG_115, rwordG_116, rnumberG_117, rlettersG_118, rfaultKindG_119, rfaultPlaceG_120⟩ := u107
            try dsimp only at p108
            obtain ⟨p121, p122, p123, p124, p125⟩ := p108
            refine W.widen (k := 0) (n := 0) (Nat.le_of_ble_eq_true rfl) (Nat.le_of_ble_eq_true rfl) ?_
            have hP : va_P (dC, dI) vwCl [(se, .inr (9, [.ref ccodes, .int (nI ccodeCountG_110), .int (nI conesG_111)])), (ccodes, .inl (ky 0, 40, .inl ccodesG_112)), (reader, .inr (5, [.ref rtape, .int (nI rlength), .int (nI rmostBytes), .int (nI rplaceG_113), .int rkindG_114, .int (nI rbeginG_115), .int rwordG_116, .int rnumberG_117, .long rlettersG_118, .int rfaultKindG_119, .int rfaultPlaceG_120])), (rtape, .inl (ky 2, 940, .inl rtapeF)), (a, .inr (7, [.int (nI wide), .int (nI high), .int heat, .int cools, .int skinHeat, .int today, .int stirs, .int steps, .int (nI lumps), .int (nI boats), .ref thickness, .ref lumpNames, .ref lumpCells, .ref boatNames, .ref boatCells, .ref loads, .ref spoons, .ref spoonsLeft, .ref depths])), (lumpNames, .inl (ky 1, 6, .inr (.inl lumpNamesF)))] H := hP
            have hD : va_D A [(se, .inr (9, [.ref ccodes, .int (nI ccodeCountG_110), .int (nI conesG_111)])), (ccodes, .inl (ky 0, 40, .inl ccodesG_112)), (reader, .inr (5, [.ref rtape, .int (nI rlength), .int (nI rmostBytes), .int (nI rplaceG_113), .int rkindG_114, .int (nI rbeginG_115), .int rwordG_116, .int rnumberG_117, .long rlettersG_118, .int rfaultKindG_119, .int rfaultPlaceG_120])), (rtape, .inl (ky 2, 940, .inl rtapeF)), (a, .inr (7, [.int (nI wide), .int (nI high), .int heat, .int cools, .int skinHeat, .int today, .int stirs, .int steps, .int (nI lumps), .int (nI boats), .ref thickness, .ref lumpNames, .ref lumpCells, .ref boatNames, .ref boatCells, .ref loads, .ref spoons, .ref spoonsLeft, .ref depths])), (lumpNames, .inl (ky 1, 6, .inr (.inl lumpNamesF)))] := hD
            rcases p121 with ⟨rfl, t126, t127, t128, t129, t130, t131, t132⟩ | ⟨rfl, t133, t134, t135⟩
            · refine lv_if_eq (tgt := 60) hx hb dX9_readCond_44 (by decide) (fun c136 => absurd c136 (by decide)) (fun c136 => ?_)
              refine lv_aload_n hx hb dX9_readCond_47 rfl (lv_at hl 2 rfl) ?_
              refine lv_bipush (v := nI 20) hx hb dX9_readCond_48 (by decide) ?_
              refine r_call_i (wr := [(reader, .inr (5, [.ref rtape, .int (nI rlength), .int (nI rmostBytes), .int (nI rplaceG_113), .int rkindG_114, .int (nI rbeginG_115), .int rwordG_116, .int rnumberG_117, .long rlettersG_118, .int rfaultKindG_119, .int rfaultPlaceG_120])), (rtape, .inl (ky 2, 940, .inl rtapeF)), (a, .inr (7, [.int (nI wide), .int (nI high), .int heat, .int cools, .int skinHeat, .int today, .int stirs, .int steps, .int (nI lumps), .int (nI boats), .ref thickness, .ref lumpNames, .ref lumpCells, .ref boatNames, .ref boatCells, .ref loads, .ref spoons, .ref spoonsLeft, .ref depths])), (lumpNames, .inl (ky 1, 6, .inr (.inl lumpNamesF)))]) (va_runV (As := [.int (nI 20)]) (rest := []) ⟨hx, hb, hml, hown, hts⟩ (c_f_put9 l dC dI ky H.size se ccodes ccodeCountG_110 conesG_111 ccodesG_112 (nI 20) p122 p123 (lf_f_snC8_4 ccodeCount cones bt rlength rmostBytes rplace rkind rbegin rword rnumber rletters rtapeF lumps lumpNamesF gp gnu ccodeCountG_4 conesG_5 rplaceG_7 rkindG_8 rbeginG_9 rwordG_10 rnumberG_11 rlettersG_12 k69 k70 k71 k73 x74 k75 x76 x77 w78 z68 n88 r93 rplaceG_98 rkindG_99 rbeginG_100 rwordG_101 rnumberG_102 rlettersG_103 ccodeCountG_110 conesG_111 rplaceG_113 rkindG_114 rbeginG_115 rwordG_116 rnumberG_117 rlettersG_118 iv_cse_0 iv_cse_1 iv_rreader_0 iv_rreader_1 iv_rreader_2 iv_rreader_3 hTC iv_a_4 hRT hNL hcc p16 p17 p18 p19 t20 t21 t22 t23 t24 j81 j82 j83 j84 j85 j86 jRT jX jI jC hm90 c91 p94 c95 p104 p105 p106 p122 p123 p124 p125 t126 t127 t128 t129 t130)) (cwV 1 hts gX9_readCond_X9_put rfl rfl rfl (by decide +kernel) ⟨(Nat.le_of_ble_eq_true rfl), (Nat.le_of_ble_eq_true rfl)⟩) (pre_UV hK hP hD [0, 1] (by decide) rfl (ci := 9) (q0 := 0) rfl rfl) rfl rfl hl.1 rfl (lv_room (Nat.le_of_ble_eq_true rfl)) dX9_readCond_50 ⟨(Nat.le_of_ble_eq_true rfl), (Nat.le_of_ble_eq_true rfl)⟩) hP hD hS hA [0, 1] [2, 3, 4, 5] rfl rfl (by decide) (by decide) (fun r139 u137 H locs p138 hP hD hS => ?_)
              obtain ⟨ccodeCountG_140, ccodesG_141⟩ := u137
              try dsimp only at p138
              obtain ⟨p142, p143, p144⟩ := p138
              refine W.widen (k := 0) (n := 0) (Nat.le_of_ble_eq_true rfl) (Nat.le_of_ble_eq_true rfl) ?_
              have hP : va_P (dC, dI) vwCl [(reader, .inr (5, [.ref rtape, .int (nI rlength), .int (nI rmostBytes), .int (nI rplaceG_113), .int rkindG_114, .int (nI rbeginG_115), .int rwordG_116, .int rnumberG_117, .long rlettersG_118, .int rfaultKindG_119, .int rfaultPlaceG_120])), (rtape, .inl (ky 2, 940, .inl rtapeF)), (a, .inr (7, [.int (nI wide), .int (nI high), .int heat, .int cools, .int skinHeat, .int today, .int stirs, .int steps, .int (nI lumps), .int (nI boats), .ref thickness, .ref lumpNames, .ref lumpCells, .ref boatNames, .ref boatCells, .ref loads, .ref spoons, .ref spoonsLeft, .ref depths])), (lumpNames, .inl (ky 1, 6, .inr (.inl lumpNamesF))), (se, .inr (9, [.ref ccodes, .int (nI ccodeCountG_140), .int (nI conesG_111)])), (ccodes, .inl (ky 0, 40, .inl ccodesG_141))] H := hP
              have hD : va_D A [(reader, .inr (5, [.ref rtape, .int (nI rlength), .int (nI rmostBytes), .int (nI rplaceG_113), .int rkindG_114, .int (nI rbeginG_115), .int rwordG_116, .int rnumberG_117, .long rlettersG_118, .int rfaultKindG_119, .int rfaultPlaceG_120])), (rtape, .inl (ky 2, 940, .inl rtapeF)), (a, .inr (7, [.int (nI wide), .int (nI high), .int heat, .int cools, .int skinHeat, .int today, .int stirs, .int steps, .int (nI lumps), .int (nI boats), .ref thickness, .ref lumpNames, .ref lumpCells, .ref boatNames, .ref boatCells, .ref loads, .ref spoons, .ref spoonsLeft, .ref depths])), (lumpNames, .inl (ky 1, 6, .inr (.inl lumpNamesF))), (se, .inr (9, [.ref ccodes, .int (nI ccodeCountG_140), .int (nI conesG_111)])), (ccodes, .inl (ky 0, 40, .inl ccodesG_141))] := hD
              subst p142
              refine lv_if_eq (tgt := 60) hx hb dX9_readCond_53 (by decide) (fun c145 => absurd c145 (by decide)) (fun c145 => ?_)
              refine lv_iconst (v := nI 1) hx hb dX9_readCond_56 (by decide) ?_
              refine lv_goto (tgt := 61) hx hb dX9_readCond_57 (by decide) ?_
              refine lv_istore (lv' := [(4, .int (nI 1)), (5, .int (nI k69)), (0, .ref se), (1, .ref reader), (2, .ref a), (3, .int (nI 8))]) hx hb dX9_readCond_61 hl (by decide) rfl (fun ls hl => ?_)
              refine lv_iinc (v := nI (k69 + 1)) (lv' := [(5, .int (nI (k69 + 1))), (4, .int (nI 1)), (0, .ref se), (1, .ref reader), (2, .ref a), (3, .int (nI 8))]) hx hb dX9_readCond_63 hl (k := 1) rfl (show nI k69 + nI 1 = nI (k69 + 1) from nI_add _ _) (by decide) rfl (fun ls hl => ?_)
              refine lv_goto (tgt := 12) hx hb dX9_readCond_66 (by decide) ?_
              exact ih89 (k69 + 1) ccodeCountG_140 conesG_111 ccodesG_141 rplaceG_113 rkindG_114 rbeginG_115 rwordG_116 rnumberG_117 rlettersG_118 rfaultKindG_119 rfaultPlaceG_120 (srP (sAnd bt rlength rmostBytes gnu lumps 1 (tT bt rlength rmostBytes z68) k71)) (lf_f_snC8_5 ccodeCount cones bt rlength rmostBytes rplace rkind rbegin rword rnumber rletters rtapeF lumps lumpNamesF gp gnu ccodeCountG_4 conesG_5 rplaceG_7 rkindG_8 rbeginG_9 rwordG_10 rnumberG_11 rlettersG_12 k69 k70 k71 k73 x74 k75 x76 x77 w78 z68 n88 r93 rplaceG_98 rkindG_99 rbeginG_100 rwordG_101 rnumberG_102 rlettersG_103 ccodeCountG_110 conesG_111 rplaceG_113 rkindG_114 rbeginG_115 rwordG_116 rnumberG_117 rlettersG_118 ccodeCountG_140 iv_cse_0 iv_cse_1 iv_rreader_0 iv_rreader_1 iv_rreader_2 iv_rreader_3 hTC iv_a_4 hRT hNL hcc p16 p17 p18 p19 t20 t21 t22 t23 t24 j81 j82 j83 j84 j85 j86 jRT jX jI jC hm90 c91 p94 c95 p104 p105 p106 p122 p123 p124 p125 t126 t127 t128 t129 t130 p143 p144) p143 p123 (lf_f_snC8_6 ccodeCount cones bt rlength rmostBytes rplace rkind rbegin rword rnumber rletters rtapeF lumps lumpNamesF gp gnu ccodeCountG_4 conesG_5 rplaceG_7 rkindG_8 rbeginG_9 rwordG_10 rnumberG_11 rlettersG_12 k69 k70 k71 k73 x74 k75 x76 x77 w78 z68 n88 r93 rplaceG_98 rkindG_99 rbeginG_100 rwordG_101 rnumberG_102 rlettersG_103 ccodeCountG_110 conesG_111 rplaceG_113 rkindG_114 rbeginG_115 rwordG_116 rnumberG_117 rlettersG_118 ccodeCountG_140 iv_cse_0 iv_cse_1 iv_rreader_0 iv_rreader_1 iv_rreader_2 iv_rreader_3 hTC iv_a_4 hRT hNL hcc p16 p17 p18 p19 t20 t21 t22 t23 t24 j81 j82 j83 j84 j85 j86 jRT jX jI jC hm90 c91 p94 c95 p104 p105 p106 p122 p123 p124 p125 t126 t127 t128 t129 t130 p143 p144) p125 p124 t127 (lf_f_snC8_7 ccodeCount cones bt rlength rmostBytes rplace rkind rbegin rword rnumber rletters rtapeF lumps lumpNamesF gp gnu ccodeCountG_4 conesG_5 rplaceG_7 rkindG_8 rbeginG_9 rwordG_10 rnumberG_11 rlettersG_12 k69 k70 k71 k73 x74 k75 x76 x77 w78 z68 n88 r93 rplaceG_98 rkindG_99 rbeginG_100 rwordG_101 rnumberG_102 rlettersG_103 ccodeCountG_110 conesG_111 rplaceG_113 rkindG_114 rbeginG_115 rwordG_116 rnumberG_117 rlettersG_118 ccodeCountG_140 iv_cse_0 iv_cse_1 iv_rreader_0 iv_rreader_1 iv_rreader_2 iv_rreader_3 hTC iv_a_4 hRT hNL hcc p16 p17 p18 p19 t20 t21 t22 t23 t24 j81 j82 j83 j84 j85 j86 jRT jX jI jC hm90 c91 p94 c95 p104 p105 p106 p122 p123 p124 p125 t126 t127 t128 t129 t130 p143 p144) (lf_f_snC8_8 ccodeCount cones bt rlength rmostBytes rplace rkind rbegin rword rnumber rletters rtapeF lumps lumpNamesF gp gnu ccodeCountG_4 conesG_5 rplaceG_7 rkindG_8 rbeginG_9 rwordG_10 rnumberG_11 rlettersG_12 k69 k70 k71 k73 x74 k75 x76 x77 w78 z68 n88 r93 rplaceG_98 rkindG_99 rbeginG_100 rwordG_101 rnumberG_102 rlettersG_103 ccodeCountG_110 conesG_111 rplaceG_113 rkindG_114 rbeginG_115 rwordG_116 rnumberG_117 rlettersG_118 ccodeCountG_140 iv_cse_0 iv_cse_1 iv_rreader_0 iv_rreader_1 iv_rreader_2 iv_rreader_3 hTC iv_a_4 hRT hNL hcc p16 p17 p18 p19 t20 t21 t22 t23 t24 j81 j82 j83 j84 j85 j86 jRT jX jI jC hm90 c91 p94 c95 p104 p105 p106 p122 p123 p124 p125 t126 t127 t128 t129 t130 p143 p144) (lf_f_snC8_9 ccodeCount cones bt rlength rmostBytes rplace rkind rbegin rword rnumber rletters rtapeF lumps lumpNamesF gp gnu ccodeCountG_4 conesG_5 rplaceG_7 rkindG_8 rbeginG_9 rwordG_10 rnumberG_11 rlettersG_12 k69 k70 k71 k73 x74 k75 x76 x77 w78 z68 n88 r93 rplaceG_98 rkindG_99 rbeginG_100 rwordG_101 rnumberG_102 rlettersG_103 ccodeCountG_110 conesG_111 rplaceG_113 rkindG_114 rbeginG_115 rwordG_116 rnumberG_117 rlettersG_118 ccodeCountG_140 iv_cse_0 iv_cse_1 iv_rreader_0 iv_rreader_1 iv_rreader_2 iv_rreader_3 hTC iv_a_4 hRT hNL hcc p16 p17 p18 p19 t20 t21 t22 t23 t24 j81 j82 j83 j84 j85 j86 jRT jX jI jC hm90 c91 p94 c95 p104 p105 p106 p122 p123 p124 p125 t126 t127 t128 t129 t130 p143 p144) (lf_f_snC8_10 adK adV se ccodes ccodeCount cones ccodesF bt reader rtape rlength rmostBytes rplace rkind rbegin rword rnumber rletters rfaultKind rfaultPlace rtapeF a wide high heat cools skinHeat today stirs steps lumps boats thickness lumpNames lumpCells boatNames boatCells loads spoons spoonsLeft depths lumpNamesF gp gnu ccodeCountG_4 conesG_5 ccodesG_6 rplaceG_7 rkindG_8 rbeginG_9 rwordG_10 rnumberG_11 rlettersG_12 rfaultKindG_13 rfaultPlaceG_14 k69 k70 k71 f72 k73 x74 k75 x76 x77 w78 x79 x80 z68 n88 r93 rplaceG_98 rkindG_99 rbeginG_100 rwordG_101 rnumberG_102 rlettersG_103 ccodeCountG_110 conesG_111 ccodesG_112 rplaceG_113 rkindG_114 rbeginG_115 rwordG_116 rnumberG_117 rlettersG_118 rfaultKindG_119 rfaultPlaceG_120 ccodeCountG_140 ccodesG_141 iv_cse_0 iv_cse_1 iv_rreader_0 iv_rreader_1 iv_rreader_2 iv_rreader_3 hTC iv_a_0 iv_a_1 iv_a_2 iv_a_3 iv_a_4 iv_a_5 hRT hNL hcc p16 p17 p18 p19 t20 t21 t22 t23 t24 t25 t26 j81 j82 j83 j84 j85 j86 jRT jX jI jC jFk jFp hm90 c91 p94 c95 p104 p105 p106 p122 p123 p124 p125 t126 t127 t128 t129 t130 t131 t132 p143 p144) (lf_f_snC8_11 adK adV se ccodes ccodeCount cones ccodesF bt reader rtape rlength rmostBytes rplace rkind rbegin rword rnumber rletters rfaultKind rfaultPlace rtapeF a wide high heat cools skinHeat today stirs steps lumps boats thickness lumpNames lumpCells boatNames boatCells loads spoons spoonsLeft depths lumpNamesF gp gnu ccodeCountG_4 conesG_5 ccodesG_6 rplaceG_7 rkindG_8 rbeginG_9 rwordG_10 rnumberG_11 rlettersG_12 rfaultKindG_13 rfaultPlaceG_14 k69 k70 k71 f72 k73 x74 k75 x76 x77 w78 x79 x80 z68 n88 r93 rplaceG_98 rkindG_99 rbeginG_100 rwordG_101 rnumberG_102 rlettersG_103 ccodeCountG_110 conesG_111 ccodesG_112 rplaceG_113 rkindG_114 rbeginG_115 rwordG_116 rnumberG_117 rlettersG_118 rfaultKindG_119 rfaultPlaceG_120 ccodeCountG_140 ccodesG_141 iv_cse_0 iv_cse_1 iv_rreader_0 iv_rreader_1 iv_rreader_2 iv_rreader_3 hTC iv_a_0 iv_a_1 iv_a_2 iv_a_3 iv_a_4 iv_a_5 hRT hNL hcc p16 p17 p18 p19 t20 t21 t22 t23 t24 t25 t26 j81 j82 j83 j84 j85 j86 jRT jX jI jC jFk jFp hm90 c91 p94 c95 p104 p105 p106 p122 p123 p124 p125 t126 t127 t128 t129 t130 t131 t132 p143 p144) (lf_f_snC8_12 ccodeCount cones bt rlength rmostBytes rplace rkind rbegin rword rnumber rletters rtapeF lumps lumpNamesF gp gnu ccodeCountG_4 conesG_5 rplaceG_7 rkindG_8 rbeginG_9 rwordG_10 rnumberG_11 rlettersG_12 k69 k70 k71 k73 x74 k75 x76 x77 w78 z68 n88 r93 rplaceG_98 rkindG_99 rbeginG_100 rwordG_101 rnumberG_102 rlettersG_103 ccodeCountG_110 conesG_111 rplaceG_113 rkindG_114 rbeginG_115 rwordG_116 rnumberG_117 rlettersG_118 ccodeCountG_140 iv_cse_0 iv_cse_1 iv_rreader_0 iv_rreader_1 iv_rreader_2 iv_rreader_3 hTC iv_a_4 hRT hNL hcc p16 p17 p18 p19 t20 t21 t22 t23 t24 j81 j82 j83 j84 j85 j86 jRT jX jI jC hm90 c91 p94 c95 p104 p105 p106 p122 p123 p124 p125 t126 t127 t128 t129 t130 p143 p144) _ _ _ (hP.sub [4, 5, 0, 1, 2, 3] rfl) (hD.sub [4, 5, 0, 1, 2, 3] (by decide) rfl) hS (lv_sub hl [0, 1, 2, 3, 4, 5] rfl)
            · refine lv_if_eq (tgt := 60) hx hb dX9_readCond_44 (by decide) (fun c146 => ?_) (fun c146 => absurd (by decide) c146)
              refine lv_iconst (v := nI 0) hx hb dX9_readCond_60 (by decide) ?_
              refine lv_istore (lv' := [(4, .int (nI 0)), (5, .int (nI k69)), (0, .ref se), (1, .ref reader), (2, .ref a), (3, .int (nI 8))]) hx hb dX9_readCond_61 hl (by decide) rfl (fun ls hl => ?_)
              refine lv_iinc (v := nI (k69 + 1)) (lv' := [(5, .int (nI (k69 + 1))), (4, .int (nI 0)), (0, .ref se), (1, .ref reader), (2, .ref a), (3, .int (nI 8))]) hx hb dX9_readCond_63 hl (k := 1) rfl (show nI k69 + nI 1 = nI (k69 + 1) from nI_add _ _) (by decide) rfl (fun ls hl => ?_)
              refine lv_goto (tgt := 12) hx hb dX9_readCond_66 (by decide) ?_
              refine lv_iload hx hb dX9_readCond_12 (lv_at hl 0 rfl) ?_
              refine lv_bipush (v := nI 20) hx hb dX9_readCond_14 (by decide) ?_
              refine n_icmp_ge (x := (k69 + 1)) (y := 20) (tgt := 69) hx hb (by omega) (by omega) dX9_readCond_16 (by decide) (fun c147 => ?_) (fun c147 => ?_)
              · refine lv_iload hx hb dX9_readCond_69 (lv_at hl 1 rfl) ?_
                rw [hQ]
                exact W.zret (v := nI 0) hx hb hr (by decide) (fun t9 ht9 hW9 => ⟨⟨nI 0, (ccodeCountG_110, conesG_111, ccodesG_112, rplaceG_113, rkindG_114, rbeginG_115, rwordG_116, rnumberG_117, rlettersG_118, rfaultKindG_119, rfaultPlaceG_120), rfl, ⟨(lf_f_snC8_13 ccodeCount cones bt rlength rmostBytes rplace rkind rbegin rword rnumber rletters rfaultKind rfaultPlace rtapeF lumps lumpNamesF gp gnu ccodeCountG_4 conesG_5 rplaceG_7 rkindG_8 rbeginG_9 rwordG_10 rnumberG_11 rlettersG_12 rfaultKindG_13 rfaultPlaceG_14 k69 k70 k71 k73 x74 k75 x76 x77 w78 x79 x80 z68 n88 r93 rplaceG_98 rkindG_99 rbeginG_100 rwordG_101 rnumberG_102 rlettersG_103 ccodeCountG_110 conesG_111 rplaceG_113 rkindG_114 rbeginG_115 rwordG_116 rnumberG_117 rlettersG_118 rfaultKindG_119 rfaultPlaceG_120 iv_cse_0 iv_cse_1 iv_rreader_0 iv_rreader_1 iv_rreader_2 iv_rreader_3 hTC iv_a_4 hRT hNL hcc p16 p17 p18 p19 t20 t21 t22 t23 t24 t25 t26 j81 j82 j83 j84 j85 j86 jRT jX jI jC jFk jFp hm90 c91 p94 c95 p104 p105 p106 p122 p123 p124 p125 t133 t134 t135 c147), p122, p123, p124, p125⟩, by rw [ht9]; exact hP, va_K.moved hW9.alike hK, hD⟩, hS.F ht9⟩) hS.2.2 dX9_readCond_71
              · refine lv_iload hx hb dX9_readCond_19 (lv_at hl 1 rfl) ?_
                refine lv_if_eq (tgt := 69) hx hb dX9_readCond_21 (by decide) (fun c148 => ?_) (fun c148 => absurd (by decide) c148)
                refine lv_iload hx hb dX9_readCond_69 (lv_at hl 1 rfl) ?_
                rw [hQ]
                exact W.zret (v := nI 0) hx hb hr (by decide) (fun t9 ht9 hW9 => ⟨⟨nI 0, (ccodeCountG_110, conesG_111, ccodesG_112, rplaceG_113, rkindG_114, rbeginG_115, rwordG_116, rnumberG_117, rlettersG_118, rfaultKindG_119, rfaultPlaceG_120), rfl, ⟨(lf_f_snC8_14 ccodeCount cones bt rlength rmostBytes rplace rkind rbegin rword rnumber rletters rfaultKind rfaultPlace rtapeF lumps lumpNamesF gp gnu ccodeCountG_4 conesG_5 rplaceG_7 rkindG_8 rbeginG_9 rwordG_10 rnumberG_11 rlettersG_12 rfaultKindG_13 rfaultPlaceG_14 k69 k70 k71 k73 x74 k75 x76 x77 w78 x79 x80 z68 n88 r93 rplaceG_98 rkindG_99 rbeginG_100 rwordG_101 rnumberG_102 rlettersG_103 ccodeCountG_110 conesG_111 rplaceG_113 rkindG_114 rbeginG_115 rwordG_116 rnumberG_117 rlettersG_118 rfaultKindG_119 rfaultPlaceG_120 iv_cse_0 iv_cse_1 iv_rreader_0 iv_rreader_1 iv_rreader_2 iv_rreader_3 hTC iv_a_4 hRT hNL hcc p16 p17 p18 p19 t20 t21 t22 t23 t24 t25 t26 j81 j82 j83 j84 j85 j86 jRT jX jI jC jFk jFp hm90 c91 p94 c95 p104 p105 p106 p122 p123 p124 p125 t133 t134 t135 c147), p122, p123, p124, p125⟩, by rw [ht9]; exact hP, va_K.moved hW9.alike hK, hD⟩, hS.F ht9⟩) hS.2.2 dX9_readCond_71
    exact hL87 ((20 - 0) + 1) 0 ccodeCountG_4 conesG_5 ccodesG_6 rplaceG_7 rkindG_8 rbeginG_9 rwordG_10 rnumberG_11 rlettersG_12 rfaultKindG_13 rfaultPlaceG_14 (srP (sAnd bt rlength rmostBytes gnu lumps 1 gp cones)) (lf_f_snC8_15) p16 p17 (lf_f_snC8_16 ccodeCount cones bt rlength rmostBytes rplace rkind rbegin rword rnumber rletters rtapeF lumps lumpNamesF gp gnu ccodeCountG_4 conesG_5 rplaceG_7 rkindG_8 rbeginG_9 rwordG_10 rnumberG_11 rlettersG_12 iv_cse_0 iv_cse_1 iv_rreader_0 iv_rreader_1 iv_rreader_2 iv_rreader_3 hTC iv_a_4 hRT hNL hcc p16 p17 p18 p19 t20 t21 t22 t23 t24) p19 p18 t21 (lf_f_snC8_17 ccodeCount cones bt rlength rmostBytes rplace rkind rbegin rword rnumber rletters rtapeF lumps lumpNamesF gp gnu ccodeCountG_4 conesG_5 rplaceG_7 rkindG_8 rbeginG_9 rwordG_10 rnumberG_11 rlettersG_12 iv_cse_0 iv_cse_1 iv_rreader_0 iv_rreader_1 iv_rreader_2 iv_rreader_3 hTC iv_a_4 hRT hNL hcc p16 p17 p18 p19 t20 t21 t22 t23 t24) (lf_f_snC8_18 ccodeCount cones bt rlength rmostBytes rplace rkind rbegin rword rnumber rletters rtapeF lumps lumpNamesF gp gnu ccodeCountG_4 conesG_5 rplaceG_7 rkindG_8 rbeginG_9 rwordG_10 rnumberG_11 rlettersG_12 iv_cse_0 iv_cse_1 iv_rreader_0 iv_rreader_1 iv_rreader_2 iv_rreader_3 hTC iv_a_4 hRT hNL hcc p16 p17 p18 p19 t20 t21 t22 t23 t24) t23 t25 t26 (Nat.lt_succ_self _) _ _ _ hP hD hS (lv_sub hl [0, 1, 2, 3, 4, 5] rfl)
  · refine lv_istore (lv' := [(4, .int (nI 0)), (0, .ref se), (1, .ref reader), (2, .ref a), (3, .int (nI 8))]) hx hb dX9_readCond_7 hl (by decide) rfl (fun ls hl => ?_)
    refine lv_iconst (v := nI 0) hx hb dX9_readCond_9 (by decide) ?_
    refine lv_istore (lv' := [(5, .int (nI 0)), (4, .int (nI 0)), (0, .ref se), (1, .ref reader), (2, .ref a), (3, .int (nI 8))]) hx hb dX9_readCond_10 hl (by decide) rfl (fun ls hl => ?_)
    refine lv_iload hx hb dX9_readCond_12 (lv_at hl 0 rfl) ?_
    refine lv_bipush (v := nI 20) hx hb dX9_readCond_14 (by decide) ?_
    refine lv_icmp_ge (tgt := 69) hx hb dX9_readCond_16 (by decide) (fun c149 => absurd c149 (by decide)) (fun c149 => ?_)
    refine lv_iload hx hb dX9_readCond_19 (lv_at hl 1 rfl) ?_
    refine lv_if_eq (tgt := 69) hx hb dX9_readCond_21 (by decide) (fun c150 => ?_) (fun c150 => absurd (by decide) c150)
    refine lv_iload hx hb dX9_readCond_69 (lv_at hl 1 rfl) ?_
    rw [hQ]
    exact W.zret (v := nI 0) hx hb hr (by decide) (fun t9 ht9 hW9 => ⟨⟨nI 0, (ccodeCountG_4, conesG_5, ccodesG_6, rplaceG_7, rkindG_8, rbeginG_9, rwordG_10, rnumberG_11, rlettersG_12, rfaultKindG_13, rfaultPlaceG_14), rfl, ⟨(lf_f_snC8_19 ccodeCount cones bt rlength rmostBytes rplace rkind rbegin rword rnumber rletters rfaultKind rfaultPlace rtapeF lumps lumpNamesF gp gnu ccodeCountG_4 conesG_5 rplaceG_7 rkindG_8 rbeginG_9 rwordG_10 rnumberG_11 rlettersG_12 rfaultKindG_13 rfaultPlaceG_14 iv_cse_0 iv_cse_1 iv_rreader_0 iv_rreader_1 iv_rreader_2 iv_rreader_3 hTC iv_a_4 hRT hNL hcc p16 p17 p18 p19 t27 t28 t29), p16, p17, p18, p19⟩, by rw [ht9]; exact hP, va_K.moved hW9.alike hK, hD⟩, hS.F ht9⟩) hS.2.2 dX9_readCond_71
