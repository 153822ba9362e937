set_option maxRecDepth 20000 in
theorem lf_f_bkRead_1 (bt : Nat → Nat) (rlength : Nat) (rmostBytes : Nat) (rplace : Nat) (rkind : Int32) (rbegin : Nat) (rword : Int32) (rnumber : Int32) (rletters : Int64) (rfaultKind : Int32) (rfaultPlace : Int32) (rtapeF : Nat → Int32) (boats : Nat) (boatNamesF : Nat → Int64) (gp : Nat) (gnu : Nat → Nat) (k17 : Nat) (k19 : Nat) (x20 : Int32) (k21 : Nat) (x22 : Int32) (x23 : Int32) (w24 : Int64) (x25 : Int32) (x26 : Int32) (z16 : Nat) (n32 : Nat) (iv_rreader_0 : rlength ≤ 940) (iv_rreader_1 : rplace ≤ rlength) (iv_rreader_2 : rmostBytes ≤ 900) (iv_rreader_3 : rbegin ≤ 940) (hTC : TC bt rtapeF) (iv_a_5 : boats ≤ 6) (hRT : RT bt rlength rmostBytes gp rkind rbegin rplace rword rnumber rletters) (hNL : NL gnu 6 boats boatNamesF) (j27 : k17 ≤ 40) (j28 : k19 ≤ 940) (j29 : k21 ≤ 940) (j30 : k19 ≤ rlength) (jRT : RT bt rlength rmostBytes z16 x20 k21 k19 x22 x23 w24) (jB : bLoop bt rlength rmostBytes gnu boats 41 gp 0 = bLoop bt rlength rmostBytes gnu boats (41 - k17) z16 k17) (jFk : x25 = rfaultKind) (jFp : x26 = rfaultPlace) (hm34 : 41 - k17 < n32 + 1) (c36 : x20 = 0) : ((nI 1) = nI 1 ∧ (isO (bLoop bt rlength rmostBytes gnu boats 41 gp 0) = true ∧ x25 = rfaultKind ∧ x26 = rfaultPlace)) ∨ ((nI 1) = nI 0 ∧ (isO (bLoop bt rlength rmostBytes gnu boats 41 gp 0) = false ∧ x25 = nI (erA (bLoop bt rlength rmostBytes gnu boats 41 gp 0)) ∧ x26 = nI (erB (bLoop bt rlength rmostBytes gnu boats 41 gp 0)))) := by
  have k0 : tK bt rlength rmostBytes z16 = 0 := (RT_k jRT (c := 0) (by decide)).mp (by
    have kk0 := ia_n 0 (by decide)
    have b_rkind := ia_b rkind
    have b_rword := ia_b rword
    have b_rnumber := ia_b rnumber
    have b_rfaultKind := ia_b rfaultKind
    have b_rfaultPlace := ia_b rfaultPlace
    have b_x20 := ia_b x20
    have b_x22 := ia_b x22
    have b_x23 := ia_b x23
    have b_x25 := ia_b x25
    have b_x26 := ia_b x26
    have b_rletters := Int64.toInt_lt rletters
    have b_w24 := Int64.toInt_lt w24
    try have k_0 := ia_n 1 (by first | decide | omega)
    try have k_1 := ia_n 0 (by first | decide | omega)
    try have k_2 := ia_n (erA (bLoop bt rlength rmostBytes gnu boats 41 gp 0)) (by first | decide | omega)
    try have k_3 := ia_n (erB (bLoop bt rlength rmostBytes gnu boats 41 gp 0)) (by first | decide | omega)
    try simp only [ia_lt, ia_le, ia_eq, ia_m1, ia_0, ia_1, ne_eq, true_and, and_true, false_and, and_false, or_false, false_or, or_true, true_or, not_true_eq_false, not_false_eq_true] at *
    all_goals omega)
  rw [jB, bP_end k0 (by omega)]
  exact Or.inl ⟨rfl, rfl, jFk, jFp⟩
set_option maxRecDepth 20000 in
theorem lf_f_bkRead_2 (bt : Nat → Nat) (rlength : Nat) (rmostBytes : Nat) (rplace : Nat) (rkind : Int32) (rbegin : Nat) (rword : Int32) (rnumber : Int32) (rletters : Int64) (rtapeF : Nat → Int32) (boats : Nat) (boatNamesF : Nat → Int64) (gp : Nat) (gnu : Nat → Nat) (k17 : Nat) (k19 : Nat) (x20 : Int32) (k21 : Nat) (x22 : Int32) (x23 : Int32) (w24 : Int64) (z16 : Nat) (n32 : Nat) (r37 : Int32) (rplaceG_59 : Nat) (rkindG_60 : Int32) (rbeginG_61 : Nat) (rwordG_62 : Int32) (rnumberG_63 : Int32) (rlettersG_64 : Int64) (blineCountG_71 : Nat) (rplaceG_73 : Nat) (rkindG_74 : Int32) (rbeginG_75 : Nat) (rwordG_76 : Int32) (rnumberG_77 : Int32) (rlettersG_78 : Int64) (rplaceG_97 : Nat) (rkindG_98 : Int32) (rbeginG_99 : Nat) (rwordG_100 : Int32) (rnumberG_101 : Int32) (rlettersG_102 : Int64) (iv_rreader_0 : rlength ≤ 940) (iv_rreader_1 : rplace ≤ rlength) (iv_rreader_2 : rmostBytes ≤ 900) (iv_rreader_3 : rbegin ≤ 940) (hTC : TC bt rtapeF) (iv_a_5 : boats ≤ 6) (hRT : RT bt rlength rmostBytes gp rkind rbegin rplace rword rnumber rletters) (hNL : NL gnu 6 boats boatNamesF) (j27 : k17 ≤ 40) (j28 : k19 ≤ 940) (j29 : k21 ≤ 940) (j30 : k19 ≤ rlength) (jRT : RT bt rlength rmostBytes z16 x20 k21 k19 x22 x23 w24) (jB : bLoop bt rlength rmostBytes gnu boats 41 gp 0 = bLoop bt rlength rmostBytes gnu boats (41 - k17) z16 k17) (hm34 : 41 - k17 < n32 + 1) (c36 : ¬ x20 = 0) (p38 : r37 = x22) (v41 : r37 = nI 7) (c56 : k17 < 40) (p65 : rplaceG_59 ≤ rlength) (p66 : rbeginG_61 ≤ 940) (p67 : RT bt rlength rmostBytes (tT bt rlength rmostBytes z16) rkindG_60 rbeginG_61 rplaceG_59 rwordG_62 rnumberG_63 rlettersG_64) (p82 : blineCountG_71 ≤ 40) (p83 : rplaceG_73 ≤ rlength) (p84 : rbeginG_75 ≤ 940) (t85 : isO (bRest bt rlength rmostBytes 7 (tT bt rlength rmostBytes z16)) = true) (t86 : RT bt rlength rmostBytes (okV (bRest bt rlength rmostBytes 7 (tT bt rlength rmostBytes z16))) rkindG_74 rbeginG_75 rplaceG_73 rwordG_76 rnumberG_77 rlettersG_78) (t87 : blineCountG_71 = k17 + 1) (p106 : rplaceG_97 ≤ rlength) (p107 : rbeginG_99 ≤ 940) (t108 : nI (tK bt rlength rmostBytes (okV (bRest bt rlength rmostBytes 7 (tT bt rlength rmostBytes z16)))) = (nI 59)) (t109 : RT bt rlength rmostBytes (tT bt rlength rmostBytes (okV (bRest bt rlength rmostBytes 7 (tT bt rlength rmostBytes z16)))) rkindG_98 rbeginG_99 rplaceG_97 rwordG_100 rnumberG_101 rlettersG_102) : rplaceG_97 ≤ 940 := by
  have b_rkind := ia_b rkind
  have b_rword := ia_b rword
  have b_rnumber := ia_b rnumber
  have b_x20 := ia_b x20
  have b_x22 := ia_b x22
  have b_x23 := ia_b x23
  have b_r37 := ia_b r37
  have b_rkindG_60 := ia_b rkindG_60
  have b_rwordG_62 := ia_b rwordG_62
  have b_rnumberG_63 := ia_b rnumberG_63
  have b_rkindG_74 := ia_b rkindG_74
  have b_rwordG_76 := ia_b rwordG_76
  have b_rnumberG_77 := ia_b rnumberG_77
  have b_rkindG_98 := ia_b rkindG_98
  have b_rwordG_100 := ia_b rwordG_100
  have b_rnumberG_101 := ia_b rnumberG_101
  have b_rletters := Int64.toInt_lt rletters
  have b_w24 := Int64.toInt_lt w24
  have b_rlettersG_64 := Int64.toInt_lt rlettersG_64
  have b_rlettersG_78 := Int64.toInt_lt rlettersG_78
  have b_rlettersG_102 := Int64.toInt_lt rlettersG_102
  try have k_0 := ia_n 7 (by first | decide | omega)
  try have k_1 := ia_n (tK bt rlength rmostBytes (okV (bRest bt rlength rmostBytes 7 (tT bt rlength rmostBytes z16)))) (by first | decide | omega)
  try have k_2 := ia_n 59 (by first | decide | omega)
  try simp only [ia_lt, ia_le, ia_eq, ia_m1, ia_0, ia_1, ne_eq, true_and, and_true, false_and, and_false, or_false, false_or, or_true, true_or, not_true_eq_false, not_false_eq_true] at *
  all_goals omega
set_option maxRecDepth 20000 in
theorem lf_f_bkRead_3 (bt : Nat → Nat) (rlength : Nat) (rmostBytes : Nat) (rplace : Nat) (rkind : Int32) (rbegin : Nat) (rword : Int32) (rnumber : Int32) (rletters : Int64) (rtapeF : Nat → Int32) (boats : Nat) (boatNamesF : Nat → Int64) (gp : Nat) (gnu : Nat → Nat) (k17 : Nat) (k19 : Nat) (x20 : Int32) (k21 : Nat) (x22 : Int32) (x23 : Int32) (w24 : Int64) (z16 : Nat) (n32 : Nat) (r37 : Int32) (rplaceG_59 : Nat) (rkindG_60 : Int32) (rbeginG_61 : Nat) (rwordG_62 : Int32) (rnumberG_63 : Int32) (rlettersG_64 : Int64) (blineCountG_71 : Nat) (rplaceG_73 : Nat) (rkindG_74 : Int32) (rbeginG_75 : Nat) (rwordG_76 : Int32) (rnumberG_77 : Int32) (rlettersG_78 : Int64) (rplaceG_97 : Nat) (rkindG_98 : Int32) (rbeginG_99 : Nat) (rwordG_100 : Int32) (rnumberG_101 : Int32) (rlettersG_102 : Int64) (iv_rreader_0 : rlength ≤ 940) (iv_rreader_1 : rplace ≤ rlength) (iv_rreader_2 : rmostBytes ≤ 900) (iv_rreader_3 : rbegin ≤ 940) (hTC : TC bt rtapeF) (iv_a_5 : boats ≤ 6) (hRT : RT bt rlength rmostBytes gp rkind rbegin rplace rword rnumber rletters) (hNL : NL gnu 6 boats boatNamesF) (j27 : k17 ≤ 40) (j28 : k19 ≤ 940) (j29 : k21 ≤ 940) (j30 : k19 ≤ rlength) (jRT : RT bt rlength rmostBytes z16 x20 k21 k19 x22 x23 w24) (jB : bLoop bt rlength rmostBytes gnu boats 41 gp 0 = bLoop bt rlength rmostBytes gnu boats (41 - k17) z16 k17) (hm34 : 41 - k17 < n32 + 1) (c36 : ¬ x20 = 0) (p38 : r37 = x22) (v41 : r37 = nI 7) (c56 : k17 < 40) (p65 : rplaceG_59 ≤ rlength) (p66 : rbeginG_61 ≤ 940) (p67 : RT bt rlength rmostBytes (tT bt rlength rmostBytes z16) rkindG_60 rbeginG_61 rplaceG_59 rwordG_62 rnumberG_63 rlettersG_64) (p82 : blineCountG_71 ≤ 40) (p83 : rplaceG_73 ≤ rlength) (p84 : rbeginG_75 ≤ 940) (t85 : isO (bRest bt rlength rmostBytes 7 (tT bt rlength rmostBytes z16)) = true) (t86 : RT bt rlength rmostBytes (okV (bRest bt rlength rmostBytes 7 (tT bt rlength rmostBytes z16))) rkindG_74 rbeginG_75 rplaceG_73 rwordG_76 rnumberG_77 rlettersG_78) (t87 : blineCountG_71 = k17 + 1) (p106 : rplaceG_97 ≤ rlength) (p107 : rbeginG_99 ≤ 940) (t108 : nI (tK bt rlength rmostBytes (okV (bRest bt rlength rmostBytes 7 (tT bt rlength rmostBytes z16)))) = (nI 59)) (t109 : RT bt rlength rmostBytes (tT bt rlength rmostBytes (okV (bRest bt rlength rmostBytes 7 (tT bt rlength rmostBytes z16)))) rkindG_98 rbeginG_99 rplaceG_97 rwordG_100 rnumberG_101 rlettersG_102) : bLoop bt rlength rmostBytes gnu boats 41 gp 0 = bLoop bt rlength rmostBytes gnu boats (41 - blineCountG_71) (tT bt rlength rmostBytes (okV (bRest bt rlength rmostBytes 7 (tT bt rlength rmostBytes z16)))) blineCountG_71 := by
  have k0 : ¬ tK bt rlength rmostBytes z16 = 0 := fun z => absurd ((RT_k jRT (c := 0) (by decide)).mpr z) (by
    have kk0 := ia_n 0 (by decide)
    have b_rkind := ia_b rkind
    have b_rword := ia_b rword
    have b_rnumber := ia_b rnumber
    have b_x20 := ia_b x20
    have b_x22 := ia_b x22
    have b_x23 := ia_b x23
    have b_r37 := ia_b r37
    have b_rkindG_60 := ia_b rkindG_60
    have b_rwordG_62 := ia_b rwordG_62
    have b_rnumberG_63 := ia_b rnumberG_63
    have b_rkindG_74 := ia_b rkindG_74
    have b_rwordG_76 := ia_b rwordG_76
    have b_rnumberG_77 := ia_b rnumberG_77
    have b_rkindG_98 := ia_b rkindG_98
    have b_rwordG_100 := ia_b rwordG_100
    have b_rnumberG_101 := ia_b rnumberG_101
    have b_rletters := Int64.toInt_lt rletters
    have b_w24 := Int64.toInt_lt w24
    have b_rlettersG_64 := Int64.toInt_lt rlettersG_64
    have b_rlettersG_78 := Int64.toInt_lt rlettersG_78
    have b_rlettersG_102 := Int64.toInt_lt rlettersG_102
    try have k_0 := ia_n 7 (by first | decide | omega)
    try have k_1 := ia_n (tK bt rlength rmostBytes (okV (bRest bt rlength rmostBytes 7 (tT bt rlength rmostBytes z16)))) (by first | decide | omega)
    try have k_2 := ia_n 59 (by first | decide | omega)
    try simp only [ia_lt, ia_le, ia_eq, ia_m1, ia_0, ia_1, ne_eq, true_and, and_true, false_and, and_false, or_false, false_or, or_true, true_or, not_true_eq_false, not_false_eq_true] at *
    all_goals omega)
  have w9 : tW bt rlength rmostBytes z16 = 7 := (RT_w jRT (by decide)).mp (by
    have kk7 := ia_n 7 (by decide)
    have b_rkind := ia_b rkind
    have b_rword := ia_b rword
    have b_rnumber := ia_b rnumber
    have b_x20 := ia_b x20
    have b_x22 := ia_b x22
    have b_x23 := ia_b x23
    have b_r37 := ia_b r37
    have b_rkindG_60 := ia_b rkindG_60
    have b_rwordG_62 := ia_b rwordG_62
    have b_rnumberG_63 := ia_b rnumberG_63
    have b_rkindG_74 := ia_b rkindG_74
    have b_rwordG_76 := ia_b rwordG_76
    have b_rnumberG_77 := ia_b rnumberG_77
    have b_rkindG_98 := ia_b rkindG_98
    have b_rwordG_100 := ia_b rwordG_100
    have b_rnumberG_101 := ia_b rnumberG_101
    have b_rletters := Int64.toInt_lt rletters
    have b_w24 := Int64.toInt_lt w24
    have b_rlettersG_64 := Int64.toInt_lt rlettersG_64
    have b_rlettersG_78 := Int64.toInt_lt rlettersG_78
    have b_rlettersG_102 := Int64.toInt_lt rlettersG_102
    try have k_0 := ia_n 7 (by first | decide | omega)
    try have k_1 := ia_n (tK bt rlength rmostBytes (okV (bRest bt rlength rmostBytes 7 (tT bt rlength rmostBytes z16)))) (by first | decide | omega)
    try have k_2 := ia_n 59 (by first | decide | omega)
    try simp only [ia_lt, ia_le, ia_eq, ia_m1, ia_0, ia_1, ne_eq, true_and, and_true, false_and, and_false, or_false, false_or, or_true, true_or, not_true_eq_false, not_false_eq_true] at *
    all_goals omega)
  have hs : bSort (tW bt rlength rmostBytes z16) := by rw [w9]; decide
  have hn : tW bt rlength rmostBytes z16 = 31 → isFd gnu 6 boats (tC bt rlength z16) := fun z => absurd (w9.symm.trans z) (by decide)
  have hl := bL_o (ν := gnu) (L := boats) (k := k17) hs hn (by omega)
  rw [w9] at hl
  have hb := bE_o (B := bt) (n := rlength) (m := rmostBytes) (y := bRest bt rlength rmostBytes 7 (tT bt rlength rmostBytes z16)) (by assumption) (tk_c (by assumption) (by decide))
  have q := bP_step (ν := gnu) (L := boats) k0 (k := k17) (by omega) (by rw [hl, hb]; rfl)
  rw [hl, hb] at q
  rw [jB, q]
  subst_vars
  rfl
set_option maxRecDepth 20000 in
theorem lf_f_bkRead_4 (adK : Nat → Nat) (adV : Nat → Nat) (bk : Nat) (blines : Nat) (blineCount : Nat) (blived : Int32) (bwhyWrong : Int32) (bfineLines : Int32) (bdayThen : Int32) (beatenThen : Int32) (blinesF : Nat → Int32) (bt : Nat → Nat) (reader : Nat) (rtape : Nat) (rlength : Nat) (rmostBytes : Nat) (rplace : Nat) (rkind : Int32) (rbegin : Nat) (rword : Int32) (rnumber : Int32) (rletters : Int64) (rfaultKind : Int32) (rfaultPlace : Int32) (rtapeF : Nat → Int32) (a : Nat) (wide : Nat) (high : Nat) (heat : Int32) (cools : Int32) (skinHeat : Int32) (today : Int32) (stirs : Int32) (steps : Int32) (lumps : Nat) (boats : Nat) (thickness : Nat) (lumpNames : Nat) (lumpCells : Nat) (boatNames : Nat) (boatCells : Nat) (loads : Nat) (spoons : Nat) (spoonsLeft : Nat) (depths : Nat) (boatNamesF : Nat → Int64) (gp : Nat) (gnu : Nat → Nat) (k17 : Nat) (f18 : Nat → Int32) (k19 : Nat) (x20 : Int32) (k21 : Nat) (x22 : Int32) (x23 : Int32) (w24 : Int64) (x25 : Int32) (x26 : Int32) (z16 : Nat) (n32 : Nat) (r37 : Int32) (rplaceG_59 : Nat) (rkindG_60 : Int32) (rbeginG_61 : Nat) (rwordG_62 : Int32) (rnumberG_63 : Int32) (rlettersG_64 : Int64) (blineCountG_71 : Nat) (blinesG_72 : Nat → Int32) (rplaceG_73 : Nat) (rkindG_74 : Int32) (rbeginG_75 : Nat) (rwordG_76 : Int32) (rnumberG_77 : Int32) (rlettersG_78 : Int64) (rfaultKindG_79 : Int32) (rfaultPlaceG_80 : Int32) (rplaceG_97 : Nat) (rkindG_98 : Int32) (rbeginG_99 : Nat) (rwordG_100 : Int32) (rnumberG_101 : Int32) (rlettersG_102 : Int64) (rfaultKindG_103 : Int32) (rfaultPlaceG_104 : Int32) (iv_bbk_0 : blineCount ≤ 40) (iv_rreader_0 : rlength ≤ 940) (iv_rreader_1 : rplace ≤ rlength) (iv_rreader_2 : rmostBytes ≤ 900) (iv_rreader_3 : rbegin ≤ 940) (hTC : TC bt rtapeF) (iv_a_0 : 2 ≤ wide) (iv_a_1 : wide ≤ 6) (iv_a_2 : 2 ≤ high) (iv_a_3 : high ≤ 6) (iv_a_4 : lumps ≤ 6) (iv_a_5 : boats ≤ 6) (hRT : RT bt rlength rmostBytes gp rkind rbegin rplace rword rnumber rletters) (hNL : NL gnu 6 boats boatNamesF) (j27 : k17 ≤ 40) (j28 : k19 ≤ 940) (j29 : k21 ≤ 940) (j30 : k19 ≤ rlength) (jRT : RT bt rlength rmostBytes z16 x20 k21 k19 x22 x23 w24) (jB : bLoop bt rlength rmostBytes gnu boats 41 gp 0 = bLoop bt rlength rmostBytes gnu boats (41 - k17) z16 k17) (jFk : x25 = rfaultKind) (jFp : x26 = rfaultPlace) (hm34 : 41 - k17 < n32 + 1) (c36 : ¬ x20 = 0) (p38 : r37 = x22) (v41 : r37 = nI 7) (c56 : k17 < 40) (p65 : rplaceG_59 ≤ rlength) (p66 : rbeginG_61 ≤ 940) (p67 : RT bt rlength rmostBytes (tT bt rlength rmostBytes z16) rkindG_60 rbeginG_61 rplaceG_59 rwordG_62 rnumberG_63 rlettersG_64) (p82 : blineCountG_71 ≤ 40) (p83 : rplaceG_73 ≤ rlength) (p84 : rbeginG_75 ≤ 940) (t85 : isO (bRest bt rlength rmostBytes 7 (tT bt rlength rmostBytes z16)) = true) (t86 : RT bt rlength rmostBytes (okV (bRest bt rlength rmostBytes 7 (tT bt rlength rmostBytes z16))) rkindG_74 rbeginG_75 rplaceG_73 rwordG_76 rnumberG_77 rlettersG_78) (t87 : blineCountG_71 = k17 + 1) (t88 : rfaultKindG_79 = x25) (t89 : rfaultPlaceG_80 = x26) (p106 : rplaceG_97 ≤ rlength) (p107 : rbeginG_99 ≤ 940) (t108 : nI (tK bt rlength rmostBytes (okV (bRest bt rlength rmostBytes 7 (tT bt rlength rmostBytes z16)))) = (nI 59)) (t109 : RT bt rlength rmostBytes (tT bt rlength rmostBytes (okV (bRest bt rlength rmostBytes 7 (tT bt rlength rmostBytes z16)))) rkindG_98 rbeginG_99 rplaceG_97 rwordG_100 rnumberG_101 rlettersG_102) (t110 : rfaultKindG_103 = rfaultKindG_79) (t111 : rfaultPlaceG_104 = rfaultPlaceG_80) : rfaultKindG_103 = rfaultKind := by
  subst_vars
  first
    | rfl
    | assumption
set_option maxRecDepth 20000 in
theorem lf_f_bkRead_5 (adK : Nat → Nat) (adV : Nat → Nat) (bk : Nat) (blines : Nat) (blineCount : Nat) (blived : Int32) (bwhyWrong : Int32) (bfineLines : Int32) (bdayThen : Int32) (beatenThen : Int32) (blinesF : Nat → Int32) (bt : Nat → Nat) (reader : Nat) (rtape : Nat) (rlength : Nat) (rmostBytes : Nat) (rplace : Nat) (rkind : Int32) (rbegin : Nat) (rword : Int32) (rnumber : Int32) (rletters : Int64) (rfaultKind : Int32) (rfaultPlace : Int32) (rtapeF : Nat → Int32) (a : Nat) (wide : Nat) (high : Nat) (heat : Int32) (cools : Int32) (skinHeat : Int32) (today : Int32) (stirs : Int32) (steps : Int32) (lumps : Nat) (boats : Nat) (thickness : Nat) (lumpNames : Nat) (lumpCells : Nat) (boatNames : Nat) (boatCells : Nat) (loads : Nat) (spoons : Nat) (spoonsLeft : Nat) (depths : Nat) (boatNamesF : Nat → Int64) (gp : Nat) (gnu : Nat → Nat) (k17 : Nat) (f18 : Nat → Int32) (k19 : Nat) (x20 : Int32) (k21 : Nat) (x22 : Int32) (x23 : Int32) (w24 : Int64) (x25 : Int32) (x26 : Int32) (z16 : Nat) (n32 : Nat) (r37 : Int32) (rplaceG_59 : Nat) (rkindG_60 : Int32) (rbeginG_61 : Nat) (rwordG_62 : Int32) (rnumberG_63 : Int32) (rlettersG_64 : Int64) (blineCountG_71 : Nat) (blinesG_72 : Nat → Int32) (rplaceG_73 : Nat) (rkindG_74 : Int32) (rbeginG_75 : Nat) (rwordG_76 : Int32) (rnumberG_77 : Int32) (rlettersG_78 : Int64) (rfaultKindG_79 : Int32) (rfaultPlaceG_80 : Int32) (rplaceG_97 : Nat) (rkindG_98 : Int32) (rbeginG_99 : Nat) (rwordG_100 : Int32) (rnumberG_101 : Int32) (rlettersG_102 : Int64) (rfaultKindG_103 : Int32) (rfaultPlaceG_104 : Int32) (iv_bbk_0 : blineCount ≤ 40) (iv_rreader_0 : rlength ≤ 940) (iv_rreader_1 : rplace ≤ rlength) (iv_rreader_2 : rmostBytes ≤ 900) (iv_rreader_3 : rbegin ≤ 940) (hTC : TC bt rtapeF) (iv_a_0 : 2 ≤ wide) (iv_a_1 : wide ≤ 6) (iv_a_2 : 2 ≤ high) (iv_a_3 : high ≤ 6) (iv_a_4 : lumps ≤ 6) (iv_a_5 : boats ≤ 6) (hRT : RT bt rlength rmostBytes gp rkind rbegin rplace rword rnumber rletters) (hNL : NL gnu 6 boats boatNamesF) (j27 : k17 ≤ 40) (j28 : k19 ≤ 940) (j29 : k21 ≤ 940) (j30 : k19 ≤ rlength) (jRT : RT bt rlength rmostBytes z16 x20 k21 k19 x22 x23 w24) (jB : bLoop bt rlength rmostBytes gnu boats 41 gp 0 = bLoop bt rlength rmostBytes gnu boats (41 - k17) z16 k17) (jFk : x25 = rfaultKind) (jFp : x26 = rfaultPlace) (hm34 : 41 - k17 < n32 + 1) (c36 : ¬ x20 = 0) (p38 : r37 = x22) (v41 : r37 = nI 7) (c56 : k17 < 40) (p65 : rplaceG_59 ≤ rlength) (p66 : rbeginG_61 ≤ 940) (p67 : RT bt rlength rmostBytes (tT bt rlength rmostBytes z16) rkindG_60 rbeginG_61 rplaceG_59 rwordG_62 rnumberG_63 rlettersG_64) (p82 : blineCountG_71 ≤ 40) (p83 : rplaceG_73 ≤ rlength) (p84 : rbeginG_75 ≤ 940) (t85 : isO (bRest bt rlength rmostBytes 7 (tT bt rlength rmostBytes z16)) = true) (t86 : RT bt rlength rmostBytes (okV (bRest bt rlength rmostBytes 7 (tT bt rlength rmostBytes z16))) rkindG_74 rbeginG_75 rplaceG_73 rwordG_76 rnumberG_77 rlettersG_78) (t87 : blineCountG_71 = k17 + 1) (t88 : rfaultKindG_79 = x25) (t89 : rfaultPlaceG_80 = x26) (p106 : rplaceG_97 ≤ rlength) (p107 : rbeginG_99 ≤ 940) (t108 : nI (tK bt rlength rmostBytes (okV (bRest bt rlength rmostBytes 7 (tT bt rlength rmostBytes z16)))) = (nI 59)) (t109 : RT bt rlength rmostBytes (tT bt rlength rmostBytes (okV (bRest bt rlength rmostBytes 7 (tT bt rlength rmostBytes z16)))) rkindG_98 rbeginG_99 rplaceG_97 rwordG_100 rnumberG_101 rlettersG_102) (t110 : rfaultKindG_103 = rfaultKindG_79) (t111 : rfaultPlaceG_104 = rfaultPlaceG_80) : rfaultPlaceG_104 = rfaultPlace := by
  subst_vars
  first
    | rfl
    | assumption
set_option maxRecDepth 20000 in
theorem lf_f_bkRead_6 (bt : Nat → Nat) (rlength : Nat) (rmostBytes : Nat) (rplace : Nat) (rkind : Int32) (rbegin : Nat) (rword : Int32) (rnumber : Int32) (rletters : Int64) (rtapeF : Nat → Int32) (boats : Nat) (boatNamesF : Nat → Int64) (gp : Nat) (gnu : Nat → Nat) (k17 : Nat) (k19 : Nat) (x20 : Int32) (k21 : Nat) (x22 : Int32) (x23 : Int32) (w24 : Int64) (z16 : Nat) (n32 : Nat) (r37 : Int32) (rplaceG_59 : Nat) (rkindG_60 : Int32) (rbeginG_61 : Nat) (rwordG_62 : Int32) (rnumberG_63 : Int32) (rlettersG_64 : Int64) (blineCountG_71 : Nat) (rplaceG_73 : Nat) (rkindG_74 : Int32) (rbeginG_75 : Nat) (rwordG_76 : Int32) (rnumberG_77 : Int32) (rlettersG_78 : Int64) (rplaceG_97 : Nat) (rkindG_98 : Int32) (rbeginG_99 : Nat) (rwordG_100 : Int32) (rnumberG_101 : Int32) (rlettersG_102 : Int64) (iv_rreader_0 : rlength ≤ 940) (iv_rreader_1 : rplace ≤ rlength) (iv_rreader_2 : rmostBytes ≤ 900) (iv_rreader_3 : rbegin ≤ 940) (hTC : TC bt rtapeF) (iv_a_5 : boats ≤ 6) (hRT : RT bt rlength rmostBytes gp rkind rbegin rplace rword rnumber rletters) (hNL : NL gnu 6 boats boatNamesF) (j27 : k17 ≤ 40) (j28 : k19 ≤ 940) (j29 : k21 ≤ 940) (j30 : k19 ≤ rlength) (jRT : RT bt rlength rmostBytes z16 x20 k21 k19 x22 x23 w24) (jB : bLoop bt rlength rmostBytes gnu boats 41 gp 0 = bLoop bt rlength rmostBytes gnu boats (41 - k17) z16 k17) (hm34 : 41 - k17 < n32 + 1) (c36 : ¬ x20 = 0) (p38 : r37 = x22) (v41 : r37 = nI 7) (c56 : k17 < 40) (p65 : rplaceG_59 ≤ rlength) (p66 : rbeginG_61 ≤ 940) (p67 : RT bt rlength rmostBytes (tT bt rlength rmostBytes z16) rkindG_60 rbeginG_61 rplaceG_59 rwordG_62 rnumberG_63 rlettersG_64) (p82 : blineCountG_71 ≤ 40) (p83 : rplaceG_73 ≤ rlength) (p84 : rbeginG_75 ≤ 940) (t85 : isO (bRest bt rlength rmostBytes 7 (tT bt rlength rmostBytes z16)) = true) (t86 : RT bt rlength rmostBytes (okV (bRest bt rlength rmostBytes 7 (tT bt rlength rmostBytes z16))) rkindG_74 rbeginG_75 rplaceG_73 rwordG_76 rnumberG_77 rlettersG_78) (t87 : blineCountG_71 = k17 + 1) (p106 : rplaceG_97 ≤ rlength) (p107 : rbeginG_99 ≤ 940) (t108 : nI (tK bt rlength rmostBytes (okV (bRest bt rlength rmostBytes 7 (tT bt rlength rmostBytes z16)))) = (nI 59)) (t109 : RT bt rlength rmostBytes (tT bt rlength rmostBytes (okV (bRest bt rlength rmostBytes 7 (tT bt rlength rmostBytes z16)))) rkindG_98 rbeginG_99 rplaceG_97 rwordG_100 rnumberG_101 rlettersG_102) : 41 - blineCountG_71 < n32 := by
  have b_rkind := ia_b rkind
  have b_rword := ia_b rword
  have b_rnumber := ia_b rnumber
  have b_x20 := ia_b x20
  have b_x22 := ia_b x22
  have b_x23 := ia_b x23
  have b_r37 := ia_b r37
  have b_rkindG_60 := ia_b rkindG_60
  have b_rwordG_62 := ia_b rwordG_62
  have b_rnumberG_63 := ia_b rnumberG_63
  have b_rkindG_74 := ia_b rkindG_74
  have b_rwordG_76 := ia_b rwordG_76
  have b_rnumberG_77 := ia_b rnumberG_77
  have b_rkindG_98 := ia_b rkindG_98
  have b_rwordG_100 := ia_b rwordG_100
  have b_rnumberG_101 := ia_b rnumberG_101
  have b_rletters := Int64.toInt_lt rletters
  have b_w24 := Int64.toInt_lt w24
  have b_rlettersG_64 := Int64.toInt_lt rlettersG_64
  have b_rlettersG_78 := Int64.toInt_lt rlettersG_78
  have b_rlettersG_102 := Int64.toInt_lt rlettersG_102
  try have k_0 := ia_n 7 (by first | decide | omega)
  try have k_1 := ia_n (tK bt rlength rmostBytes (okV (bRest bt rlength rmostBytes 7 (tT bt rlength rmostBytes z16)))) (by first | decide | omega)
  try have k_2 := ia_n 59 (by first | decide | omega)
  try simp only [ia_lt, ia_le, ia_eq, ia_m1, ia_0, ia_1, ne_eq, true_and, and_true, false_and, and_false, or_false, false_or, or_true, true_or, not_true_eq_false, not_false_eq_true] at *
  all_goals omega
set_option maxRecDepth 20000 in
theorem lf_f_bkRead_7 (bt : Nat → Nat) (rlength : Nat) (rmostBytes : Nat) (rplace : Nat) (rkind : Int32) (rbegin : Nat) (rword : Int32) (rnumber : Int32) (rletters : Int64) (rfaultKind : Int32) (rfaultPlace : Int32) (rtapeF : Nat → Int32) (boats : Nat) (boatNamesF : Nat → Int64) (gp : Nat) (gnu : Nat → Nat) (k17 : Nat) (k19 : Nat) (x20 : Int32) (k21 : Nat) (x22 : Int32) (x23 : Int32) (w24 : Int64) (x25 : Int32) (x26 : Int32) (z16 : Nat) (n32 : Nat) (r37 : Int32) (rplaceG_59 : Nat) (rkindG_60 : Int32) (rbeginG_61 : Nat) (rwordG_62 : Int32) (rnumberG_63 : Int32) (rlettersG_64 : Int64) (blineCountG_71 : Nat) (rplaceG_73 : Nat) (rkindG_74 : Int32) (rbeginG_75 : Nat) (rwordG_76 : Int32) (rnumberG_77 : Int32) (rlettersG_78 : Int64) (rfaultKindG_79 : Int32) (rfaultPlaceG_80 : Int32) (rplaceG_97 : Nat) (rfaultKindG_103 : Int32) (rfaultPlaceG_104 : Int32) (iv_rreader_0 : rlength ≤ 940) (iv_rreader_1 : rplace ≤ rlength) (iv_rreader_2 : rmostBytes ≤ 900) (iv_rreader_3 : rbegin ≤ 940) (hTC : TC bt rtapeF) (iv_a_5 : boats ≤ 6) (hRT : RT bt rlength rmostBytes gp rkind rbegin rplace rword rnumber rletters) (hNL : NL gnu 6 boats boatNamesF) (j27 : k17 ≤ 40) (j28 : k19 ≤ 940) (j29 : k21 ≤ 940) (j30 : k19 ≤ rlength) (jRT : RT bt rlength rmostBytes z16 x20 k21 k19 x22 x23 w24) (jB : bLoop bt rlength rmostBytes gnu boats 41 gp 0 = bLoop bt rlength rmostBytes gnu boats (41 - k17) z16 k17) (jFk : x25 = rfaultKind) (jFp : x26 = rfaultPlace) (hm34 : 41 - k17 < n32 + 1) (c36 : ¬ x20 = 0) (p38 : r37 = x22) (v41 : r37 = nI 7) (c56 : k17 < 40) (p65 : rplaceG_59 ≤ rlength) (p66 : rbeginG_61 ≤ 940) (p67 : RT bt rlength rmostBytes (tT bt rlength rmostBytes z16) rkindG_60 rbeginG_61 rplaceG_59 rwordG_62 rnumberG_63 rlettersG_64) (p82 : blineCountG_71 ≤ 40) (p83 : rplaceG_73 ≤ rlength) (p84 : rbeginG_75 ≤ 940) (t85 : isO (bRest bt rlength rmostBytes 7 (tT bt rlength rmostBytes z16)) = true) (t86 : RT bt rlength rmostBytes (okV (bRest bt rlength rmostBytes 7 (tT bt rlength rmostBytes z16))) rkindG_74 rbeginG_75 rplaceG_73 rwordG_76 rnumberG_77 rlettersG_78) (t87 : blineCountG_71 = k17 + 1) (t88 : rfaultKindG_79 = x25) (t89 : rfaultPlaceG_80 = x26) (p106 : rplaceG_97 ≤ rlength) (t112 : ¬ nI (tK bt rlength rmostBytes (okV (bRest bt rlength rmostBytes 7 (tT bt rlength rmostBytes z16)))) = (nI 59)) (t113 : rfaultKindG_103 = nI 1) (t114 : rfaultPlaceG_104 = nI (tF bt rlength rmostBytes (okV (bRest bt rlength rmostBytes 7 (tT bt rlength rmostBytes z16))))) : ((nI 0) = nI 1 ∧ (isO (bLoop bt rlength rmostBytes gnu boats 41 gp 0) = true ∧ rfaultKindG_103 = rfaultKind ∧ rfaultPlaceG_104 = rfaultPlace)) ∨ ((nI 0) = nI 0 ∧ (isO (bLoop bt rlength rmostBytes gnu boats 41 gp 0) = false ∧ rfaultKindG_103 = nI (erA (bLoop bt rlength rmostBytes gnu boats 41 gp 0)) ∧ rfaultPlaceG_104 = nI (erB (bLoop bt rlength rmostBytes gnu boats 41 gp 0)))) := by
  have k0 : ¬ tK bt rlength rmostBytes z16 = 0 := fun z => absurd ((RT_k jRT (c := 0) (by decide)).mpr z) (by
    have kk0 := ia_n 0 (by decide)
    have b_rkind := ia_b rkind
    have b_rword := ia_b rword
    have b_rnumber := ia_b rnumber
    have b_rfaultKind := ia_b rfaultKind
    have b_rfaultPlace := ia_b rfaultPlace
    have b_x20 := ia_b x20
    have b_x22 := ia_b x22
    have b_x23 := ia_b x23
    have b_x25 := ia_b x25
    have b_x26 := ia_b x26
    have b_r37 := ia_b r37
    have b_rkindG_60 := ia_b rkindG_60
    have b_rwordG_62 := ia_b rwordG_62
    have b_rnumberG_63 := ia_b rnumberG_63
    have b_rkindG_74 := ia_b rkindG_74
    have b_rwordG_76 := ia_b rwordG_76
    have b_rnumberG_77 := ia_b rnumberG_77
    have b_rfaultKindG_79 := ia_b rfaultKindG_79
    have b_rfaultPlaceG_80 := ia_b rfaultPlaceG_80
    have b_rfaultKindG_103 := ia_b rfaultKindG_103
    have b_rfaultPlaceG_104 := ia_b rfaultPlaceG_104
    have b_rletters := Int64.toInt_lt rletters
    have b_w24 := Int64.toInt_lt w24
    have b_rlettersG_64 := Int64.toInt_lt rlettersG_64
    have b_rlettersG_78 := Int64.toInt_lt rlettersG_78
    try have k_0 := ia_n 7 (by first | decide | omega)
    try have k_1 := ia_n (tK bt rlength rmostBytes (okV (bRest bt rlength rmostBytes 7 (tT bt rlength rmostBytes z16)))) (by first | decide | omega)
    try have k_2 := ia_n 59 (by first | decide | omega)
    try have k_3 := ia_n 1 (by first | decide | omega)
    try have k_4 := ia_n (tF bt rlength rmostBytes (okV (bRest bt rlength rmostBytes 7 (tT bt rlength rmostBytes z16)))) (by first | decide | omega)
    try have k_5 := ia_n 0 (by first | decide | omega)
    try have k_6 := ia_n (erA (bLoop bt rlength rmostBytes gnu boats 41 gp 0)) (by first | decide | omega)
    try have k_7 := ia_n (erB (bLoop bt rlength rmostBytes gnu boats 41 gp 0)) (by first | decide | omega)
    try simp only [ia_lt, ia_le, ia_eq, ia_m1, ia_0, ia_1, ne_eq, true_and, and_true, false_and, and_false, or_false, false_or, or_true, true_or, not_true_eq_false, not_false_eq_true] at *
    all_goals omega)
  have w9 : tW bt rlength rmostBytes z16 = 7 := (RT_w jRT (by decide)).mp (by
    have kk7 := ia_n 7 (by decide)
    have b_rkind := ia_b rkind
    have b_rword := ia_b rword
    have b_rnumber := ia_b rnumber
    have b_rfaultKind := ia_b rfaultKind
    have b_rfaultPlace := ia_b rfaultPlace
    have b_x20 := ia_b x20
    have b_x22 := ia_b x22
    have b_x23 := ia_b x23
    have b_x25 := ia_b x25
    have b_x26 := ia_b x26
    have b_r37 := ia_b r37
    have b_rkindG_60 := ia_b rkindG_60
    have b_rwordG_62 := ia_b rwordG_62
    have b_rnumberG_63 := ia_b rnumberG_63
    have b_rkindG_74 := ia_b rkindG_74
    have b_rwordG_76 := ia_b rwordG_76
    have b_rnumberG_77 := ia_b rnumberG_77
    have b_rfaultKindG_79 := ia_b rfaultKindG_79
    have b_rfaultPlaceG_80 := ia_b rfaultPlaceG_80
    have b_rfaultKindG_103 := ia_b rfaultKindG_103
    have b_rfaultPlaceG_104 := ia_b rfaultPlaceG_104
    have b_rletters := Int64.toInt_lt rletters
    have b_w24 := Int64.toInt_lt w24
    have b_rlettersG_64 := Int64.toInt_lt rlettersG_64
    have b_rlettersG_78 := Int64.toInt_lt rlettersG_78
    try have k_0 := ia_n 7 (by first | decide | omega)
    try have k_1 := ia_n (tK bt rlength rmostBytes (okV (bRest bt rlength rmostBytes 7 (tT bt rlength rmostBytes z16)))) (by first | decide | omega)
    try have k_2 := ia_n 59 (by first | decide | omega)
    try have k_3 := ia_n 1 (by first | decide | omega)
    try have k_4 := ia_n (tF bt rlength rmostBytes (okV (bRest bt rlength rmostBytes 7 (tT bt rlength rmostBytes z16)))) (by first | decide | omega)
    try have k_5 := ia_n 0 (by first | decide | omega)
    try have k_6 := ia_n (erA (bLoop bt rlength rmostBytes gnu boats 41 gp 0)) (by first | decide | omega)
    try have k_7 := ia_n (erB (bLoop bt rlength rmostBytes gnu boats 41 gp 0)) (by first | decide | omega)
    try simp only [ia_lt, ia_le, ia_eq, ia_m1, ia_0, ia_1, ne_eq, true_and, and_true, false_and, and_false, or_false, false_or, or_true, true_or, not_true_eq_false, not_false_eq_true] at *
    all_goals omega)
  have hs : bSort (tW bt rlength rmostBytes z16) := by rw [w9]; decide
  have hn : tW bt rlength rmostBytes z16 = 31 → isFd gnu 6 boats (tC bt rlength z16) := fun z => absurd (w9.symm.trans z) (by decide)
  have hl := bL_o (ν := gnu) (L := boats) (k := k17) hs hn (by omega)
  rw [w9] at hl
  have hb := bE_s (B := bt) (n := rlength) (m := rmostBytes) (y := bRest bt rlength rmostBytes 7 (tT bt rlength rmostBytes z16)) (by assumption) (tk_d (by assumption))
  have q := bP_err (ν := gnu) (L := boats) k0 (k := k17) (by omega) (by rw [hl, hb]; rfl)
  rw [hl, hb] at q
  rw [jB, q]
  exact Or.inr ⟨rfl, rfl, ‹_›, ‹_›⟩
set_option maxRecDepth 20000 in
theorem lf_f_bkRead_8 (bt : Nat → Nat) (rlength : Nat) (rmostBytes : Nat) (rplace : Nat) (rkind : Int32) (rbegin : Nat) (rword : Int32) (rnumber : Int32) (rletters : Int64) (rfaultKind : Int32) (rfaultPlace : Int32) (rtapeF : Nat → Int32) (boats : Nat) (boatNamesF : Nat → Int64) (gp : Nat) (gnu : Nat → Nat) (k17 : Nat) (k19 : Nat) (x20 : Int32) (k21 : Nat) (x22 : Int32) (x23 : Int32) (w24 : Int64) (x25 : Int32) (x26 : Int32) (z16 : Nat) (n32 : Nat) (r37 : Int32) (rplaceG_59 : Nat) (rkindG_60 : Int32) (rbeginG_61 : Nat) (rwordG_62 : Int32) (rnumberG_63 : Int32) (rlettersG_64 : Int64) (rplaceG_73 : Nat) (rfaultKindG_79 : Int32) (rfaultPlaceG_80 : Int32) (iv_rreader_0 : rlength ≤ 940) (iv_rreader_1 : rplace ≤ rlength) (iv_rreader_2 : rmostBytes ≤ 900) (iv_rreader_3 : rbegin ≤ 940) (hTC : TC bt rtapeF) (iv_a_5 : boats ≤ 6) (hRT : RT bt rlength rmostBytes gp rkind rbegin rplace rword rnumber rletters) (hNL : NL gnu 6 boats boatNamesF) (j27 : k17 ≤ 40) (j28 : k19 ≤ 940) (j29 : k21 ≤ 940) (j30 : k19 ≤ rlength) (jRT : RT bt rlength rmostBytes z16 x20 k21 k19 x22 x23 w24) (jB : bLoop bt rlength rmostBytes gnu boats 41 gp 0 = bLoop bt rlength rmostBytes gnu boats (41 - k17) z16 k17) (jFk : x25 = rfaultKind) (jFp : x26 = rfaultPlace) (hm34 : 41 - k17 < n32 + 1) (c36 : ¬ x20 = 0) (p38 : r37 = x22) (v41 : r37 = nI 7) (c56 : k17 < 40) (p65 : rplaceG_59 ≤ rlength) (p66 : rbeginG_61 ≤ 940) (p67 : RT bt rlength rmostBytes (tT bt rlength rmostBytes z16) rkindG_60 rbeginG_61 rplaceG_59 rwordG_62 rnumberG_63 rlettersG_64) (p83 : rplaceG_73 ≤ rlength) (t90 : isO (bRest bt rlength rmostBytes 7 (tT bt rlength rmostBytes z16)) = false) (t91 : rfaultKindG_79 = nI (erA (bRest bt rlength rmostBytes 7 (tT bt rlength rmostBytes z16)))) (t92 : rfaultPlaceG_80 = nI (erB (bRest bt rlength rmostBytes 7 (tT bt rlength rmostBytes z16)))) : ((nI 0) = nI 1 ∧ (isO (bLoop bt rlength rmostBytes gnu boats 41 gp 0) = true ∧ rfaultKindG_79 = rfaultKind ∧ rfaultPlaceG_80 = rfaultPlace)) ∨ ((nI 0) = nI 0 ∧ (isO (bLoop bt rlength rmostBytes gnu boats 41 gp 0) = false ∧ rfaultKindG_79 = nI (erA (bLoop bt rlength rmostBytes gnu boats 41 gp 0)) ∧ rfaultPlaceG_80 = nI (erB (bLoop bt rlength rmostBytes gnu boats 41 gp 0)))) := by
  have k0 : ¬ tK bt rlength rmostBytes z16 = 0 := fun z => absurd ((RT_k jRT (c := 0) (by decide)).mpr z) (by
    have kk0 := ia_n 0 (by decide)
    have b_rkind := ia_b rkind
    have b_rword := ia_b rword
    have b_rnumber := ia_b rnumber
    have b_rfaultKind := ia_b rfaultKind
    have b_rfaultPlace := ia_b rfaultPlace
    have b_x20 := ia_b x20
    have b_x22 := ia_b x22
    have b_x23 := ia_b x23
    have b_x25 := ia_b x25
    have b_x26 := ia_b x26
    have b_r37 := ia_b r37
    have b_rkindG_60 := ia_b rkindG_60
    have b_rwordG_62 := ia_b rwordG_62
    have b_rnumberG_63 := ia_b rnumberG_63
    have b_rfaultKindG_79 := ia_b rfaultKindG_79
    have b_rfaultPlaceG_80 := ia_b rfaultPlaceG_80
    have b_rletters := Int64.toInt_lt rletters
    have b_w24 := Int64.toInt_lt w24
    have b_rlettersG_64 := Int64.toInt_lt rlettersG_64
    try have k_0 := ia_n 7 (by first | decide | omega)
    try have k_1 := ia_n (erA (bRest bt rlength rmostBytes 7 (tT bt rlength rmostBytes z16))) (by first | decide | omega)
    try have k_2 := ia_n (erB (bRest bt rlength rmostBytes 7 (tT bt rlength rmostBytes z16))) (by first | decide | omega)
    try have k_3 := ia_n 0 (by first | decide | omega)
    try have k_4 := ia_n 1 (by first | decide | omega)
    try have k_5 := ia_n (erA (bLoop bt rlength rmostBytes gnu boats 41 gp 0)) (by first | decide | omega)
    try have k_6 := ia_n (erB (bLoop bt rlength rmostBytes gnu boats 41 gp 0)) (by first | decide | omega)
    try simp only [ia_lt, ia_le, ia_eq, ia_m1, ia_0, ia_1, ne_eq, true_and, and_true, false_and, and_false, or_false, false_or, or_true, true_or, not_true_eq_false, not_false_eq_true] at *
    all_goals omega)
  have w9 : tW bt rlength rmostBytes z16 = 7 := (RT_w jRT (by decide)).mp (by
    have kk7 := ia_n 7 (by decide)
    have b_rkind := ia_b rkind
    have b_rword := ia_b rword
    have b_rnumber := ia_b rnumber
    have b_rfaultKind := ia_b rfaultKind
    have b_rfaultPlace := ia_b rfaultPlace
    have b_x20 := ia_b x20
    have b_x22 := ia_b x22
    have b_x23 := ia_b x23
    have b_x25 := ia_b x25
    have b_x26 := ia_b x26
    have b_r37 := ia_b r37
    have b_rkindG_60 := ia_b rkindG_60
    have b_rwordG_62 := ia_b rwordG_62
    have b_rnumberG_63 := ia_b rnumberG_63
    have b_rfaultKindG_79 := ia_b rfaultKindG_79
    have b_rfaultPlaceG_80 := ia_b rfaultPlaceG_80
    have b_rletters := Int64.toInt_lt rletters
    have b_w24 := Int64.toInt_lt w24
    have b_rlettersG_64 := Int64.toInt_lt rlettersG_64
    try have k_0 := ia_n 7 (by first | decide | omega)
    try have k_1 := ia_n (erA (bRest bt rlength rmostBytes 7 (tT bt rlength rmostBytes z16))) (by first | decide | omega)
    try have k_2 := ia_n (erB (bRest bt rlength rmostBytes 7 (tT bt rlength rmostBytes z16))) (by first | decide | omega)
    try have k_3 := ia_n 0 (by first | decide | omega)
    try have k_4 := ia_n 1 (by first | decide | omega)
    try have k_5 := ia_n (erA (bLoop bt rlength rmostBytes gnu boats 41 gp 0)) (by first | decide | omega)
    try have k_6 := ia_n (erB (bLoop bt rlength rmostBytes gnu boats 41 gp 0)) (by first | decide | omega)
    try simp only [ia_lt, ia_le, ia_eq, ia_m1, ia_0, ia_1, ne_eq, true_and, and_true, false_and, and_false, or_false, false_or, or_true, true_or, not_true_eq_false, not_false_eq_true] at *
    all_goals omega)
  have hs : bSort (tW bt rlength rmostBytes z16) := by rw [w9]; decide
  have hn : tW bt rlength rmostBytes z16 = 31 → isFd gnu 6 boats (tC bt rlength z16) := fun z => absurd (w9.symm.trans z) (by decide)
  have hl := bL_o (ν := gnu) (L := boats) (k := k17) hs hn (by omega)
  rw [w9] at hl
  have hb := bE_e (B := bt) (n := rlength) (m := rmostBytes) (y := bRest bt rlength rmostBytes 7 (tT bt rlength rmostBytes z16)) (by assumption)
  have q := bP_err (ν := gnu) (L := boats) k0 (k := k17) (by omega) (by rw [hl, hb]; rfl)
  rw [hl, hb] at q
  rw [jB, q]
  exact Or.inr ⟨rfl, rfl, ‹_›, ‹_›⟩
set_option maxRecDepth 20000 in
theorem lf_f_bkRead_9 (bt : Nat → Nat) (rlength : Nat) (rmostBytes : Nat) (rplace : Nat) (rkind : Int32) (rbegin : Nat) (rword : Int32) (rnumber : Int32) (rletters : Int64) (rfaultKind : Int32) (rfaultPlace : Int32) (rtapeF : Nat → Int32) (boats : Nat) (boatNamesF : Nat → Int64) (gp : Nat) (gnu : Nat → Nat) (k17 : Nat) (k19 : Nat) (x20 : Int32) (k21 : Nat) (x22 : Int32) (x23 : Int32) (w24 : Int64) (x25 : Int32) (x26 : Int32) (z16 : Nat) (n32 : Nat) (r37 : Int32) (rfaultKindG_121 : Int32) (rfaultPlaceG_122 : Int32) (iv_rreader_0 : rlength ≤ 940) (iv_rreader_1 : rplace ≤ rlength) (iv_rreader_2 : rmostBytes ≤ 900) (iv_rreader_3 : rbegin ≤ 940) (hTC : TC bt rtapeF) (iv_a_5 : boats ≤ 6) (hRT : RT bt rlength rmostBytes gp rkind rbegin rplace rword rnumber rletters) (hNL : NL gnu 6 boats boatNamesF) (j27 : k17 ≤ 40) (j28 : k19 ≤ 940) (j29 : k21 ≤ 940) (j30 : k19 ≤ rlength) (jRT : RT bt rlength rmostBytes z16 x20 k21 k19 x22 x23 w24) (jB : bLoop bt rlength rmostBytes gnu boats 41 gp 0 = bLoop bt rlength rmostBytes gnu boats (41 - k17) z16 k17) (jFk : x25 = rfaultKind) (jFp : x26 = rfaultPlace) (hm34 : 41 - k17 < n32 + 1) (c36 : ¬ x20 = 0) (p38 : r37 = x22) (v41 : r37 = nI 7) (c56 : 40 ≤ k17) (p124 : rfaultKindG_121 = (nI 4)) (p125 : rfaultPlaceG_122 = nI k21) : ((nI 0) = nI 1 ∧ (isO (bLoop bt rlength rmostBytes gnu boats 41 gp 0) = true ∧ rfaultKindG_121 = rfaultKind ∧ rfaultPlaceG_122 = rfaultPlace)) ∨ ((nI 0) = nI 0 ∧ (isO (bLoop bt rlength rmostBytes gnu boats 41 gp 0) = false ∧ rfaultKindG_121 = nI (erA (bLoop bt rlength rmostBytes gnu boats 41 gp 0)) ∧ rfaultPlaceG_122 = nI (erB (bLoop bt rlength rmostBytes gnu boats 41 gp 0)))) := by
  have k0 : ¬ tK bt rlength rmostBytes z16 = 0 := fun z => absurd ((RT_k jRT (c := 0) (by decide)).mpr z) (by
    have kk0 := ia_n 0 (by decide)
    have b_rkind := ia_b rkind
    have b_rword := ia_b rword
    have b_rnumber := ia_b rnumber
    have b_rfaultKind := ia_b rfaultKind
    have b_rfaultPlace := ia_b rfaultPlace
    have b_x20 := ia_b x20
    have b_x22 := ia_b x22
    have b_x23 := ia_b x23
    have b_x25 := ia_b x25
    have b_x26 := ia_b x26
    have b_r37 := ia_b r37
    have b_rfaultKindG_121 := ia_b rfaultKindG_121
    have b_rfaultPlaceG_122 := ia_b rfaultPlaceG_122
    have b_rletters := Int64.toInt_lt rletters
    have b_w24 := Int64.toInt_lt w24
    try have k_0 := ia_n 7 (by first | decide | omega)
    try have k_1 := ia_n 4 (by first | decide | omega)
    try have k_2 := ia_n k21 (by first | decide | omega)
    try have k_3 := ia_n 0 (by first | decide | omega)
    try have k_4 := ia_n 1 (by first | decide | omega)
    try have k_5 := ia_n (erA (bLoop bt rlength rmostBytes gnu boats 41 gp 0)) (by first | decide | omega)
    try have k_6 := ia_n (erB (bLoop bt rlength rmostBytes gnu boats 41 gp 0)) (by first | decide | omega)
    try simp only [ia_lt, ia_le, ia_eq, ia_m1, ia_0, ia_1, ne_eq, true_and, and_true, false_and, and_false, or_false, false_or, or_true, true_or, not_true_eq_false, not_false_eq_true] at *
    all_goals omega)
  have w9 : tW bt rlength rmostBytes z16 = 7 := (RT_w jRT (by decide)).mp (by
    have kk7 := ia_n 7 (by decide)
    have b_rkind := ia_b rkind
    have b_rword := ia_b rword
    have b_rnumber := ia_b rnumber
    have b_rfaultKind := ia_b rfaultKind
    have b_rfaultPlace := ia_b rfaultPlace
    have b_x20 := ia_b x20
    have b_x22 := ia_b x22
    have b_x23 := ia_b x23
    have b_x25 := ia_b x25
    have b_x26 := ia_b x26
    have b_r37 := ia_b r37
    have b_rfaultKindG_121 := ia_b rfaultKindG_121
    have b_rfaultPlaceG_122 := ia_b rfaultPlaceG_122
    have b_rletters := Int64.toInt_lt rletters
    have b_w24 := Int64.toInt_lt w24
    try have k_0 := ia_n 7 (by first | decide | omega)
    try have k_1 := ia_n 4 (by first | decide | omega)
    try have k_2 := ia_n k21 (by first | decide | omega)
    try have k_3 := ia_n 0 (by first | decide | omega)
    try have k_4 := ia_n 1 (by first | decide | omega)
    try have k_5 := ia_n (erA (bLoop bt rlength rmostBytes gnu boats 41 gp 0)) (by first | decide | omega)
    try have k_6 := ia_n (erB (bLoop bt rlength rmostBytes gnu boats 41 gp 0)) (by first | decide | omega)
    try simp only [ia_lt, ia_le, ia_eq, ia_m1, ia_0, ia_1, ne_eq, true_and, and_true, false_and, and_false, or_false, false_or, or_true, true_or, not_true_eq_false, not_false_eq_true] at *
    all_goals omega)
  have hs : bSort (tW bt rlength rmostBytes z16) := by rw [w9]; decide
  have hn : tW bt rlength rmostBytes z16 = 31 → isFd gnu 6 boats (tC bt rlength z16) := fun z => absurd (w9.symm.trans z) (by decide)
  have hl := bL_4 (ν := gnu) (L := boats) (k := k17) hs hn (by omega)
  have q := bP_err (ν := gnu) (L := boats) k0 (k := k17) (by omega) (by rw [hl]; rfl)
  rw [hl] at q
  rw [jB, q]
  exact Or.inr ⟨rfl, rfl, ‹_›, (Eq.trans (by assumption) (congrArg nI jRT.2.1))⟩
set_option maxRecDepth 20000 in
theorem lf_f_bkRead_10 (bt : Nat → Nat) (rlength : Nat) (rmostBytes : Nat) (rplace : Nat) (rkind : Int32) (rbegin : Nat) (rword : Int32) (rnumber : Int32) (rletters : Int64) (rfaultKind : Int32) (rfaultPlace : Int32) (rtapeF : Nat → Int32) (boats : Nat) (boatNamesF : Nat → Int64) (gp : Nat) (gnu : Nat → Nat) (k17 : Nat) (k19 : Nat) (x20 : Int32) (k21 : Nat) (x22 : Int32) (x23 : Int32) (w24 : Int64) (x25 : Int32) (x26 : Int32) (z16 : Nat) (n32 : Nat) (r37 : Int32) (rfaultKindG_139 : Int32) (rfaultPlaceG_140 : Int32) (iv_rreader_0 : rlength ≤ 940) (iv_rreader_1 : rplace ≤ rlength) (iv_rreader_2 : rmostBytes ≤ 900) (iv_rreader_3 : rbegin ≤ 940) (hTC : TC bt rtapeF) (iv_a_5 : boats ≤ 6) (hRT : RT bt rlength rmostBytes gp rkind rbegin rplace rword rnumber rletters) (hNL : NL gnu 6 boats boatNamesF) (j27 : k17 ≤ 40) (j28 : k19 ≤ 940) (j29 : k21 ≤ 940) (j30 : k19 ≤ rlength) (jRT : RT bt rlength rmostBytes z16 x20 k21 k19 x22 x23 w24) (jB : bLoop bt rlength rmostBytes gnu boats 41 gp 0 = bLoop bt rlength rmostBytes gnu boats (41 - k17) z16 k17) (jFk : x25 = rfaultKind) (jFp : x26 = rfaultPlace) (hm34 : 41 - k17 < n32 + 1) (c36 : ¬ x20 = 0) (p38 : r37 = x22) (v42 : r37 = nI 31) (t133 : ¬ hasJ boats boatNamesF w24) (p142 : rfaultKindG_139 = (nI 3)) (p143 : rfaultPlaceG_140 = nI k21) : ((nI 0) = nI 1 ∧ (isO (bLoop bt rlength rmostBytes gnu boats 41 gp 0) = true ∧ rfaultKindG_139 = rfaultKind ∧ rfaultPlaceG_140 = rfaultPlace)) ∨ ((nI 0) = nI 0 ∧ (isO (bLoop bt rlength rmostBytes gnu boats 41 gp 0) = false ∧ rfaultKindG_139 = nI (erA (bLoop bt rlength rmostBytes gnu boats 41 gp 0)) ∧ rfaultPlaceG_140 = nI (erB (bLoop bt rlength rmostBytes gnu boats 41 gp 0)))) := by
  have k0 : ¬ tK bt rlength rmostBytes z16 = 0 := fun z => absurd ((RT_k jRT (c := 0) (by decide)).mpr z) (by
    have kk0 := ia_n 0 (by decide)
    have b_rkind := ia_b rkind
    have b_rword := ia_b rword
    have b_rnumber := ia_b rnumber
    have b_rfaultKind := ia_b rfaultKind
    have b_rfaultPlace := ia_b rfaultPlace
    have b_x20 := ia_b x20
    have b_x22 := ia_b x22
    have b_x23 := ia_b x23
    have b_x25 := ia_b x25
    have b_x26 := ia_b x26
    have b_r37 := ia_b r37
    have b_rfaultKindG_139 := ia_b rfaultKindG_139
    have b_rfaultPlaceG_140 := ia_b rfaultPlaceG_140
    have b_rletters := Int64.toInt_lt rletters
    have b_w24 := Int64.toInt_lt w24
    try have k_0 := ia_n 31 (by first | decide | omega)
    try have k_1 := ia_n 3 (by first | decide | omega)
    try have k_2 := ia_n k21 (by first | decide | omega)
    try have k_3 := ia_n 0 (by first | decide | omega)
    try have k_4 := ia_n 1 (by first | decide | omega)
    try have k_5 := ia_n (erA (bLoop bt rlength rmostBytes gnu boats 41 gp 0)) (by first | decide | omega)
    try have k_6 := ia_n (erB (bLoop bt rlength rmostBytes gnu boats 41 gp 0)) (by first | decide | omega)
    try simp only [ia_lt, ia_le, ia_eq, ia_m1, ia_0, ia_1, ne_eq, true_and, and_true, false_and, and_false, or_false, false_or, or_true, true_or, not_true_eq_false, not_false_eq_true] at *
    all_goals omega)
  have w9 : tW bt rlength rmostBytes z16 = 31 := (RT_w jRT (by decide)).mp (by
    have kk31 := ia_n 31 (by decide)
    have b_rkind := ia_b rkind
    have b_rword := ia_b rword
    have b_rnumber := ia_b rnumber
    have b_rfaultKind := ia_b rfaultKind
    have b_rfaultPlace := ia_b rfaultPlace
    have b_x20 := ia_b x20
    have b_x22 := ia_b x22
    have b_x23 := ia_b x23
    have b_x25 := ia_b x25
    have b_x26 := ia_b x26
    have b_r37 := ia_b r37
    have b_rfaultKindG_139 := ia_b rfaultKindG_139
    have b_rfaultPlaceG_140 := ia_b rfaultPlaceG_140
    have b_rletters := Int64.toInt_lt rletters
    have b_w24 := Int64.toInt_lt w24
    try have k_0 := ia_n 31 (by first | decide | omega)
    try have k_1 := ia_n 3 (by first | decide | omega)
    try have k_2 := ia_n k21 (by first | decide | omega)
    try have k_3 := ia_n 0 (by first | decide | omega)
    try have k_4 := ia_n 1 (by first | decide | omega)
    try have k_5 := ia_n (erA (bLoop bt rlength rmostBytes gnu boats 41 gp 0)) (by first | decide | omega)
    try have k_6 := ia_n (erB (bLoop bt rlength rmostBytes gnu boats 41 gp 0)) (by first | decide | omega)
    try simp only [ia_lt, ia_le, ia_eq, ia_m1, ia_0, ia_1, ne_eq, true_and, and_true, false_and, and_false, or_false, false_or, or_true, true_or, not_true_eq_false, not_false_eq_true] at *
    all_goals omega)
  have hs : bSort (tW bt rlength rmostBytes z16) := by rw [w9]; decide
  have hk2 := tW_2 w9 (by decide)
  have hle := jRT.2.2.2.2.2 hk2
  have q1 := t133
  rw [hle] at q1
  have nn : ¬ isFd gnu 6 boats (tC bt rlength z16) := fun z => q1 ((NL_has hNL (tC_GN hk2)).mpr z)
  have hl := bL_3 (ν := gnu) (L := boats) (k := k17) w9 nn
  have q := bP_err (ν := gnu) (L := boats) k0 (k := k17) (by omega) (by rw [hl]; rfl)
  rw [hl] at q
  rw [jB, q]
  exact Or.inr ⟨rfl, rfl, ‹_›, (Eq.trans (by assumption) (congrArg nI jRT.2.1))⟩
set_option maxRecDepth 20000 in
theorem lf_f_bkRead_11 (bt : Nat → Nat) (rlength : Nat) (rmostBytes : Nat) (rplace : Nat) (rkind : Int32) (rbegin : Nat) (rword : Int32) (rnumber : Int32) (rletters : Int64) (rtapeF : Nat → Int32) (boats : Nat) (boatNamesF : Nat → Int64) (gp : Nat) (gnu : Nat → Nat) (k17 : Nat) (k19 : Nat) (x20 : Int32) (k21 : Nat) (x22 : Int32) (x23 : Int32) (w24 : Int64) (z16 : Nat) (n32 : Nat) (r37 : Int32) (k129 : Nat) (iv_rreader_0 : rlength ≤ 940) (iv_rreader_1 : rplace ≤ rlength) (iv_rreader_2 : rmostBytes ≤ 900) (iv_rreader_3 : rbegin ≤ 940) (hTC : TC bt rtapeF) (iv_a_5 : boats ≤ 6) (hRT : RT bt rlength rmostBytes gp rkind rbegin rplace rword rnumber rletters) (hNL : NL gnu 6 boats boatNamesF) (j27 : k17 ≤ 40) (j28 : k19 ≤ 940) (j29 : k21 ≤ 940) (j30 : k19 ≤ rlength) (jRT : RT bt rlength rmostBytes z16 x20 k21 k19 x22 x23 w24) (jB : bLoop bt rlength rmostBytes gnu boats 41 gp 0 = bLoop bt rlength rmostBytes gnu boats (41 - k17) z16 k17) (hm34 : 41 - k17 < n32 + 1) (c36 : ¬ x20 = 0) (p38 : r37 = x22) (v42 : r37 = nI 31) (h131 : k129 < boats) (h132 : fstJ boatNamesF w24 k129) : k129 < 2147483648 := by
  have b_rkind := ia_b rkind
  have b_rword := ia_b rword
  have b_rnumber := ia_b rnumber
  have b_x20 := ia_b x20
  have b_x22 := ia_b x22
  have b_x23 := ia_b x23
  have b_r37 := ia_b r37
  have b_rletters := Int64.toInt_lt rletters
  have b_w24 := Int64.toInt_lt w24
  try have k_0 := ia_n 31 (by first | decide | omega)
  try simp only [ia_lt, ia_le, ia_eq, ia_m1, ia_0, ia_1, ne_eq, true_and, and_true, false_and, and_false, or_false, false_or, or_true, true_or, not_true_eq_false, not_false_eq_true] at *
  all_goals omega
set_option maxRecDepth 20000 in
theorem lf_f_bkRead_12 (bt : Nat → Nat) (rlength : Nat) (rmostBytes : Nat) (rplace : Nat) (rkind : Int32) (rbegin : Nat) (rword : Int32) (rnumber : Int32) (rletters : Int64) (rtapeF : Nat → Int32) (boats : Nat) (boatNamesF : Nat → Int64) (gp : Nat) (gnu : Nat → Nat) (k17 : Nat) (k19 : Nat) (x20 : Int32) (k21 : Nat) (x22 : Int32) (x23 : Int32) (w24 : Int64) (z16 : Nat) (n32 : Nat) (r37 : Int32) (k129 : Nat) (rplaceG_149 : Nat) (rkindG_150 : Int32) (rbeginG_151 : Nat) (rwordG_152 : Int32) (rnumberG_153 : Int32) (rlettersG_154 : Int64) (blineCountG_161 : Nat) (rplaceG_163 : Nat) (rkindG_164 : Int32) (rbeginG_165 : Nat) (rwordG_166 : Int32) (rnumberG_167 : Int32) (rlettersG_168 : Int64) (rplaceG_187 : Nat) (rkindG_188 : Int32) (rbeginG_189 : Nat) (rwordG_190 : Int32) (rnumberG_191 : Int32) (rlettersG_192 : Int64) (iv_rreader_0 : rlength ≤ 940) (iv_rreader_1 : rplace ≤ rlength) (iv_rreader_2 : rmostBytes ≤ 900) (iv_rreader_3 : rbegin ≤ 940) (hTC : TC bt rtapeF) (iv_a_5 : boats ≤ 6) (hRT : RT bt rlength rmostBytes gp rkind rbegin rplace rword rnumber rletters) (hNL : NL gnu 6 boats boatNamesF) (j27 : k17 ≤ 40) (j28 : k19 ≤ 940) (j29 : k21 ≤ 940) (j30 : k19 ≤ rlength) (jRT : RT bt rlength rmostBytes z16 x20 k21 k19 x22 x23 w24) (jB : bLoop bt rlength rmostBytes gnu boats 41 gp 0 = bLoop bt rlength rmostBytes gnu boats (41 - k17) z16 k17) (hm34 : 41 - k17 < n32 + 1) (c36 : ¬ x20 = 0) (p38 : r37 = x22) (v42 : r37 = nI 31) (h131 : k129 < boats) (h132 : fstJ boatNamesF w24 k129) (c146 : k17 < 40) (p155 : rplaceG_149 ≤ rlength) (p156 : rbeginG_151 ≤ 940) (p157 : RT bt rlength rmostBytes (tT bt rlength rmostBytes z16) rkindG_150 rbeginG_151 rplaceG_149 rwordG_152 rnumberG_153 rlettersG_154) (p172 : blineCountG_161 ≤ 40) (p173 : rplaceG_163 ≤ rlength) (p174 : rbeginG_165 ≤ 940) (t175 : isO (bRest bt rlength rmostBytes 31 (tT bt rlength rmostBytes z16)) = true) (t176 : RT bt rlength rmostBytes (okV (bRest bt rlength rmostBytes 31 (tT bt rlength rmostBytes z16))) rkindG_164 rbeginG_165 rplaceG_163 rwordG_166 rnumberG_167 rlettersG_168) (t177 : blineCountG_161 = k17 + 1) (p196 : rplaceG_187 ≤ rlength) (p197 : rbeginG_189 ≤ 940) (t198 : nI (tK bt rlength rmostBytes (okV (bRest bt rlength rmostBytes 31 (tT bt rlength rmostBytes z16)))) = (nI 59)) (t199 : RT bt rlength rmostBytes (tT bt rlength rmostBytes (okV (bRest bt rlength rmostBytes 31 (tT bt rlength rmostBytes z16)))) rkindG_188 rbeginG_189 rplaceG_187 rwordG_190 rnumberG_191 rlettersG_192) : rplaceG_187 ≤ 940 := by
  have b_rkind := ia_b rkind
  have b_rword := ia_b rword
  have b_rnumber := ia_b rnumber
  have b_x20 := ia_b x20
  have b_x22 := ia_b x22
  have b_x23 := ia_b x23
  have b_r37 := ia_b r37
  have b_rkindG_150 := ia_b rkindG_150
  have b_rwordG_152 := ia_b rwordG_152
  have b_rnumberG_153 := ia_b rnumberG_153
  have b_rkindG_164 := ia_b rkindG_164
  have b_rwordG_166 := ia_b rwordG_166
  have b_rnumberG_167 := ia_b rnumberG_167
  have b_rkindG_188 := ia_b rkindG_188
  have b_rwordG_190 := ia_b rwordG_190
  have b_rnumberG_191 := ia_b rnumberG_191
  have b_rletters := Int64.toInt_lt rletters
  have b_w24 := Int64.toInt_lt w24
  have b_rlettersG_154 := Int64.toInt_lt rlettersG_154
  have b_rlettersG_168 := Int64.toInt_lt rlettersG_168
  have b_rlettersG_192 := Int64.toInt_lt rlettersG_192
  try have k_0 := ia_n 31 (by first | decide | omega)
  try have k_1 := ia_n (tK bt rlength rmostBytes (okV (bRest bt rlength rmostBytes 31 (tT bt rlength rmostBytes z16)))) (by first | decide | omega)
  try have k_2 := ia_n 59 (by first | decide | omega)
  try simp only [ia_lt, ia_le, ia_eq, ia_m1, ia_0, ia_1, ne_eq, true_and, and_true, false_and, and_false, or_false, false_or, or_true, true_or, not_true_eq_false, not_false_eq_true] at *
  all_goals omega
set_option maxRecDepth 20000 in
theorem lf_f_bkRead_13 (bt : Nat → Nat) (rlength : Nat) (rmostBytes : Nat) (rplace : Nat) (rkind : Int32) (rbegin : Nat) (rword : Int32) (rnumber : Int32) (rletters : Int64) (rtapeF : Nat → Int32) (boats : Nat) (boatNamesF : Nat → Int64) (gp : Nat) (gnu : Nat → Nat) (k17 : Nat) (k19 : Nat) (x20 : Int32) (k21 : Nat) (x22 : Int32) (x23 : Int32) (w24 : Int64) (z16 : Nat) (n32 : Nat) (r37 : Int32) (k129 : Nat) (rplaceG_149 : Nat) (rkindG_150 : Int32) (rbeginG_151 : Nat) (rwordG_152 : Int32) (rnumberG_153 : Int32) (rlettersG_154 : Int64) (blineCountG_161 : Nat) (rplaceG_163 : Nat) (rkindG_164 : Int32) (rbeginG_165 : Nat) (rwordG_166 : Int32) (rnumberG_167 : Int32) (rlettersG_168 : Int64) (rplaceG_187 : Nat) (rkindG_188 : Int32) (rbeginG_189 : Nat) (rwordG_190 : Int32) (rnumberG_191 : Int32) (rlettersG_192 : Int64) (iv_rreader_0 : rlength ≤ 940) (iv_rreader_1 : rplace ≤ rlength) (iv_rreader_2 : rmostBytes ≤ 900) (iv_rreader_3 : rbegin ≤ 940) (hTC : TC bt rtapeF) (iv_a_5 : boats ≤ 6) (hRT : RT bt rlength rmostBytes gp rkind rbegin rplace rword rnumber rletters) (hNL : NL gnu 6 boats boatNamesF) (j27 : k17 ≤ 40) (j28 : k19 ≤ 940) (j29 : k21 ≤ 940) (j30 : k19 ≤ rlength) (jRT : RT bt rlength rmostBytes z16 x20 k21 k19 x22 x23 w24) (jB : bLoop bt rlength rmostBytes gnu boats 41 gp 0 = bLoop bt rlength rmostBytes gnu boats (41 - k17) z16 k17) (hm34 : 41 - k17 < n32 + 1) (c36 : ¬ x20 = 0) (p38 : r37 = x22) (v42 : r37 = nI 31) (h131 : k129 < boats) (h132 : fstJ boatNamesF w24 k129) (c146 : k17 < 40) (p155 : rplaceG_149 ≤ rlength) (p156 : rbeginG_151 ≤ 940) (p157 : RT bt rlength rmostBytes (tT bt rlength rmostBytes z16) rkindG_150 rbeginG_151 rplaceG_149 rwordG_152 rnumberG_153 rlettersG_154) (p172 : blineCountG_161 ≤ 40) (p173 : rplaceG_163 ≤ rlength) (p174 : rbeginG_165 ≤ 940) (t175 : isO (bRest bt rlength rmostBytes 31 (tT bt rlength rmostBytes z16)) = true) (t176 : RT bt rlength rmostBytes (okV (bRest bt rlength rmostBytes 31 (tT bt rlength rmostBytes z16))) rkindG_164 rbeginG_165 rplaceG_163 rwordG_166 rnumberG_167 rlettersG_168) (t177 : blineCountG_161 = k17 + 1) (p196 : rplaceG_187 ≤ rlength) (p197 : rbeginG_189 ≤ 940) (t198 : nI (tK bt rlength rmostBytes (okV (bRest bt rlength rmostBytes 31 (tT bt rlength rmostBytes z16)))) = (nI 59)) (t199 : RT bt rlength rmostBytes (tT bt rlength rmostBytes (okV (bRest bt rlength rmostBytes 31 (tT bt rlength rmostBytes z16)))) rkindG_188 rbeginG_189 rplaceG_187 rwordG_190 rnumberG_191 rlettersG_192) : bLoop bt rlength rmostBytes gnu boats 41 gp 0 = bLoop bt rlength rmostBytes gnu boats (41 - blineCountG_161) (tT bt rlength rmostBytes (okV (bRest bt rlength rmostBytes 31 (tT bt rlength rmostBytes z16)))) blineCountG_161 := by
  have k0 : ¬ tK bt rlength rmostBytes z16 = 0 := fun z => absurd ((RT_k jRT (c := 0) (by decide)).mpr z) (by
    have kk0 := ia_n 0 (by decide)
    have b_rkind := ia_b rkind
    have b_rword := ia_b rword
    have b_rnumber := ia_b rnumber
    have b_x20 := ia_b x20
    have b_x22 := ia_b x22
    have b_x23 := ia_b x23
    have b_r37 := ia_b r37
    have b_rkindG_150 := ia_b rkindG_150
    have b_rwordG_152 := ia_b rwordG_152
    have b_rnumberG_153 := ia_b rnumberG_153
    have b_rkindG_164 := ia_b rkindG_164
    have b_rwordG_166 := ia_b rwordG_166
    have b_rnumberG_167 := ia_b rnumberG_167
    have b_rkindG_188 := ia_b rkindG_188
    have b_rwordG_190 := ia_b rwordG_190
    have b_rnumberG_191 := ia_b rnumberG_191
    have b_rletters := Int64.toInt_lt rletters
    have b_w24 := Int64.toInt_lt w24
    have b_rlettersG_154 := Int64.toInt_lt rlettersG_154
    have b_rlettersG_168 := Int64.toInt_lt rlettersG_168
    have b_rlettersG_192 := Int64.toInt_lt rlettersG_192
    try have k_0 := ia_n 31 (by first | decide | omega)
    try have k_1 := ia_n (tK bt rlength rmostBytes (okV (bRest bt rlength rmostBytes 31 (tT bt rlength rmostBytes z16)))) (by first | decide | omega)
    try have k_2 := ia_n 59 (by first | decide | omega)
    try simp only [ia_lt, ia_le, ia_eq, ia_m1, ia_0, ia_1, ne_eq, true_and, and_true, false_and, and_false, or_false, false_or, or_true, true_or, not_true_eq_false, not_false_eq_true] at *
    all_goals omega)
  have w9 : tW bt rlength rmostBytes z16 = 31 := (RT_w jRT (by decide)).mp (by
    have kk31 := ia_n 31 (by decide)
    have b_rkind := ia_b rkind
    have b_rword := ia_b rword
    have b_rnumber := ia_b rnumber
    have b_x20 := ia_b x20
    have b_x22 := ia_b x22
    have b_x23 := ia_b x23
    have b_r37 := ia_b r37
    have b_rkindG_150 := ia_b rkindG_150
    have b_rwordG_152 := ia_b rwordG_152
    have b_rnumberG_153 := ia_b rnumberG_153
    have b_rkindG_164 := ia_b rkindG_164
    have b_rwordG_166 := ia_b rwordG_166
    have b_rnumberG_167 := ia_b rnumberG_167
    have b_rkindG_188 := ia_b rkindG_188
    have b_rwordG_190 := ia_b rwordG_190
    have b_rnumberG_191 := ia_b rnumberG_191
    have b_rletters := Int64.toInt_lt rletters
    have b_w24 := Int64.toInt_lt w24
    have b_rlettersG_154 := Int64.toInt_lt rlettersG_154
    have b_rlettersG_168 := Int64.toInt_lt rlettersG_168
    have b_rlettersG_192 := Int64.toInt_lt rlettersG_192
    try have k_0 := ia_n 31 (by first | decide | omega)
    try have k_1 := ia_n (tK bt rlength rmostBytes (okV (bRest bt rlength rmostBytes 31 (tT bt rlength rmostBytes z16)))) (by first | decide | omega)
    try have k_2 := ia_n 59 (by first | decide | omega)
    try simp only [ia_lt, ia_le, ia_eq, ia_m1, ia_0, ia_1, ne_eq, true_and, and_true, false_and, and_false, or_false, false_or, or_true, true_or, not_true_eq_false, not_false_eq_true] at *
    all_goals omega)
  have hs : bSort (tW bt rlength rmostBytes z16) := by rw [w9]; decide
  have hk2 := tW_2 w9 (by decide)
  have hle := jRT.2.2.2.2.2 hk2
  have q1 := hasJ_fst ‹_ < boats› ‹fstJ boatNamesF _ _›
  rw [hle] at q1
  have hn : tW bt rlength rmostBytes z16 = 31 → isFd gnu 6 boats (tC bt rlength z16) := fun _ => (NL_has hNL (tC_GN hk2)).mp q1
  have hl := bL_o (ν := gnu) (L := boats) (k := k17) hs hn (by omega)
  rw [w9] at hl
  have hb := bE_o (B := bt) (n := rlength) (m := rmostBytes) (y := bRest bt rlength rmostBytes 31 (tT bt rlength rmostBytes z16)) (by assumption) (tk_c (by assumption) (by decide))
  have q := bP_step (ν := gnu) (L := boats) k0 (k := k17) (by omega) (by rw [hl, hb]; rfl)
  rw [hl, hb] at q
  rw [jB, q]
  subst_vars
  rfl
set_option maxRecDepth 20000 in
theorem lf_f_bkRead_14 (adK : Nat → Nat) (adV : Nat → Nat) (bk : Nat) (blines : Nat) (blineCount : Nat) (blived : Int32) (bwhyWrong : Int32) (bfineLines : Int32) (bdayThen : Int32) (beatenThen : Int32) (blinesF : Nat → Int32) (bt : Nat → Nat) (reader : Nat) (rtape : Nat) (rlength : Nat) (rmostBytes : Nat) (rplace : Nat) (rkind : Int32) (rbegin : Nat) (rword : Int32) (rnumber : Int32) (rletters : Int64) (rfaultKind : Int32) (rfaultPlace : Int32) (rtapeF : Nat → Int32) (a : Nat) (wide : Nat) (high : Nat) (heat : Int32) (cools : Int32) (skinHeat : Int32) (today : Int32) (stirs : Int32) (steps : Int32) (lumps : Nat) (boats : Nat) (thickness : Nat) (lumpNames : Nat) (lumpCells : Nat) (boatNames : Nat) (boatCells : Nat) (loads : Nat) (spoons : Nat) (spoonsLeft : Nat) (depths : Nat) (boatNamesF : Nat → Int64) (gp : Nat) (gnu : Nat → Nat) (k17 : Nat) (f18 : Nat → Int32) (k19 : Nat) (x20 : Int32) (k21 : Nat) (x22 : Int32) (x23 : Int32) (w24 : Int64) (x25 : Int32) (x26 : Int32) (z16 : Nat) (n32 : Nat) (r37 : Int32) (k129 : Nat) (rplaceG_149 : Nat) (rkindG_150 : Int32) (rbeginG_151 : Nat) (rwordG_152 : Int32) (rnumberG_153 : Int32) (rlettersG_154 : Int64) (blineCountG_161 : Nat) (blinesG_162 : Nat → Int32) (rplaceG_163 : Nat) (rkindG_164 : Int32) (rbeginG_165 : Nat) (rwordG_166 : Int32) (rnumberG_167 : Int32) (rlettersG_168 : Int64) (rfaultKindG_169 : Int32) (rfaultPlaceG_170 : Int32) (rplaceG_187 : Nat) (rkindG_188 : Int32) (rbeginG_189 : Nat) (rwordG_190 : Int32) (rnumberG_191 : Int32) (rlettersG_192 : Int64) (rfaultKindG_193 : Int32) (rfaultPlaceG_194 : Int32) (iv_bbk_0 : blineCount ≤ 40) (iv_rreader_0 : rlength ≤ 940) (iv_rreader_1 : rplace ≤ rlength) (iv_rreader_2 : rmostBytes ≤ 900) (iv_rreader_3 : rbegin ≤ 940) (hTC : TC bt rtapeF) (iv_a_0 : 2 ≤ wide) (iv_a_1 : wide ≤ 6) (iv_a_2 : 2 ≤ high) (iv_a_3 : high ≤ 6) (iv_a_4 : lumps ≤ 6) (iv_a_5 : boats ≤ 6) (hRT : RT bt rlength rmostBytes gp rkind rbegin rplace rword rnumber rletters) (hNL : NL gnu 6 boats boatNamesF) (j27 : k17 ≤ 40) (j28 : k19 ≤ 940) (j29 : k21 ≤ 940) (j30 : k19 ≤ rlength) (jRT : RT bt rlength rmostBytes z16 x20 k21 k19 x22 x23 w24) (jB : bLoop bt rlength rmostBytes gnu boats 41 gp 0 = bLoop bt rlength rmostBytes gnu boats (41 - k17) z16 k17) (jFk : x25 = rfaultKind) (jFp : x26 = rfaultPlace) (hm34 : 41 - k17 < n32 + 1) (c36 : ¬ x20 = 0) (p38 : r37 = x22) (v42 : r37 = nI 31) (h131 : k129 < boats) (h132 : fstJ boatNamesF w24 k129) (c146 : k17 < 40) (p155 : rplaceG_149 ≤ rlength) (p156 : rbeginG_151 ≤ 940) (p157 : RT bt rlength rmostBytes (tT bt rlength rmostBytes z16) rkindG_150 rbeginG_151 rplaceG_149 rwordG_152 rnumberG_153 rlettersG_154) (p172 : blineCountG_161 ≤ 40) (p173 : rplaceG_163 ≤ rlength) (p174 : rbeginG_165 ≤ 940) (t175 : isO (bRest bt rlength rmostBytes 31 (tT bt rlength rmostBytes z16)) = true) (t176 : RT bt rlength rmostBytes (okV (bRest bt rlength rmostBytes 31 (tT bt rlength rmostBytes z16))) rkindG_164 rbeginG_165 rplaceG_163 rwordG_166 rnumberG_167 rlettersG_168) (t177 : blineCountG_161 = k17 + 1) (t178 : rfaultKindG_169 = x25) (t179 : rfaultPlaceG_170 = x26) (p196 : rplaceG_187 ≤ rlength) (p197 : rbeginG_189 ≤ 940) (t198 : nI (tK bt rlength rmostBytes (okV (bRest bt rlength rmostBytes 31 (tT bt rlength rmostBytes z16)))) = (nI 59)) (t199 : RT bt rlength rmostBytes (tT bt rlength rmostBytes (okV (bRest bt rlength rmostBytes 31 (tT bt rlength rmostBytes z16)))) rkindG_188 rbeginG_189 rplaceG_187 rwordG_190 rnumberG_191 rlettersG_192) (t200 : rfaultKindG_193 = rfaultKindG_169) (t201 : rfaultPlaceG_194 = rfaultPlaceG_170) : rfaultKindG_193 = rfaultKind := by
  subst_vars
  first
    | rfl
    | assumption
set_option maxRecDepth 20000 in
theorem lf_f_bkRead_15 (adK : Nat → Nat) (adV : Nat → Nat) (bk : Nat) (blines : Nat) (blineCount : Nat) (blived : Int32) (bwhyWrong : Int32) (bfineLines : Int32) (bdayThen : Int32) (beatenThen : Int32) (blinesF : Nat → Int32) (bt : Nat → Nat) (reader : Nat) (rtape : Nat) (rlength : Nat) (rmostBytes : Nat) (rplace : Nat) (rkind : Int32) (rbegin : Nat) (rword : Int32) (rnumber : Int32) (rletters : Int64) (rfaultKind : Int32) (rfaultPlace : Int32) (rtapeF : Nat → Int32) (a : Nat) (wide : Nat) (high : Nat) (heat : Int32) (cools : Int32) (skinHeat : Int32) (today : Int32) (stirs : Int32) (steps : Int32) (lumps : Nat) (boats : Nat) (thickness : Nat) (lumpNames : Nat) (lumpCells : Nat) (boatNames : Nat) (boatCells : Nat) (loads : Nat) (spoons : Nat) (spoonsLeft : Nat) (depths : Nat) (boatNamesF : Nat → Int64) (gp : Nat) (gnu : Nat → Nat) (k17 : Nat) (f18 : Nat → Int32) (k19 : Nat) (x20 : Int32) (k21 : Nat) (x22 : Int32) (x23 : Int32) (w24 : Int64) (x25 : Int32) (x26 : Int32) (z16 : Nat) (n32 : Nat) (r37 : Int32) (k129 : Nat) (rplaceG_149 : Nat) (rkindG_150 : Int32) (rbeginG_151 : Nat) (rwordG_152 : Int32) (rnumberG_153 : Int32) (rlettersG_154 : Int64) (blineCountG_161 : Nat) (blinesG_162 : Nat → Int32) (rplaceG_163 : Nat) (rkindG_164 : Int32) (rbeginG_165 : Nat) (rwordG_166 : Int32) (rnumberG_167 : Int32) (rlettersG_168 : Int64) (rfaultKindG_169 : Int32) (rfaultPlaceG_170 : Int32) (rplaceG_187 : Nat) (rkindG_188 : Int32) (rbeginG_189 : Nat) (rwordG_190 : Int32) (rnumberG_191 : Int32) (rlettersG_192 : Int64) (rfaultKindG_193 : Int32) (rfaultPlaceG_194 : Int32) (iv_bbk_0 : blineCount ≤ 40) (iv_rreader_0 : rlength ≤ 940) (iv_rreader_1 : rplace ≤ rlength) (iv_rreader_2 : rmostBytes ≤ 900) (iv_rreader_3 : rbegin ≤ 940) (hTC : TC bt rtapeF) (iv_a_0 : 2 ≤ wide) (iv_a_1 : wide ≤ 6) (iv_a_2 : 2 ≤ high) (iv_a_3 : high ≤ 6) (iv_a_4 : lumps ≤ 6) (iv_a_5 : boats ≤ 6) (hRT : RT bt rlength rmostBytes gp rkind rbegin rplace rword rnumber rletters) (hNL : NL gnu 6 boats boatNamesF) (j27 : k17 ≤ 40) (j28 : k19 ≤ 940) (j29 : k21 ≤ 940) (j30 : k19 ≤ rlength) (jRT : RT bt rlength rmostBytes z16 x20 k21 k19 x22 x23 w24) (jB : bLoop bt rlength rmostBytes gnu boats 41 gp 0 = bLoop bt rlength rmostBytes gnu boats (41 - k17) z16 k17) (jFk : x25 = rfaultKind) (jFp : x26 = rfaultPlace) (hm34 : 41 - k17 < n32 + 1) (c36 : ¬ x20 = 0) (p38 : r37 = x22) (v42 : r37 = nI 31) (h131 : k129 < boats) (h132 : fstJ boatNamesF w24 k129) (c146 : k17 < 40) (p155 : rplaceG_149 ≤ rlength) (p156 : rbeginG_151 ≤ 940) (p157 : RT bt rlength rmostBytes (tT bt rlength rmostBytes z16) rkindG_150 rbeginG_151 rplaceG_149 rwordG_152 rnumberG_153 rlettersG_154) (p172 : blineCountG_161 ≤ 40) (p173 : rplaceG_163 ≤ rlength) (p174 : rbeginG_165 ≤ 940) (t175 : isO (bRest bt rlength rmostBytes 31 (tT bt rlength rmostBytes z16)) = true) (t176 : RT bt rlength rmostBytes (okV (bRest bt rlength rmostBytes 31 (tT bt rlength rmostBytes z16))) rkindG_164 rbeginG_165 rplaceG_163 rwordG_166 rnumberG_167 rlettersG_168) (t177 : blineCountG_161 = k17 + 1) (t178 : rfaultKindG_169 = x25) (t179 : rfaultPlaceG_170 = x26) (p196 : rplaceG_187 ≤ rlength) (p197 : rbeginG_189 ≤ 940) (t198 : nI (tK bt rlength rmostBytes (okV (bRest bt rlength rmostBytes 31 (tT bt rlength rmostBytes z16)))) = (nI 59)) (t199 : RT bt rlength rmostBytes (tT bt rlength rmostBytes (okV (bRest bt rlength rmostBytes 31 (tT bt rlength rmostBytes z16)))) rkindG_188 rbeginG_189 rplaceG_187 rwordG_190 rnumberG_191 rlettersG_192) (t200 : rfaultKindG_193 = rfaultKindG_169) (t201 : rfaultPlaceG_194 = rfaultPlaceG_170) : rfaultPlaceG_194 = rfaultPlace := by
  subst_vars
  first
    | rfl
    | assumption
set_option maxRecDepth 20000 in
theorem lf_f_bkRead_16 (bt : Nat → Nat) (rlength : Nat) (rmostBytes : Nat) (rplace : Nat) (rkind : Int32) (rbegin : Nat) (rword : Int32) (rnumber : Int32) (rletters : Int64) (rtapeF : Nat → Int32) (boats : Nat) (boatNamesF : Nat → Int64) (gp : Nat) (gnu : Nat → Nat) (k17 : Nat) (k19 : Nat) (x20 : Int32) (k21 : Nat) (x22 : Int32) (x23 : Int32) (w24 : Int64) (z16 : Nat) (n32 : Nat) (r37 : Int32) (k129 : Nat) (rplaceG_149 : Nat) (rkindG_150 : Int32) (rbeginG_151 : Nat) (rwordG_152 : Int32) (rnumberG_153 : Int32) (rlettersG_154 : Int64) (blineCountG_161 : Nat) (rplaceG_163 : Nat) (rkindG_164 : Int32) (rbeginG_165 : Nat) (rwordG_166 : Int32) (rnumberG_167 : Int32) (rlettersG_168 : Int64) (rplaceG_187 : Nat) (rkindG_188 : Int32) (rbeginG_189 : Nat) (rwordG_190 : Int32) (rnumberG_191 : Int32) (rlettersG_192 : Int64) (iv_rreader_0 : rlength ≤ 940) (iv_rreader_1 : rplace ≤ rlength) (iv_rreader_2 : rmostBytes ≤ 900) (iv_rreader_3 : rbegin ≤ 940) (hTC : TC bt rtapeF) (iv_a_5 : boats ≤ 6) (hRT : RT bt rlength rmostBytes gp rkind rbegin rplace rword rnumber rletters) (hNL : NL gnu 6 boats boatNamesF) (j27 : k17 ≤ 40) (j28 : k19 ≤ 940) (j29 : k21 ≤ 940) (j30 : k19 ≤ rlength) (jRT : RT bt rlength rmostBytes z16 x20 k21 k19 x22 x23 w24) (jB : bLoop bt rlength rmostBytes gnu boats 41 gp 0 = bLoop bt rlength rmostBytes gnu boats (41 - k17) z16 k17) (hm34 : 41 - k17 < n32 + 1) (c36 : ¬ x20 = 0) (p38 : r37 = x22) (v42 : r37 = nI 31) (h131 : k129 < boats) (h132 : fstJ boatNamesF w24 k129) (c146 : k17 < 40) (p155 : rplaceG_149 ≤ rlength) (p156 : rbeginG_151 ≤ 940) (p157 : RT bt rlength rmostBytes (tT bt rlength rmostBytes z16) rkindG_150 rbeginG_151 rplaceG_149 rwordG_152 rnumberG_153 rlettersG_154) (p172 : blineCountG_161 ≤ 40) (p173 : rplaceG_163 ≤ rlength) (p174 : rbeginG_165 ≤ 940) (t175 : isO (bRest bt rlength rmostBytes 31 (tT bt rlength rmostBytes z16)) = true) (t176 : RT bt rlength rmostBytes (okV (bRest bt rlength rmostBytes 31 (tT bt rlength rmostBytes z16))) rkindG_164 rbeginG_165 rplaceG_163 rwordG_166 rnumberG_167 rlettersG_168) (t177 : blineCountG_161 = k17 + 1) (p196 : rplaceG_187 ≤ rlength) (p197 : rbeginG_189 ≤ 940) (t198 : nI (tK bt rlength rmostBytes (okV (bRest bt rlength rmostBytes 31 (tT bt rlength rmostBytes z16)))) = (nI 59)) (t199 : RT bt rlength rmostBytes (tT bt rlength rmostBytes (okV (bRest bt rlength rmostBytes 31 (tT bt rlength rmostBytes z16)))) rkindG_188 rbeginG_189 rplaceG_187 rwordG_190 rnumberG_191 rlettersG_192) : 41 - blineCountG_161 < n32 := by
  have b_rkind := ia_b rkind
  have b_rword := ia_b rword
  have b_rnumber := ia_b rnumber
  have b_x20 := ia_b x20
  have b_x22 := ia_b x22
  have b_x23 := ia_b x23
  have b_r37 := ia_b r37
  have b_rkindG_150 := ia_b rkindG_150
  have b_rwordG_152 := ia_b rwordG_152
  have b_rnumberG_153 := ia_b rnumberG_153
  have b_rkindG_164 := ia_b rkindG_164
  have b_rwordG_166 := ia_b rwordG_166
  have b_rnumberG_167 := ia_b rnumberG_167
  have b_rkindG_188 := ia_b rkindG_188
  have b_rwordG_190 := ia_b rwordG_190
  have b_rnumberG_191 := ia_b rnumberG_191
  have b_rletters := Int64.toInt_lt rletters
  have b_w24 := Int64.toInt_lt w24
  have b_rlettersG_154 := Int64.toInt_lt rlettersG_154
  have b_rlettersG_168 := Int64.toInt_lt rlettersG_168
  have b_rlettersG_192 := Int64.toInt_lt rlettersG_192
  try have k_0 := ia_n 31 (by first | decide | omega)
  try have k_1 := ia_n (tK bt rlength rmostBytes (okV (bRest bt rlength rmostBytes 31 (tT bt rlength rmostBytes z16)))) (by first | decide | omega)
  try have k_2 := ia_n 59 (by first | decide | omega)
  try simp only [ia_lt, ia_le, ia_eq, ia_m1, ia_0, ia_1, ne_eq, true_and, and_true, false_and, and_false, or_false, false_or, or_true, true_or, not_true_eq_false, not_false_eq_true] at *
  all_goals omega
set_option maxRecDepth 20000 in
theorem lf_f_bkRead_17 (bt : Nat → Nat) (rlength : Nat) (rmostBytes : Nat) (rplace : Nat) (rkind : Int32) (rbegin : Nat) (rword : Int32) (rnumber : Int32) (rletters : Int64) (rfaultKind : Int32) (rfaultPlace : Int32) (rtapeF : Nat → Int32) (boats : Nat) (boatNamesF : Nat → Int64) (gp : Nat) (gnu : Nat → Nat) (k17 : Nat) (k19 : Nat) (x20 : Int32) (k21 : Nat) (x22 : Int32) (x23 : Int32) (w24 : Int64) (x25 : Int32) (x26 : Int32) (z16 : Nat) (n32 : Nat) (r37 : Int32) (k129 : Nat) (rplaceG_149 : Nat) (rkindG_150 : Int32) (rbeginG_151 : Nat) (rwordG_152 : Int32) (rnumberG_153 : Int32) (rlettersG_154 : Int64) (blineCountG_161 : Nat) (rplaceG_163 : Nat) (rkindG_164 : Int32) (rbeginG_165 : Nat) (rwordG_166 : Int32) (rnumberG_167 : Int32) (rlettersG_168 : Int64) (rfaultKindG_169 : Int32) (rfaultPlaceG_170 : Int32) (rplaceG_187 : Nat) (rfaultKindG_193 : Int32) (rfaultPlaceG_194 : Int32) (iv_rreader_0 : rlength ≤ 940) (iv_rreader_1 : rplace ≤ rlength) (iv_rreader_2 : rmostBytes ≤ 900) (iv_rreader_3 : rbegin ≤ 940) (hTC : TC bt rtapeF) (iv_a_5 : boats ≤ 6) (hRT : RT bt rlength rmostBytes gp rkind rbegin rplace rword rnumber rletters) (hNL : NL gnu 6 boats boatNamesF) (j27 : k17 ≤ 40) (j28 : k19 ≤ 940) (j29 : k21 ≤ 940) (j30 : k19 ≤ rlength) (jRT : RT bt rlength rmostBytes z16 x20 k21 k19 x22 x23 w24) (jB : bLoop bt rlength rmostBytes gnu boats 41 gp 0 = bLoop bt rlength rmostBytes gnu boats (41 - k17) z16 k17) (jFk : x25 = rfaultKind) (jFp : x26 = rfaultPlace) (hm34 : 41 - k17 < n32 + 1) (c36 : ¬ x20 = 0) (p38 : r37 = x22) (v42 : r37 = nI 31) (h131 : k129 < boats) (h132 : fstJ boatNamesF w24 k129) (c146 : k17 < 40) (p155 : rplaceG_149 ≤ rlength) (p156 : rbeginG_151 ≤ 940) (p157 : RT bt rlength rmostBytes (tT bt rlength rmostBytes z16) rkindG_150 rbeginG_151 rplaceG_149 rwordG_152 rnumberG_153 rlettersG_154) (p172 : blineCountG_161 ≤ 40) (p173 : rplaceG_163 ≤ rlength) (p174 : rbeginG_165 ≤ 940) (t175 : isO (bRest bt rlength rmostBytes 31 (tT bt rlength rmostBytes z16)) = true) (t176 : RT bt rlength rmostBytes (okV (bRest bt rlength rmostBytes 31 (tT bt rlength rmostBytes z16))) rkindG_164 rbeginG_165 rplaceG_163 rwordG_166 rnumberG_167 rlettersG_168) (t177 : blineCountG_161 = k17 + 1) (t178 : rfaultKindG_169 = x25) (t179 : rfaultPlaceG_170 = x26) (p196 : rplaceG_187 ≤ rlength) (t202 : ¬ nI (tK bt rlength rmostBytes (okV (bRest bt rlength rmostBytes 31 (tT bt rlength rmostBytes z16)))) = (nI 59)) (t203 : rfaultKindG_193 = nI 1) (t204 : rfaultPlaceG_194 = nI (tF bt rlength rmostBytes (okV (bRest bt rlength rmostBytes 31 (tT bt rlength rmostBytes z16))))) : ((nI 0) = nI 1 ∧ (isO (bLoop bt rlength rmostBytes gnu boats 41 gp 0) = true ∧ rfaultKindG_193 = rfaultKind ∧ rfaultPlaceG_194 = rfaultPlace)) ∨ ((nI 0) = nI 0 ∧ (isO (bLoop bt rlength rmostBytes gnu boats 41 gp 0) = false ∧ rfaultKindG_193 = nI (erA (bLoop bt rlength rmostBytes gnu boats 41 gp 0)) ∧ rfaultPlaceG_194 = nI (erB (bLoop bt rlength rmostBytes gnu boats 41 gp 0)))) := by
  have k0 : ¬ tK bt rlength rmostBytes z16 = 0 := fun z => absurd ((RT_k jRT (c := 0) (by decide)).mpr z) (by
    have kk0 := ia_n 0 (by decide)
    have b_rkind := ia_b rkind
    have b_rword := ia_b rword
    have b_rnumber := ia_b rnumber
    have b_rfaultKind := ia_b rfaultKind
    have b_rfaultPlace := ia_b rfaultPlace
    have b_x20 := ia_b x20
    have b_x22 := ia_b x22
    have b_x23 := ia_b x23
    have b_x25 := ia_b x25
    have b_x26 := ia_b x26
    have b_r37 := ia_b r37
    have b_rkindG_150 := ia_b rkindG_150
    have b_rwordG_152 := ia_b rwordG_152
    have b_rnumberG_153 := ia_b rnumberG_153
    have b_rkindG_164 := ia_b rkindG_164
    have b_rwordG_166 := ia_b rwordG_166
    have b_rnumberG_167 := ia_b rnumberG_167
    have b_rfaultKindG_169 := ia_b rfaultKindG_169
    have b_rfaultPlaceG_170 := ia_b rfaultPlaceG_170
    have b_rfaultKindG_193 := ia_b rfaultKindG_193
    have b_rfaultPlaceG_194 := ia_b rfaultPlaceG_194
    have b_rletters := Int64.toInt_lt rletters
    have b_w24 := Int64.toInt_lt w24
    have b_rlettersG_154 := Int64.toInt_lt rlettersG_154
    have b_rlettersG_168 := Int64.toInt_lt rlettersG_168
    try have k_0 := ia_n 31 (by first | decide | omega)
    try have k_1 := ia_n (tK bt rlength rmostBytes (okV (bRest bt rlength rmostBytes 31 (tT bt rlength rmostBytes z16)))) (by first | decide | omega)
    try have k_2 := ia_n 59 (by first | decide | omega)
    try have k_3 := ia_n 1 (by first | decide | omega)
    try have k_4 := ia_n (tF bt rlength rmostBytes (okV (bRest bt rlength rmostBytes 31 (tT bt rlength rmostBytes z16)))) (by first | decide | omega)
    try have k_5 := ia_n 0 (by first | decide | omega)
    try have k_6 := ia_n (erA (bLoop bt rlength rmostBytes gnu boats 41 gp 0)) (by first | decide | omega)
    try have k_7 := ia_n (erB (bLoop bt rlength rmostBytes gnu boats 41 gp 0)) (by first | decide | omega)
    try simp only [ia_lt, ia_le, ia_eq, ia_m1, ia_0, ia_1, ne_eq, true_and, and_true, false_and, and_false, or_false, false_or, or_true, true_or, not_true_eq_false, not_false_eq_true] at *
    all_goals omega)
  have w9 : tW bt rlength rmostBytes z16 = 31 := (RT_w jRT (by decide)).mp (by
    have kk31 := ia_n 31 (by decide)
    have b_rkind := ia_b rkind
    have b_rword := ia_b rword
    have b_rnumber := ia_b rnumber
    have b_rfaultKind := ia_b rfaultKind
    have b_rfaultPlace := ia_b rfaultPlace
    have b_x20 := ia_b x20
    have b_x22 := ia_b x22
    have b_x23 := ia_b x23
    have b_x25 := ia_b x25
    have b_x26 := ia_b x26
    have b_r37 := ia_b r37
    have b_rkindG_150 := ia_b rkindG_150
    have b_rwordG_152 := ia_b rwordG_152
    have b_rnumberG_153 := ia_b rnumberG_153
    have b_rkindG_164 := ia_b rkindG_164
    have b_rwordG_166 := ia_b rwordG_166
    have b_rnumberG_167 := ia_b rnumberG_167
    have b_rfaultKindG_169 := ia_b rfaultKindG_169
    have b_rfaultPlaceG_170 := ia_b rfaultPlaceG_170
    have b_rfaultKindG_193 := ia_b rfaultKindG_193
    have b_rfaultPlaceG_194 := ia_b rfaultPlaceG_194
    have b_rletters := Int64.toInt_lt rletters
    have b_w24 := Int64.toInt_lt w24
    have b_rlettersG_154 := Int64.toInt_lt rlettersG_154
    have b_rlettersG_168 := Int64.toInt_lt rlettersG_168
    try have k_0 := ia_n 31 (by first | decide | omega)
    try have k_1 := ia_n (tK bt rlength rmostBytes (okV (bRest bt rlength rmostBytes 31 (tT bt rlength rmostBytes z16)))) (by first | decide | omega)
    try have k_2 := ia_n 59 (by first | decide | omega)
    try have k_3 := ia_n 1 (by first | decide | omega)
    try have k_4 := ia_n (tF bt rlength rmostBytes (okV (bRest bt rlength rmostBytes 31 (tT bt rlength rmostBytes z16)))) (by first | decide | omega)
    try have k_5 := ia_n 0 (by first | decide | omega)
    try have k_6 := ia_n (erA (bLoop bt rlength rmostBytes gnu boats 41 gp 0)) (by first | decide | omega)
    try have k_7 := ia_n (erB (bLoop bt rlength rmostBytes gnu boats 41 gp 0)) (by first | decide | omega)
    try simp only [ia_lt, ia_le, ia_eq, ia_m1, ia_0, ia_1, ne_eq, true_and, and_true, false_and, and_false, or_false, false_or, or_true, true_or, not_true_eq_false, not_false_eq_true] at *
    all_goals omega)
  have hs : bSort (tW bt rlength rmostBytes z16) := by rw [w9]; decide
  have hk2 := tW_2 w9 (by decide)
  have hle := jRT.2.2.2.2.2 hk2
  have q1 := hasJ_fst ‹_ < boats› ‹fstJ boatNamesF _ _›
  rw [hle] at q1
  have hn : tW bt rlength rmostBytes z16 = 31 → isFd gnu 6 boats (tC bt rlength z16) := fun _ => (NL_has hNL (tC_GN hk2)).mp q1
  have hl := bL_o (ν := gnu) (L := boats) (k := k17) hs hn (by omega)
  rw [w9] at hl
  have hb := bE_s (B := bt) (n := rlength) (m := rmostBytes) (y := bRest bt rlength rmostBytes 31 (tT bt rlength rmostBytes z16)) (by assumption) (tk_d (by assumption))
  have q := bP_err (ν := gnu) (L := boats) k0 (k := k17) (by omega) (by rw [hl, hb]; rfl)
  rw [hl, hb] at q
  rw [jB, q]
  exact Or.inr ⟨rfl, rfl, ‹_›, ‹_›⟩
set_option maxRecDepth 20000 in
theorem lf_f_bkRead_18 (bt : Nat → Nat) (rlength : Nat) (rmostBytes : Nat) (rplace : Nat) (rkind : Int32) (rbegin : Nat) (rword : Int32) (rnumber : Int32) (rletters : Int64) (rfaultKind : Int32) (rfaultPlace : Int32) (rtapeF : Nat → Int32) (boats : Nat) (boatNamesF : Nat → Int64) (gp : Nat) (gnu : Nat → Nat) (k17 : Nat) (k19 : Nat) (x20 : Int32) (k21 : Nat) (x22 : Int32) (x23 : Int32) (w24 : Int64) (x25 : Int32) (x26 : Int32) (z16 : Nat) (n32 : Nat) (r37 : Int32) (k129 : Nat) (rplaceG_149 : Nat) (rkindG_150 : Int32) (rbeginG_151 : Nat) (rwordG_152 : Int32) (rnumberG_153 : Int32) (rlettersG_154 : Int64) (rplaceG_163 : Nat) (rfaultKindG_169 : Int32) (rfaultPlaceG_170 : Int32) (iv_rreader_0 : rlength ≤ 940) (iv_rreader_1 : rplace ≤ rlength) (iv_rreader_2 : rmostBytes ≤ 900) (iv_rreader_3 : rbegin ≤ 940) (hTC : TC bt rtapeF) (iv_a_5 : boats ≤ 6) (hRT : RT bt rlength rmostBytes gp rkind rbegin rplace rword rnumber rletters) (hNL : NL gnu 6 boats boatNamesF) (j27 : k17 ≤ 40) (j28 : k19 ≤ 940) (j29 : k21 ≤ 940) (j30 : k19 ≤ rlength) (jRT : RT bt rlength rmostBytes z16 x20 k21 k19 x22 x23 w24) (jB : bLoop bt rlength rmostBytes gnu boats 41 gp 0 = bLoop bt rlength rmostBytes gnu boats (41 - k17) z16 k17) (jFk : x25 = rfaultKind) (jFp : x26 = rfaultPlace) (hm34 : 41 - k17 < n32 + 1) (c36 : ¬ x20 = 0) (p38 : r37 = x22) (v42 : r37 = nI 31) (h131 : k129 < boats) (h132 : fstJ boatNamesF w24 k129) (c146 : k17 < 40) (p155 : rplaceG_149 ≤ rlength) (p156 : rbeginG_151 ≤ 940) (p157 : RT bt rlength rmostBytes (tT bt rlength rmostBytes z16) rkindG_150 rbeginG_151 rplaceG_149 rwordG_152 rnumberG_153 rlettersG_154) (p173 : rplaceG_163 ≤ rlength) (t180 : isO (bRest bt rlength rmostBytes 31 (tT bt rlength rmostBytes z16)) = false) (t181 : rfaultKindG_169 = nI (erA (bRest bt rlength rmostBytes 31 (tT bt rlength rmostBytes z16)))) (t182 : rfaultPlaceG_170 = nI (erB (bRest bt rlength rmostBytes 31 (tT bt rlength rmostBytes z16)))) : ((nI 0) = nI 1 ∧ (isO (bLoop bt rlength rmostBytes gnu boats 41 gp 0) = true ∧ rfaultKindG_169 = rfaultKind ∧ rfaultPlaceG_170 = rfaultPlace)) ∨ ((nI 0) = nI 0 ∧ (isO (bLoop bt rlength rmostBytes gnu boats 41 gp 0) = false ∧ rfaultKindG_169 = nI (erA (bLoop bt rlength rmostBytes gnu boats 41 gp 0)) ∧ rfaultPlaceG_170 = nI (erB (bLoop bt rlength rmostBytes gnu boats 41 gp 0)))) := by
  have k0 : ¬ tK bt rlength rmostBytes z16 = 0 := fun z => absurd ((RT_k jRT (c := 0) (by decide)).mpr z) (by
    have kk0 := ia_n 0 (by decide)
    have b_rkind := ia_b rkind
    have b_rword := ia_b rword
    have b_rnumber := ia_b rnumber
    have b_rfaultKind := ia_b rfaultKind
    have b_rfaultPlace := ia_b rfaultPlace
    have b_x20 := ia_b x20
    have b_x22 := ia_b x22
    have b_x23 := ia_b x23
    have b_x25 := ia_b x25
    have b_x26 := ia_b x26
    have b_r37 := ia_b r37
    have b_rkindG_150 := ia_b rkindG_150
    have b_rwordG_152 := ia_b rwordG_152
    have b_rnumberG_153 := ia_b rnumberG_153
    have b_rfaultKindG_169 := ia_b rfaultKindG_169
    have b_rfaultPlaceG_170 := ia_b rfaultPlaceG_170
    have b_rletters := Int64.toInt_lt rletters
    have b_w24 := Int64.toInt_lt w24
    have b_rlettersG_154 := Int64.toInt_lt rlettersG_154
    try have k_0 := ia_n 31 (by first | decide | omega)
    try have k_1 := ia_n (erA (bRest bt rlength rmostBytes 31 (tT bt rlength rmostBytes z16))) (by first | decide | omega)
    try have k_2 := ia_n (erB (bRest bt rlength rmostBytes 31 (tT bt rlength rmostBytes z16))) (by first | decide | omega)
    try have k_3 := ia_n 0 (by first | decide | omega)
    try have k_4 := ia_n 1 (by first | decide | omega)
    try have k_5 := ia_n (erA (bLoop bt rlength rmostBytes gnu boats 41 gp 0)) (by first | decide | omega)
    try have k_6 := ia_n (erB (bLoop bt rlength rmostBytes gnu boats 41 gp 0)) (by first | decide | omega)
    try simp only [ia_lt, ia_le, ia_eq, ia_m1, ia_0, ia_1, ne_eq, true_and, and_true, false_and, and_false, or_false, false_or, or_true, true_or, not_true_eq_false, not_false_eq_true] at *
    all_goals omega)
  have w9 : tW bt rlength rmostBytes z16 = 31 := (RT_w jRT (by decide)).mp (by
    have kk31 := ia_n 31 (by decide)
    have b_rkind := ia_b rkind
    have b_rword := ia_b rword
    have b_rnumber := ia_b rnumber
    have b_rfaultKind := ia_b rfaultKind
    have b_rfaultPlace := ia_b rfaultPlace
    have b_x20 := ia_b x20
    have b_x22 := ia_b x22
    have b_x23 := ia_b x23
    have b_x25 := ia_b x25
    have b_x26 := ia_b x26
    have b_r37 := ia_b r37
    have b_rkindG_150 := ia_b rkindG_150
    have b_rwordG_152 := ia_b rwordG_152
    have b_rnumberG_153 := ia_b rnumberG_153
    have b_rfaultKindG_169 := ia_b rfaultKindG_169
    have b_rfaultPlaceG_170 := ia_b rfaultPlaceG_170
    have b_rletters := Int64.toInt_lt rletters
    have b_w24 := Int64.toInt_lt w24
    have b_rlettersG_154 := Int64.toInt_lt rlettersG_154
    try have k_0 := ia_n 31 (by first | decide | omega)
    try have k_1 := ia_n (erA (bRest bt rlength rmostBytes 31 (tT bt rlength rmostBytes z16))) (by first | decide | omega)
    try have k_2 := ia_n (erB (bRest bt rlength rmostBytes 31 (tT bt rlength rmostBytes z16))) (by first | decide | omega)
    try have k_3 := ia_n 0 (by first | decide | omega)
    try have k_4 := ia_n 1 (by first | decide | omega)
    try have k_5 := ia_n (erA (bLoop bt rlength rmostBytes gnu boats 41 gp 0)) (by first | decide | omega)
    try have k_6 := ia_n (erB (bLoop bt rlength rmostBytes gnu boats 41 gp 0)) (by first | decide | omega)
    try simp only [ia_lt, ia_le, ia_eq, ia_m1, ia_0, ia_1, ne_eq, true_and, and_true, false_and, and_false, or_false, false_or, or_true, true_or, not_true_eq_false, not_false_eq_true] at *
    all_goals omega)
  have hs : bSort (tW bt rlength rmostBytes z16) := by rw [w9]; decide
  have hk2 := tW_2 w9 (by decide)
  have hle := jRT.2.2.2.2.2 hk2
  have q1 := hasJ_fst ‹_ < boats› ‹fstJ boatNamesF _ _›
  rw [hle] at q1
  have hn : tW bt rlength rmostBytes z16 = 31 → isFd gnu 6 boats (tC bt rlength z16) := fun _ => (NL_has hNL (tC_GN hk2)).mp q1
  have hl := bL_o (ν := gnu) (L := boats) (k := k17) hs hn (by omega)
  rw [w9] at hl
  have hb := bE_e (B := bt) (n := rlength) (m := rmostBytes) (y := bRest bt rlength rmostBytes 31 (tT bt rlength rmostBytes z16)) (by assumption)
  have q := bP_err (ν := gnu) (L := boats) k0 (k := k17) (by omega) (by rw [hl, hb]; rfl)
  rw [hl, hb] at q
  rw [jB, q]
  exact Or.inr ⟨rfl, rfl, ‹_›, ‹_›⟩
set_option maxRecDepth 20000 in
theorem lf_f_bkRead_19 (bt : Nat → Nat) (rlength : Nat) (rmostBytes : Nat) (rplace : Nat) (rkind : Int32) (rbegin : Nat) (rword : Int32) (rnumber : Int32) (rletters : Int64) (rfaultKind : Int32) (rfaultPlace : Int32) (rtapeF : Nat → Int32) (boats : Nat) (boatNamesF : Nat → Int64) (gp : Nat) (gnu : Nat → Nat) (k17 : Nat) (k19 : Nat) (x20 : Int32) (k21 : Nat) (x22 : Int32) (x23 : Int32) (w24 : Int64) (x25 : Int32) (x26 : Int32) (z16 : Nat) (n32 : Nat) (r37 : Int32) (k129 : Nat) (rfaultKindG_211 : Int32) (rfaultPlaceG_212 : Int32) (iv_rreader_0 : rlength ≤ 940) (iv_rreader_1 : rplace ≤ rlength) (iv_rreader_2 : rmostBytes ≤ 900) (iv_rreader_3 : rbegin ≤ 940) (hTC : TC bt rtapeF) (iv_a_5 : boats ≤ 6) (hRT : RT bt rlength rmostBytes gp rkind rbegin rplace rword rnumber rletters) (hNL : NL gnu 6 boats boatNamesF) (j27 : k17 ≤ 40) (j28 : k19 ≤ 940) (j29 : k21 ≤ 940) (j30 : k19 ≤ rlength) (jRT : RT bt rlength rmostBytes z16 x20 k21 k19 x22 x23 w24) (jB : bLoop bt rlength rmostBytes gnu boats 41 gp 0 = bLoop bt rlength rmostBytes gnu boats (41 - k17) z16 k17) (jFk : x25 = rfaultKind) (jFp : x26 = rfaultPlace) (hm34 : 41 - k17 < n32 + 1) (c36 : ¬ x20 = 0) (p38 : r37 = x22) (v42 : r37 = nI 31) (h131 : k129 < boats) (h132 : fstJ boatNamesF w24 k129) (c146 : 40 ≤ k17) (p214 : rfaultKindG_211 = (nI 4)) (p215 : rfaultPlaceG_212 = nI k21) : ((nI 0) = nI 1 ∧ (isO (bLoop bt rlength rmostBytes gnu boats 41 gp 0) = true ∧ rfaultKindG_211 = rfaultKind ∧ rfaultPlaceG_212 = rfaultPlace)) ∨ ((nI 0) = nI 0 ∧ (isO (bLoop bt rlength rmostBytes gnu boats 41 gp 0) = false ∧ rfaultKindG_211 = nI (erA (bLoop bt rlength rmostBytes gnu boats 41 gp 0)) ∧ rfaultPlaceG_212 = nI (erB (bLoop bt rlength rmostBytes gnu boats 41 gp 0)))) := by
  have k0 : ¬ tK bt rlength rmostBytes z16 = 0 := fun z => absurd ((RT_k jRT (c := 0) (by decide)).mpr z) (by
    have kk0 := ia_n 0 (by decide)
    have b_rkind := ia_b rkind
    have b_rword := ia_b rword
    have b_rnumber := ia_b rnumber
    have b_rfaultKind := ia_b rfaultKind
    have b_rfaultPlace := ia_b rfaultPlace
    have b_x20 := ia_b x20
    have b_x22 := ia_b x22
    have b_x23 := ia_b x23
    have b_x25 := ia_b x25
    have b_x26 := ia_b x26
    have b_r37 := ia_b r37
    have b_rfaultKindG_211 := ia_b rfaultKindG_211
    have b_rfaultPlaceG_212 := ia_b rfaultPlaceG_212
    have b_rletters := Int64.toInt_lt rletters
    have b_w24 := Int64.toInt_lt w24
    try have k_0 := ia_n 31 (by first | decide | omega)
    try have k_1 := ia_n 4 (by first | decide | omega)
    try have k_2 := ia_n k21 (by first | decide | omega)
    try have k_3 := ia_n 0 (by first | decide | omega)
    try have k_4 := ia_n 1 (by first | decide | omega)
    try have k_5 := ia_n (erA (bLoop bt rlength rmostBytes gnu boats 41 gp 0)) (by first | decide | omega)
    try have k_6 := ia_n (erB (bLoop bt rlength rmostBytes gnu boats 41 gp 0)) (by first | decide | omega)
    try simp only [ia_lt, ia_le, ia_eq, ia_m1, ia_0, ia_1, ne_eq, true_and, and_true, false_and, and_false, or_false, false_or, or_true, true_or, not_true_eq_false, not_false_eq_true] at *
    all_goals omega)
  have w9 : tW bt rlength rmostBytes z16 = 31 := (RT_w jRT (by decide)).mp (by
    have kk31 := ia_n 31 (by decide)
    have b_rkind := ia_b rkind
    have b_rword := ia_b rword
    have b_rnumber := ia_b rnumber
    have b_rfaultKind := ia_b rfaultKind
    have b_rfaultPlace := ia_b rfaultPlace
    have b_x20 := ia_b x20
    have b_x22 := ia_b x22
    have b_x23 := ia_b x23
    have b_x25 := ia_b x25
    have b_x26 := ia_b x26
    have b_r37 := ia_b r37
    have b_rfaultKindG_211 := ia_b rfaultKindG_211
    have b_rfaultPlaceG_212 := ia_b rfaultPlaceG_212
    have b_rletters := Int64.toInt_lt rletters
    have b_w24 := Int64.toInt_lt w24
    try have k_0 := ia_n 31 (by first | decide | omega)
    try have k_1 := ia_n 4 (by first | decide | omega)
    try have k_2 := ia_n k21 (by first | decide | omega)
    try have k_3 := ia_n 0 (by first | decide | omega)
    try have k_4 := ia_n 1 (by first | decide | omega)
    try have k_5 := ia_n (erA (bLoop bt rlength rmostBytes gnu boats 41 gp 0)) (by first | decide | omega)
    try have k_6 := ia_n (erB (bLoop bt rlength rmostBytes gnu boats 41 gp 0)) (by first | decide | omega)
    try simp only [ia_lt, ia_le, ia_eq, ia_m1, ia_0, ia_1, ne_eq, true_and, and_true, false_and, and_false, or_false, false_or, or_true, true_or, not_true_eq_false, not_false_eq_true] at *
    all_goals omega)
  have hs : bSort (tW bt rlength rmostBytes z16) := by rw [w9]; decide
  have hk2 := tW_2 w9 (by decide)
  have hle := jRT.2.2.2.2.2 hk2
  have q1 := hasJ_fst ‹_ < boats› ‹fstJ boatNamesF _ _›
  rw [hle] at q1
  have hn : tW bt rlength rmostBytes z16 = 31 → isFd gnu 6 boats (tC bt rlength z16) := fun _ => (NL_has hNL (tC_GN hk2)).mp q1
  have hl := bL_4 (ν := gnu) (L := boats) (k := k17) hs hn (by omega)
  have q := bP_err (ν := gnu) (L := boats) k0 (k := k17) (by omega) (by rw [hl]; rfl)
  rw [hl] at q
  rw [jB, q]
  exact Or.inr ⟨rfl, rfl, ‹_›, (Eq.trans (by assumption) (congrArg nI jRT.2.1))⟩
set_option maxRecDepth 20000 in
theorem lf_f_bkRead_20 (bt : Nat → Nat) (rlength : Nat) (rmostBytes : Nat) (rplace : Nat) (rkind : Int32) (rbegin : Nat) (rword : Int32) (rnumber : Int32) (rletters : Int64) (rtapeF : Nat → Int32) (boats : Nat) (boatNamesF : Nat → Int64) (gp : Nat) (gnu : Nat → Nat) (k17 : Nat) (k19 : Nat) (x20 : Int32) (k21 : Nat) (x22 : Int32) (x23 : Int32) (w24 : Int64) (z16 : Nat) (n32 : Nat) (r37 : Int32) (rplaceG_222 : Nat) (rkindG_223 : Int32) (rbeginG_224 : Nat) (rwordG_225 : Int32) (rnumberG_226 : Int32) (rlettersG_227 : Int64) (blineCountG_234 : Nat) (rplaceG_236 : Nat) (rkindG_237 : Int32) (rbeginG_238 : Nat) (rwordG_239 : Int32) (rnumberG_240 : Int32) (rlettersG_241 : Int64) (rplaceG_260 : Nat) (rkindG_261 : Int32) (rbeginG_262 : Nat) (rwordG_263 : Int32) (rnumberG_264 : Int32) (rlettersG_265 : Int64) (iv_rreader_0 : rlength ≤ 940) (iv_rreader_1 : rplace ≤ rlength) (iv_rreader_2 : rmostBytes ≤ 900) (iv_rreader_3 : rbegin ≤ 940) (hTC : TC bt rtapeF) (iv_a_5 : boats ≤ 6) (hRT : RT bt rlength rmostBytes gp rkind rbegin rplace rword rnumber rletters) (hNL : NL gnu 6 boats boatNamesF) (j27 : k17 ≤ 40) (j28 : k19 ≤ 940) (j29 : k21 ≤ 940) (j30 : k19 ≤ rlength) (jRT : RT bt rlength rmostBytes z16 x20 k21 k19 x22 x23 w24) (jB : bLoop bt rlength rmostBytes gnu boats 41 gp 0 = bLoop bt rlength rmostBytes gnu boats (41 - k17) z16 k17) (hm34 : 41 - k17 < n32 + 1) (c36 : ¬ x20 = 0) (p38 : r37 = x22) (v43 : r37 = nI 16) (c219 : k17 < 40) (p228 : rplaceG_222 ≤ rlength) (p229 : rbeginG_224 ≤ 940) (p230 : RT bt rlength rmostBytes (tT bt rlength rmostBytes z16) rkindG_223 rbeginG_224 rplaceG_222 rwordG_225 rnumberG_226 rlettersG_227) (p245 : blineCountG_234 ≤ 40) (p246 : rplaceG_236 ≤ rlength) (p247 : rbeginG_238 ≤ 940) (t248 : isO (bRest bt rlength rmostBytes 16 (tT bt rlength rmostBytes z16)) = true) (t249 : RT bt rlength rmostBytes (okV (bRest bt rlength rmostBytes 16 (tT bt rlength rmostBytes z16))) rkindG_237 rbeginG_238 rplaceG_236 rwordG_239 rnumberG_240 rlettersG_241) (t250 : blineCountG_234 = k17 + 1) (p269 : rplaceG_260 ≤ rlength) (p270 : rbeginG_262 ≤ 940) (t271 : nI (tK bt rlength rmostBytes (okV (bRest bt rlength rmostBytes 16 (tT bt rlength rmostBytes z16)))) = (nI 59)) (t272 : RT bt rlength rmostBytes (tT bt rlength rmostBytes (okV (bRest bt rlength rmostBytes 16 (tT bt rlength rmostBytes z16)))) rkindG_261 rbeginG_262 rplaceG_260 rwordG_263 rnumberG_264 rlettersG_265) : rplaceG_260 ≤ 940 := by
  have b_rkind := ia_b rkind
  have b_rword := ia_b rword
  have b_rnumber := ia_b rnumber
  have b_x20 := ia_b x20
  have b_x22 := ia_b x22
  have b_x23 := ia_b x23
  have b_r37 := ia_b r37
  have b_rkindG_223 := ia_b rkindG_223
  have b_rwordG_225 := ia_b rwordG_225
  have b_rnumberG_226 := ia_b rnumberG_226
  have b_rkindG_237 := ia_b rkindG_237
  have b_rwordG_239 := ia_b rwordG_239
  have b_rnumberG_240 := ia_b rnumberG_240
  have b_rkindG_261 := ia_b rkindG_261
  have b_rwordG_263 := ia_b rwordG_263
  have b_rnumberG_264 := ia_b rnumberG_264
  have b_rletters := Int64.toInt_lt rletters
  have b_w24 := Int64.toInt_lt w24
  have b_rlettersG_227 := Int64.toInt_lt rlettersG_227
  have b_rlettersG_241 := Int64.toInt_lt rlettersG_241
  have b_rlettersG_265 := Int64.toInt_lt rlettersG_265
  try have k_0 := ia_n 16 (by first | decide | omega)
  try have k_1 := ia_n (tK bt rlength rmostBytes (okV (bRest bt rlength rmostBytes 16 (tT bt rlength rmostBytes z16)))) (by first | decide | omega)
  try have k_2 := ia_n 59 (by first | decide | omega)
  try simp only [ia_lt, ia_le, ia_eq, ia_m1, ia_0, ia_1, ne_eq, true_and, and_true, false_and, and_false, or_false, false_or, or_true, true_or, not_true_eq_false, not_false_eq_true] at *
  all_goals omega
set_option maxRecDepth 20000 in
theorem lf_f_bkRead_21 (bt : Nat → Nat) (rlength : Nat) (rmostBytes : Nat) (rplace : Nat) (rkind : Int32) (rbegin : Nat) (rword : Int32) (rnumber : Int32) (rletters : Int64) (rtapeF : Nat → Int32) (boats : Nat) (boatNamesF : Nat → Int64) (gp : Nat) (gnu : Nat → Nat) (k17 : Nat) (k19 : Nat) (x20 : Int32) (k21 : Nat) (x22 : Int32) (x23 : Int32) (w24 : Int64) (z16 : Nat) (n32 : Nat) (r37 : Int32) (rplaceG_222 : Nat) (rkindG_223 : Int32) (rbeginG_224 : Nat) (rwordG_225 : Int32) (rnumberG_226 : Int32) (rlettersG_227 : Int64) (blineCountG_234 : Nat) (rplaceG_236 : Nat) (rkindG_237 : Int32) (rbeginG_238 : Nat) (rwordG_239 : Int32) (rnumberG_240 : Int32) (rlettersG_241 : Int64) (rplaceG_260 : Nat) (rkindG_261 : Int32) (rbeginG_262 : Nat) (rwordG_263 : Int32) (rnumberG_264 : Int32) (rlettersG_265 : Int64) (iv_rreader_0 : rlength ≤ 940) (iv_rreader_1 : rplace ≤ rlength) (iv_rreader_2 : rmostBytes ≤ 900) (iv_rreader_3 : rbegin ≤ 940) (hTC : TC bt rtapeF) (iv_a_5 : boats ≤ 6) (hRT : RT bt rlength rmostBytes gp rkind rbegin rplace rword rnumber rletters) (hNL : NL gnu 6 boats boatNamesF) (j27 : k17 ≤ 40) (j28 : k19 ≤ 940) (j29 : k21 ≤ 940) (j30 : k19 ≤ rlength) (jRT : RT bt rlength rmostBytes z16 x20 k21 k19 x22 x23 w24) (jB : bLoop bt rlength rmostBytes gnu boats 41 gp 0 = bLoop bt rlength rmostBytes gnu boats (41 - k17) z16 k17) (hm34 : 41 - k17 < n32 + 1) (c36 : ¬ x20 = 0) (p38 : r37 = x22) (v43 : r37 = nI 16) (c219 : k17 < 40) (p228 : rplaceG_222 ≤ rlength) (p229 : rbeginG_224 ≤ 940) (p230 : RT bt rlength rmostBytes (tT bt rlength rmostBytes z16) rkindG_223 rbeginG_224 rplaceG_222 rwordG_225 rnumberG_226 rlettersG_227) (p245 : blineCountG_234 ≤ 40) (p246 : rplaceG_236 ≤ rlength) (p247 : rbeginG_238 ≤ 940) (t248 : isO (bRest bt rlength rmostBytes 16 (tT bt rlength rmostBytes z16)) = true) (t249 : RT bt rlength rmostBytes (okV (bRest bt rlength rmostBytes 16 (tT bt rlength rmostBytes z16))) rkindG_237 rbeginG_238 rplaceG_236 rwordG_239 rnumberG_240 rlettersG_241) (t250 : blineCountG_234 = k17 + 1) (p269 : rplaceG_260 ≤ rlength) (p270 : rbeginG_262 ≤ 940) (t271 : nI (tK bt rlength rmostBytes (okV (bRest bt rlength rmostBytes 16 (tT bt rlength rmostBytes z16)))) = (nI 59)) (t272 : RT bt rlength rmostBytes (tT bt rlength rmostBytes (okV (bRest bt rlength rmostBytes 16 (tT bt rlength rmostBytes z16)))) rkindG_261 rbeginG_262 rplaceG_260 rwordG_263 rnumberG_264 rlettersG_265) : bLoop bt rlength rmostBytes gnu boats 41 gp 0 = bLoop bt rlength rmostBytes gnu boats (41 - blineCountG_234) (tT bt rlength rmostBytes (okV (bRest bt rlength rmostBytes 16 (tT bt rlength rmostBytes z16)))) blineCountG_234 := by
  have k0 : ¬ tK bt rlength rmostBytes z16 = 0 := fun z => absurd ((RT_k jRT (c := 0) (by decide)).mpr z) (by
    have kk0 := ia_n 0 (by decide)
    have b_rkind := ia_b rkind
    have b_rword := ia_b rword
    have b_rnumber := ia_b rnumber
    have b_x20 := ia_b x20
    have b_x22 := ia_b x22
    have b_x23 := ia_b x23
    have b_r37 := ia_b r37
    have b_rkindG_223 := ia_b rkindG_223
    have b_rwordG_225 := ia_b rwordG_225
    have b_rnumberG_226 := ia_b rnumberG_226
    have b_rkindG_237 := ia_b rkindG_237
    have b_rwordG_239 := ia_b rwordG_239
    have b_rnumberG_240 := ia_b rnumberG_240
    have b_rkindG_261 := ia_b rkindG_261
    have b_rwordG_263 := ia_b rwordG_263
    have b_rnumberG_264 := ia_b rnumberG_264
    have b_rletters := Int64.toInt_lt rletters
    have b_w24 := Int64.toInt_lt w24
    have b_rlettersG_227 := Int64.toInt_lt rlettersG_227
    have b_rlettersG_241 := Int64.toInt_lt rlettersG_241
    have b_rlettersG_265 := Int64.toInt_lt rlettersG_265
    try have k_0 := ia_n 16 (by first | decide | omega)
    try have k_1 := ia_n (tK bt rlength rmostBytes (okV (bRest bt rlength rmostBytes 16 (tT bt rlength rmostBytes z16)))) (by first | decide | omega)
    try have k_2 := ia_n 59 (by first | decide | omega)
    try simp only [ia_lt, ia_le, ia_eq, ia_m1, ia_0, ia_1, ne_eq, true_and, and_true, false_and, and_false, or_false, false_or, or_true, true_or, not_true_eq_false, not_false_eq_true] at *
    all_goals omega)
  have w9 : tW bt rlength rmostBytes z16 = 16 := (RT_w jRT (by decide)).mp (by
    have kk16 := ia_n 16 (by decide)
    have b_rkind := ia_b rkind
    have b_rword := ia_b rword
    have b_rnumber := ia_b rnumber
    have b_x20 := ia_b x20
    have b_x22 := ia_b x22
    have b_x23 := ia_b x23
    have b_r37 := ia_b r37
    have b_rkindG_223 := ia_b rkindG_223
    have b_rwordG_225 := ia_b rwordG_225
    have b_rnumberG_226 := ia_b rnumberG_226
    have b_rkindG_237 := ia_b rkindG_237
    have b_rwordG_239 := ia_b rwordG_239
    have b_rnumberG_240 := ia_b rnumberG_240
    have b_rkindG_261 := ia_b rkindG_261
    have b_rwordG_263 := ia_b rwordG_263
    have b_rnumberG_264 := ia_b rnumberG_264
    have b_rletters := Int64.toInt_lt rletters
    have b_w24 := Int64.toInt_lt w24
    have b_rlettersG_227 := Int64.toInt_lt rlettersG_227
    have b_rlettersG_241 := Int64.toInt_lt rlettersG_241
    have b_rlettersG_265 := Int64.toInt_lt rlettersG_265
    try have k_0 := ia_n 16 (by first | decide | omega)
    try have k_1 := ia_n (tK bt rlength rmostBytes (okV (bRest bt rlength rmostBytes 16 (tT bt rlength rmostBytes z16)))) (by first | decide | omega)
    try have k_2 := ia_n 59 (by first | decide | omega)
    try simp only [ia_lt, ia_le, ia_eq, ia_m1, ia_0, ia_1, ne_eq, true_and, and_true, false_and, and_false, or_false, false_or, or_true, true_or, not_true_eq_false, not_false_eq_true] at *
    all_goals omega)
  have hs : bSort (tW bt rlength rmostBytes z16) := by rw [w9]; decide
  have hn : tW bt rlength rmostBytes z16 = 31 → isFd gnu 6 boats (tC bt rlength z16) := fun z => absurd (w9.symm.trans z) (by decide)
  have hl := bL_o (ν := gnu) (L := boats) (k := k17) hs hn (by omega)
  rw [w9] at hl
  have hb := bE_o (B := bt) (n := rlength) (m := rmostBytes) (y := bRest bt rlength rmostBytes 16 (tT bt rlength rmostBytes z16)) (by assumption) (tk_c (by assumption) (by decide))
  have q := bP_step (ν := gnu) (L := boats) k0 (k := k17) (by omega) (by rw [hl, hb]; rfl)
  rw [hl, hb] at q
  rw [jB, q]
  subst_vars
  rfl
set_option maxRecDepth 20000 in
theorem lf_f_bkRead_22 (adK : Nat → Nat) (adV : Nat → Nat) (bk : Nat) (blines : Nat) (blineCount : Nat) (blived : Int32) (bwhyWrong : Int32) (bfineLines : Int32) (bdayThen : Int32) (beatenThen : Int32) (blinesF : Nat → Int32) (bt : Nat → Nat) (reader : Nat) (rtape : Nat) (rlength : Nat) (rmostBytes : Nat) (rplace : Nat) (rkind : Int32) (rbegin : Nat) (rword : Int32) (rnumber : Int32) (rletters : Int64) (rfaultKind : Int32) (rfaultPlace : Int32) (rtapeF : Nat → Int32) (a : Nat) (wide : Nat) (high : Nat) (heat : Int32) (cools : Int32) (skinHeat : Int32) (today : Int32) (stirs : Int32) (steps : Int32) (lumps : Nat) (boats : Nat) (thickness : Nat) (lumpNames : Nat) (lumpCells : Nat) (boatNames : Nat) (boatCells : Nat) (loads : Nat) (spoons : Nat) (spoonsLeft : Nat) (depths : Nat) (boatNamesF : Nat → Int64) (gp : Nat) (gnu : Nat → Nat) (k17 : Nat) (f18 : Nat → Int32) (k19 : Nat) (x20 : Int32) (k21 : Nat) (x22 : Int32) (x23 : Int32) (w24 : Int64) (x25 : Int32) (x26 : Int32) (z16 : Nat) (n32 : Nat) (r37 : Int32) (rplaceG_222 : Nat) (rkindG_223 : Int32) (rbeginG_224 : Nat) (rwordG_225 : Int32) (rnumberG_226 : Int32) (rlettersG_227 : Int64) (blineCountG_234 : Nat) (blinesG_235 : Nat → Int32) (rplaceG_236 : Nat) (rkindG_237 : Int32) (rbeginG_238 : Nat) (rwordG_239 : Int32) (rnumberG_240 : Int32) (rlettersG_241 : Int64) (rfaultKindG_242 : Int32) (rfaultPlaceG_243 : Int32) (rplaceG_260 : Nat) (rkindG_261 : Int32) (rbeginG_262 : Nat) (rwordG_263 : Int32) (rnumberG_264 : Int32) (rlettersG_265 : Int64) (rfaultKindG_266 : Int32) (rfaultPlaceG_267 : Int32) (iv_bbk_0 : blineCount ≤ 40) (iv_rreader_0 : rlength ≤ 940) (iv_rreader_1 : rplace ≤ rlength) (iv_rreader_2 : rmostBytes ≤ 900) (iv_rreader_3 : rbegin ≤ 940) (hTC : TC bt rtapeF) (iv_a_0 : 2 ≤ wide) (iv_a_1 : wide ≤ 6) (iv_a_2 : 2 ≤ high) (iv_a_3 : high ≤ 6) (iv_a_4 : lumps ≤ 6) (iv_a_5 : boats ≤ 6) (hRT : RT bt rlength rmostBytes gp rkind rbegin rplace rword rnumber rletters) (hNL : NL gnu 6 boats boatNamesF) (j27 : k17 ≤ 40) (j28 : k19 ≤ 940) (j29 : k21 ≤ 940) (j30 : k19 ≤ rlength) (jRT : RT bt rlength rmostBytes z16 x20 k21 k19 x22 x23 w24) (jB : bLoop bt rlength rmostBytes gnu boats 41 gp 0 = bLoop bt rlength rmostBytes gnu boats (41 - k17) z16 k17) (jFk : x25 = rfaultKind) (jFp : x26 = rfaultPlace) (hm34 : 41 - k17 < n32 + 1) (c36 : ¬ x20 = 0) (p38 : r37 = x22) (v43 : r37 = nI 16) (c219 : k17 < 40) (p228 : rplaceG_222 ≤ rlength) (p229 : rbeginG_224 ≤ 940) (p230 : RT bt rlength rmostBytes (tT bt rlength rmostBytes z16) rkindG_223 rbeginG_224 rplaceG_222 rwordG_225 rnumberG_226 rlettersG_227) (p245 : blineCountG_234 ≤ 40) (p246 : rplaceG_236 ≤ rlength) (p247 : rbeginG_238 ≤ 940) (t248 : isO (bRest bt rlength rmostBytes 16 (tT bt rlength rmostBytes z16)) = true) (t249 : RT bt rlength rmostBytes (okV (bRest bt rlength rmostBytes 16 (tT bt rlength rmostBytes z16))) rkindG_237 rbeginG_238 rplaceG_236 rwordG_239 rnumberG_240 rlettersG_241) (t250 : blineCountG_234 = k17 + 1) (t251 : rfaultKindG_242 = x25) (t252 : rfaultPlaceG_243 = x26) (p269 : rplaceG_260 ≤ rlength) (p270 : rbeginG_262 ≤ 940) (t271 : nI (tK bt rlength rmostBytes (okV (bRest bt rlength rmostBytes 16 (tT bt rlength rmostBytes z16)))) = (nI 59)) (t272 : RT bt rlength rmostBytes (tT bt rlength rmostBytes (okV (bRest bt rlength rmostBytes 16 (tT bt rlength rmostBytes z16)))) rkindG_261 rbeginG_262 rplaceG_260 rwordG_263 rnumberG_264 rlettersG_265) (t273 : rfaultKindG_266 = rfaultKindG_242) (t274 : rfaultPlaceG_267 = rfaultPlaceG_243) : rfaultKindG_266 = rfaultKind := by
  subst_vars
  first
    | rfl
    | assumption
set_option maxRecDepth 20000 in
theorem lf_f_bkRead_23 (adK : Nat → Nat) (adV : Nat → Nat) (bk : Nat) (blines : Nat) (blineCount : Nat) (blived : Int32) (bwhyWrong : Int32) (bfineLines : Int32) (bdayThen : Int32) (beatenThen : Int32) (blinesF : Nat → Int32) (bt : Nat → Nat) (reader : Nat) (rtape : Nat) (rlength : Nat) (rmostBytes : Nat) (rplace : Nat) (rkind : Int32) (rbegin : Nat) (rword : Int32) (rnumber : Int32) (rletters : Int64) (rfaultKind : Int32) (rfaultPlace : Int32) (rtapeF : Nat → Int32) (a : Nat) (wide : Nat) (high : Nat) (heat : Int32) (cools : Int32) (skinHeat : Int32) (today : Int32) (stirs : Int32) (steps : Int32) (lumps : Nat) (boats : Nat) (thickness : Nat) (lumpNames : Nat) (lumpCells : Nat) (boatNames : Nat) (boatCells : Nat) (loads : Nat) (spoons : Nat) (spoonsLeft : Nat) (depths : Nat) (boatNamesF : Nat → Int64) (gp : Nat) (gnu : Nat → Nat) (k17 : Nat) (f18 : Nat → Int32) (k19 : Nat) (x20 : Int32) (k21 : Nat) (x22 : Int32) (x23 : Int32) (w24 : Int64) (x25 : Int32) (x26 : Int32) (z16 : Nat) (n32 : Nat) (r37 : Int32) (rplaceG_222 : Nat) (rkindG_223 : Int32) (rbeginG_224 : Nat) (rwordG_225 : Int32) (rnumberG_226 : Int32) (rlettersG_227 : Int64) (blineCountG_234 : Nat) (blinesG_235 : Nat → Int32) (rplaceG_236 : Nat) (rkindG_237 : Int32) (rbeginG_238 : Nat) (rwordG_239 : Int32) (rnumberG_240 : Int32) (rlettersG_241 : Int64) (rfaultKindG_242 : Int32) (rfaultPlaceG_243 : Int32) (rplaceG_260 : Nat) (rkindG_261 : Int32) (rbeginG_262 : Nat) (rwordG_263 : Int32) (rnumberG_264 : Int32) (rlettersG_265 : Int64) (rfaultKindG_266 : Int32) (rfaultPlaceG_267 : Int32) (iv_bbk_0 : blineCount ≤ 40) (iv_rreader_0 : rlength ≤ 940) (iv_rreader_1 : rplace ≤ rlength) (iv_rreader_2 : rmostBytes ≤ 900) (iv_rreader_3 : rbegin ≤ 940) (hTC : TC bt rtapeF) (iv_a_0 : 2 ≤ wide) (iv_a_1 : wide ≤ 6) (iv_a_2 : 2 ≤ high) (iv_a_3 : high ≤ 6) (iv_a_4 : lumps ≤ 6) (iv_a_5 : boats ≤ 6) (hRT : RT bt rlength rmostBytes gp rkind rbegin rplace rword rnumber rletters) (hNL : NL gnu 6 boats boatNamesF) (j27 : k17 ≤ 40) (j28 : k19 ≤ 940) (j29 : k21 ≤ 940) (j30 : k19 ≤ rlength) (jRT : RT bt rlength rmostBytes z16 x20 k21 k19 x22 x23 w24) (jB : bLoop bt rlength rmostBytes gnu boats 41 gp 0 = bLoop bt rlength rmostBytes gnu boats (41 - k17) z16 k17) (jFk : x25 = rfaultKind) (jFp : x26 = rfaultPlace) (hm34 : 41 - k17 < n32 + 1) (c36 : ¬ x20 = 0) (p38 : r37 = x22) (v43 : r37 = nI 16) (c219 : k17 < 40) (p228 : rplaceG_222 ≤ rlength) (p229 : rbeginG_224 ≤ 940) (p230 : RT bt rlength rmostBytes (tT bt rlength rmostBytes z16) rkindG_223 rbeginG_224 rplaceG_222 rwordG_225 rnumberG_226 rlettersG_227) (p245 : blineCountG_234 ≤ 40) (p246 : rplaceG_236 ≤ rlength) (p247 : rbeginG_238 ≤ 940) (t248 : isO (bRest bt rlength rmostBytes 16 (tT bt rlength rmostBytes z16)) = true) (t249 : RT bt rlength rmostBytes (okV (bRest bt rlength rmostBytes 16 (tT bt rlength rmostBytes z16))) rkindG_237 rbeginG_238 rplaceG_236 rwordG_239 rnumberG_240 rlettersG_241) (t250 : blineCountG_234 = k17 + 1) (t251 : rfaultKindG_242 = x25) (t252 : rfaultPlaceG_243 = x26) (p269 : rplaceG_260 ≤ rlength) (p270 : rbeginG_262 ≤ 940) (t271 : nI (tK bt rlength rmostBytes (okV (bRest bt rlength rmostBytes 16 (tT bt rlength rmostBytes z16)))) = (nI 59)) (t272 : RT bt rlength rmostBytes (tT bt rlength rmostBytes (okV (bRest bt rlength rmostBytes 16 (tT bt rlength rmostBytes z16)))) rkindG_261 rbeginG_262 rplaceG_260 rwordG_263 rnumberG_264 rlettersG_265) (t273 : rfaultKindG_266 = rfaultKindG_242) (t274 : rfaultPlaceG_267 = rfaultPlaceG_243) : rfaultPlaceG_267 = rfaultPlace := by
  subst_vars
  first
    | rfl
    | assumption
set_option maxRecDepth 20000 in
theorem lf_f_bkRead_24 (bt : Nat → Nat) (rlength : Nat) (rmostBytes : Nat) (rplace : Nat) (rkind : Int32) (rbegin : Nat) (rword : Int32) (rnumber : Int32) (rletters : Int64) (rtapeF : Nat → Int32) (boats : Nat) (boatNamesF : Nat → Int64) (gp : Nat) (gnu : Nat → Nat) (k17 : Nat) (k19 : Nat) (x20 : Int32) (k21 : Nat) (x22 : Int32) (x23 : Int32) (w24 : Int64) (z16 : Nat) (n32 : Nat) (r37 : Int32) (rplaceG_222 : Nat) (rkindG_223 : Int32) (rbeginG_224 : Nat) (rwordG_225 : Int32) (rnumberG_226 : Int32) (rlettersG_227 : Int64) (blineCountG_234 : Nat) (rplaceG_236 : Nat) (rkindG_237 : Int32) (rbeginG_238 : Nat) (rwordG_239 : Int32) (rnumberG_240 : Int32) (rlettersG_241 : Int64) (rplaceG_260 : Nat) (rkindG_261 : Int32) (rbeginG_262 : Nat) (rwordG_263 : Int32) (rnumberG_264 : Int32) (rlettersG_265 : Int64) (iv_rreader_0 : rlength ≤ 940) (iv_rreader_1 : rplace ≤ rlength) (iv_rreader_2 : rmostBytes ≤ 900) (iv_rreader_3 : rbegin ≤ 940) (hTC : TC bt rtapeF) (iv_a_5 : boats ≤ 6) (hRT : RT bt rlength rmostBytes gp rkind rbegin rplace rword rnumber rletters) (hNL : NL gnu 6 boats boatNamesF) (j27 : k17 ≤ 40) (j28 : k19 ≤ 940) (j29 : k21 ≤ 940) (j30 : k19 ≤ rlength) (jRT : RT bt rlength rmostBytes z16 x20 k21 k19 x22 x23 w24) (jB : bLoop bt rlength rmostBytes gnu boats 41 gp 0 = bLoop bt rlength rmostBytes gnu boats (41 - k17) z16 k17) (hm34 : 41 - k17 < n32 + 1) (c36 : ¬ x20 = 0) (p38 : r37 = x22) (v43 : r37 = nI 16) (c219 : k17 < 40) (p228 : rplaceG_222 ≤ rlength) (p229 : rbeginG_224 ≤ 940) (p230 : RT bt rlength rmostBytes (tT bt rlength rmostBytes z16) rkindG_223 rbeginG_224 rplaceG_222 rwordG_225 rnumberG_226 rlettersG_227) (p245 : blineCountG_234 ≤ 40) (p246 : rplaceG_236 ≤ rlength) (p247 : rbeginG_238 ≤ 940) (t248 : isO (bRest bt rlength rmostBytes 16 (tT bt rlength rmostBytes z16)) = true) (t249 : RT bt rlength rmostBytes (okV (bRest bt rlength rmostBytes 16 (tT bt rlength rmostBytes z16))) rkindG_237 rbeginG_238 rplaceG_236 rwordG_239 rnumberG_240 rlettersG_241) (t250 : blineCountG_234 = k17 + 1) (p269 : rplaceG_260 ≤ rlength) (p270 : rbeginG_262 ≤ 940) (t271 : nI (tK bt rlength rmostBytes (okV (bRest bt rlength rmostBytes 16 (tT bt rlength rmostBytes z16)))) = (nI 59)) (t272 : RT bt rlength rmostBytes (tT bt rlength rmostBytes (okV (bRest bt rlength rmostBytes 16 (tT bt rlength rmostBytes z16)))) rkindG_261 rbeginG_262 rplaceG_260 rwordG_263 rnumberG_264 rlettersG_265) : 41 - blineCountG_234 < n32 := by
  have b_rkind := ia_b rkind
  have b_rword := ia_b rword
  have b_rnumber := ia_b rnumber
  have b_x20 := ia_b x20
  have b_x22 := ia_b x22
  have b_x23 := ia_b x23
  have b_r37 := ia_b r37
  have b_rkindG_223 := ia_b rkindG_223
  have b_rwordG_225 := ia_b rwordG_225
  have b_rnumberG_226 := ia_b rnumberG_226
  have b_rkindG_237 := ia_b rkindG_237
  have b_rwordG_239 := ia_b rwordG_239
  have b_rnumberG_240 := ia_b rnumberG_240
  have b_rkindG_261 := ia_b rkindG_261
  have b_rwordG_263 := ia_b rwordG_263
  have b_rnumberG_264 := ia_b rnumberG_264
  have b_rletters := Int64.toInt_lt rletters
  have b_w24 := Int64.toInt_lt w24
  have b_rlettersG_227 := Int64.toInt_lt rlettersG_227
  have b_rlettersG_241 := Int64.toInt_lt rlettersG_241
  have b_rlettersG_265 := Int64.toInt_lt rlettersG_265
  try have k_0 := ia_n 16 (by first | decide | omega)
  try have k_1 := ia_n (tK bt rlength rmostBytes (okV (bRest bt rlength rmostBytes 16 (tT bt rlength rmostBytes z16)))) (by first | decide | omega)
  try have k_2 := ia_n 59 (by first | decide | omega)
  try simp only [ia_lt, ia_le, ia_eq, ia_m1, ia_0, ia_1, ne_eq, true_and, and_true, false_and, and_false, or_false, false_or, or_true, true_or, not_true_eq_false, not_false_eq_true] at *
  all_goals omega
set_option maxRecDepth 20000 in
theorem lf_f_bkRead_25 (bt : Nat → Nat) (rlength : Nat) (rmostBytes : Nat) (rplace : Nat) (rkind : Int32) (rbegin : Nat) (rword : Int32) (rnumber : Int32) (rletters : Int64) (rfaultKind : Int32) (rfaultPlace : Int32) (rtapeF : Nat → Int32) (boats : Nat) (boatNamesF : Nat → Int64) (gp : Nat) (gnu : Nat → Nat) (k17 : Nat) (k19 : Nat) (x20 : Int32) (k21 : Nat) (x22 : Int32) (x23 : Int32) (w24 : Int64) (x25 : Int32) (x26 : Int32) (z16 : Nat) (n32 : Nat) (r37 : Int32) (rplaceG_222 : Nat) (rkindG_223 : Int32) (rbeginG_224 : Nat) (rwordG_225 : Int32) (rnumberG_226 : Int32) (rlettersG_227 : Int64) (blineCountG_234 : Nat) (rplaceG_236 : Nat) (rkindG_237 : Int32) (rbeginG_238 : Nat) (rwordG_239 : Int32) (rnumberG_240 : Int32) (rlettersG_241 : Int64) (rfaultKindG_242 : Int32) (rfaultPlaceG_243 : Int32) (rplaceG_260 : Nat) (rfaultKindG_266 : Int32) (rfaultPlaceG_267 : Int32) (iv_rreader_0 : rlength ≤ 940) (iv_rreader_1 : rplace ≤ rlength) (iv_rreader_2 : rmostBytes ≤ 900) (iv_rreader_3 : rbegin ≤ 940) (hTC : TC bt rtapeF) (iv_a_5 : boats ≤ 6) (hRT : RT bt rlength rmostBytes gp rkind rbegin rplace rword rnumber rletters) (hNL : NL gnu 6 boats boatNamesF) (j27 : k17 ≤ 40) (j28 : k19 ≤ 940) (j29 : k21 ≤ 940) (j30 : k19 ≤ rlength) (jRT : RT bt rlength rmostBytes z16 x20 k21 k19 x22 x23 w24) (jB : bLoop bt rlength rmostBytes gnu boats 41 gp 0 = bLoop bt rlength rmostBytes gnu boats (41 - k17) z16 k17) (jFk : x25 = rfaultKind) (jFp : x26 = rfaultPlace) (hm34 : 41 - k17 < n32 + 1) (c36 : ¬ x20 = 0) (p38 : r37 = x22) (v43 : r37 = nI 16) (c219 : k17 < 40) (p228 : rplaceG_222 ≤ rlength) (p229 : rbeginG_224 ≤ 940) (p230 : RT bt rlength rmostBytes (tT bt rlength rmostBytes z16) rkindG_223 rbeginG_224 rplaceG_222 rwordG_225 rnumberG_226 rlettersG_227) (p245 : blineCountG_234 ≤ 40) (p246 : rplaceG_236 ≤ rlength) (p247 : rbeginG_238 ≤ 940) (t248 : isO (bRest bt rlength rmostBytes 16 (tT bt rlength rmostBytes z16)) = true) (t249 : RT bt rlength rmostBytes (okV (bRest bt rlength rmostBytes 16 (tT bt rlength rmostBytes z16))) rkindG_237 rbeginG_238 rplaceG_236 rwordG_239 rnumberG_240 rlettersG_241) (t250 : blineCountG_234 = k17 + 1) (t251 : rfaultKindG_242 = x25) (t252 : rfaultPlaceG_243 = x26) (p269 : rplaceG_260 ≤ rlength) (t275 : ¬ nI (tK bt rlength rmostBytes (okV (bRest bt rlength rmostBytes 16 (tT bt rlength rmostBytes z16)))) = (nI 59)) (t276 : rfaultKindG_266 = nI 1) (t277 : rfaultPlaceG_267 = nI (tF bt rlength rmostBytes (okV (bRest bt rlength rmostBytes 16 (tT bt rlength rmostBytes z16))))) : ((nI 0) = nI 1 ∧ (isO (bLoop bt rlength rmostBytes gnu boats 41 gp 0) = true ∧ rfaultKindG_266 = rfaultKind ∧ rfaultPlaceG_267 = rfaultPlace)) ∨ ((nI 0) = nI 0 ∧ (isO (bLoop bt rlength rmostBytes gnu boats 41 gp 0) = false ∧ rfaultKindG_266 = nI (erA (bLoop bt rlength rmostBytes gnu boats 41 gp 0)) ∧ rfaultPlaceG_267 = nI (erB (bLoop bt rlength rmostBytes gnu boats 41 gp 0)))) := by
  have k0 : ¬ tK bt rlength rmostBytes z16 = 0 := fun z => absurd ((RT_k jRT (c := 0) (by decide)).mpr z) (by
    have kk0 := ia_n 0 (by decide)
    have b_rkind := ia_b rkind
    have b_rword := ia_b rword
    have b_rnumber := ia_b rnumber
    have b_rfaultKind := ia_b rfaultKind
    have b_rfaultPlace := ia_b rfaultPlace
    have b_x20 := ia_b x20
    have b_x22 := ia_b x22
    have b_x23 := ia_b x23
    have b_x25 := ia_b x25
    have b_x26 := ia_b x26
    have b_r37 := ia_b r37
    have b_rkindG_223 := ia_b rkindG_223
    have b_rwordG_225 := ia_b rwordG_225
    have b_rnumberG_226 := ia_b rnumberG_226
    have b_rkindG_237 := ia_b rkindG_237
    have b_rwordG_239 := ia_b rwordG_239
    have b_rnumberG_240 := ia_b rnumberG_240
    have b_rfaultKindG_242 := ia_b rfaultKindG_242
    have b_rfaultPlaceG_243 := ia_b rfaultPlaceG_243
    have b_rfaultKindG_266 := ia_b rfaultKindG_266
    have b_rfaultPlaceG_267 := ia_b rfaultPlaceG_267
    have b_rletters := Int64.toInt_lt rletters
    have b_w24 := Int64.toInt_lt w24
    have b_rlettersG_227 := Int64.toInt_lt rlettersG_227
    have b_rlettersG_241 := Int64.toInt_lt rlettersG_241
    try have k_0 := ia_n 16 (by first | decide | omega)
    try have k_1 := ia_n (tK bt rlength rmostBytes (okV (bRest bt rlength rmostBytes 16 (tT bt rlength rmostBytes z16)))) (by first | decide | omega)
    try have k_2 := ia_n 59 (by first | decide | omega)
    try have k_3 := ia_n 1 (by first | decide | omega)
    try have k_4 := ia_n (tF bt rlength rmostBytes (okV (bRest bt rlength rmostBytes 16 (tT bt rlength rmostBytes z16)))) (by first | decide | omega)
    try have k_5 := ia_n 0 (by first | decide | omega)
    try have k_6 := ia_n (erA (bLoop bt rlength rmostBytes gnu boats 41 gp 0)) (by first | decide | omega)
    try have k_7 := ia_n (erB (bLoop bt rlength rmostBytes gnu boats 41 gp 0)) (by first | decide | omega)
    try simp only [ia_lt, ia_le, ia_eq, ia_m1, ia_0, ia_1, ne_eq, true_and, and_true, false_and, and_false, or_false, false_or, or_true, true_or, not_true_eq_false, not_false_eq_true] at *
    all_goals omega)
  have w9 : tW bt rlength rmostBytes z16 = 16 := (RT_w jRT (by decide)).mp (by
    have kk16 := ia_n 16 (by decide)
    have b_rkind := ia_b rkind
    have b_rword := ia_b rword
    have b_rnumber := ia_b rnumber
    have b_rfaultKind := ia_b rfaultKind
    have b_rfaultPlace := ia_b rfaultPlace
    have b_x20 := ia_b x20
    have b_x22 := ia_b x22
    have b_x23 := ia_b x23
    have b_x25 := ia_b x25
    have b_x26 := ia_b x26
    have b_r37 := ia_b r37
    have b_rkindG_223 := ia_b rkindG_223
    have b_rwordG_225 := ia_b rwordG_225
    have b_rnumberG_226 := ia_b rnumberG_226
    have b_rkindG_237 := ia_b rkindG_237
    have b_rwordG_239 := ia_b rwordG_239
    have b_rnumberG_240 := ia_b rnumberG_240
    have b_rfaultKindG_242 := ia_b rfaultKindG_242
    have b_rfaultPlaceG_243 := ia_b rfaultPlaceG_243
    have b_rfaultKindG_266 := ia_b rfaultKindG_266
    have b_rfaultPlaceG_267 := ia_b rfaultPlaceG_267
    have b_rletters := Int64.toInt_lt rletters
    have b_w24 := Int64.toInt_lt w24
    have b_rlettersG_227 := Int64.toInt_lt rlettersG_227
    have b_rlettersG_241 := Int64.toInt_lt rlettersG_241
    try have k_0 := ia_n 16 (by first | decide | omega)
    try have k_1 := ia_n (tK bt rlength rmostBytes (okV (bRest bt rlength rmostBytes 16 (tT bt rlength rmostBytes z16)))) (by first | decide | omega)
    try have k_2 := ia_n 59 (by first | decide | omega)
    try have k_3 := ia_n 1 (by first | decide | omega)
    try have k_4 := ia_n (tF bt rlength rmostBytes (okV (bRest bt rlength rmostBytes 16 (tT bt rlength rmostBytes z16)))) (by first | decide | omega)
    try have k_5 := ia_n 0 (by first | decide | omega)
    try have k_6 := ia_n (erA (bLoop bt rlength rmostBytes gnu boats 41 gp 0)) (by first | decide | omega)
    try have k_7 := ia_n (erB (bLoop bt rlength rmostBytes gnu boats 41 gp 0)) (by first | decide | omega)
    try simp only [ia_lt, ia_le, ia_eq, ia_m1, ia_0, ia_1, ne_eq, true_and, and_true, false_and, and_false, or_false, false_or, or_true, true_or, not_true_eq_false, not_false_eq_true] at *
    all_goals omega)
  have hs : bSort (tW bt rlength rmostBytes z16) := by rw [w9]; decide
  have hn : tW bt rlength rmostBytes z16 = 31 → isFd gnu 6 boats (tC bt rlength z16) := fun z => absurd (w9.symm.trans z) (by decide)
  have hl := bL_o (ν := gnu) (L := boats) (k := k17) hs hn (by omega)
  rw [w9] at hl
  have hb := bE_s (B := bt) (n := rlength) (m := rmostBytes) (y := bRest bt rlength rmostBytes 16 (tT bt rlength rmostBytes z16)) (by assumption) (tk_d (by assumption))
  have q := bP_err (ν := gnu) (L := boats) k0 (k := k17) (by omega) (by rw [hl, hb]; rfl)
  rw [hl, hb] at q
  rw [jB, q]
  exact Or.inr ⟨rfl, rfl, ‹_›, ‹_›⟩
set_option maxRecDepth 20000 in
theorem lf_f_bkRead_26 (bt : Nat → Nat) (rlength : Nat) (rmostBytes : Nat) (rplace : Nat) (rkind : Int32) (rbegin : Nat) (rword : Int32) (rnumber : Int32) (rletters : Int64) (rfaultKind : Int32) (rfaultPlace : Int32) (rtapeF : Nat → Int32) (boats : Nat) (boatNamesF : Nat → Int64) (gp : Nat) (gnu : Nat → Nat) (k17 : Nat) (k19 : Nat) (x20 : Int32) (k21 : Nat) (x22 : Int32) (x23 : Int32) (w24 : Int64) (x25 : Int32) (x26 : Int32) (z16 : Nat) (n32 : Nat) (r37 : Int32) (rplaceG_222 : Nat) (rkindG_223 : Int32) (rbeginG_224 : Nat) (rwordG_225 : Int32) (rnumberG_226 : Int32) (rlettersG_227 : Int64) (rplaceG_236 : Nat) (rfaultKindG_242 : Int32) (rfaultPlaceG_243 : Int32) (iv_rreader_0 : rlength ≤ 940) (iv_rreader_1 : rplace ≤ rlength) (iv_rreader_2 : rmostBytes ≤ 900) (iv_rreader_3 : rbegin ≤ 940) (hTC : TC bt rtapeF) (iv_a_5 : boats ≤ 6) (hRT : RT bt rlength rmostBytes gp rkind rbegin rplace rword rnumber rletters) (hNL : NL gnu 6 boats boatNamesF) (j27 : k17 ≤ 40) (j28 : k19 ≤ 940) (j29 : k21 ≤ 940) (j30 : k19 ≤ rlength) (jRT : RT bt rlength rmostBytes z16 x20 k21 k19 x22 x23 w24) (jB : bLoop bt rlength rmostBytes gnu boats 41 gp 0 = bLoop bt rlength rmostBytes gnu boats (41 - k17) z16 k17) (jFk : x25 = rfaultKind) (jFp : x26 = rfaultPlace) (hm34 : 41 - k17 < n32 + 1) (c36 : ¬ x20 = 0) (p38 : r37 = x22) (v43 : r37 = nI 16) (c219 : k17 < 40) (p228 : rplaceG_222 ≤ rlength) (p229 : rbeginG_224 ≤ 940) (p230 : RT bt rlength rmostBytes (tT bt rlength rmostBytes z16) rkindG_223 rbeginG_224 rplaceG_222 rwordG_225 rnumberG_226 rlettersG_227) (p246 : rplaceG_236 ≤ rlength) (t253 : isO (bRest bt rlength rmostBytes 16 (tT bt rlength rmostBytes z16)) = false) (t254 : rfaultKindG_242 = nI (erA (bRest bt rlength rmostBytes 16 (tT bt rlength rmostBytes z16)))) (t255 : rfaultPlaceG_243 = nI (erB (bRest bt rlength rmostBytes 16 (tT bt rlength rmostBytes z16)))) : ((nI 0) = nI 1 ∧ (isO (bLoop bt rlength rmostBytes gnu boats 41 gp 0) = true ∧ rfaultKindG_242 = rfaultKind ∧ rfaultPlaceG_243 = rfaultPlace)) ∨ ((nI 0) = nI 0 ∧ (isO (bLoop bt rlength rmostBytes gnu boats 41 gp 0) = false ∧ rfaultKindG_242 = nI (erA (bLoop bt rlength rmostBytes gnu boats 41 gp 0)) ∧ rfaultPlaceG_243 = nI (erB (bLoop bt rlength rmostBytes gnu boats 41 gp 0)))) := by
  have k0 : ¬ tK bt rlength rmostBytes z16 = 0 := fun z => absurd ((RT_k jRT (c := 0) (by decide)).mpr z) (by
    have kk0 := ia_n 0 (by decide)
    have b_rkind := ia_b rkind
    have b_rword := ia_b rword
    have b_rnumber := ia_b rnumber
    have b_rfaultKind := ia_b rfaultKind
    have b_rfaultPlace := ia_b rfaultPlace
    have b_x20 := ia_b x20
    have b_x22 := ia_b x22
    have b_x23 := ia_b x23
    have b_x25 := ia_b x25
    have b_x26 := ia_b x26
    have b_r37 := ia_b r37
    have b_rkindG_223 := ia_b rkindG_223
    have b_rwordG_225 := ia_b rwordG_225
    have b_rnumberG_226 := ia_b rnumberG_226
    have b_rfaultKindG_242 := ia_b rfaultKindG_242
    have b_rfaultPlaceG_243 := ia_b rfaultPlaceG_243
    have b_rletters := Int64.toInt_lt rletters
    have b_w24 := Int64.toInt_lt w24
    have b_rlettersG_227 := Int64.toInt_lt rlettersG_227
    try have k_0 := ia_n 16 (by first | decide | omega)
    try have k_1 := ia_n (erA (bRest bt rlength rmostBytes 16 (tT bt rlength rmostBytes z16))) (by first | decide | omega)
    try have k_2 := ia_n (erB (bRest bt rlength rmostBytes 16 (tT bt rlength rmostBytes z16))) (by first | decide | omega)
    try have k_3 := ia_n 0 (by first | decide | omega)
    try have k_4 := ia_n 1 (by first | decide | omega)
    try have k_5 := ia_n (erA (bLoop bt rlength rmostBytes gnu boats 41 gp 0)) (by first | decide | omega)
    try have k_6 := ia_n (erB (bLoop bt rlength rmostBytes gnu boats 41 gp 0)) (by first | decide | omega)
    try simp only [ia_lt, ia_le, ia_eq, ia_m1, ia_0, ia_1, ne_eq, true_and, and_true, false_and, and_false, or_false, false_or, or_true, true_or, not_true_eq_false, not_false_eq_true] at *
    all_goals omega)
  have w9 : tW bt rlength rmostBytes z16 = 16 := (RT_w jRT (by decide)).mp (by
    have kk16 := ia_n 16 (by decide)
    have b_rkind := ia_b rkind
    have b_rword := ia_b rword
    have b_rnumber := ia_b rnumber
    have b_rfaultKind := ia_b rfaultKind
    have b_rfaultPlace := ia_b rfaultPlace
    have b_x20 := ia_b x20
    have b_x22 := ia_b x22
    have b_x23 := ia_b x23
    have b_x25 := ia_b x25
    have b_x26 := ia_b x26
    have b_r37 := ia_b r37
    have b_rkindG_223 := ia_b rkindG_223
    have b_rwordG_225 := ia_b rwordG_225
    have b_rnumberG_226 := ia_b rnumberG_226
    have b_rfaultKindG_242 := ia_b rfaultKindG_242
    have b_rfaultPlaceG_243 := ia_b rfaultPlaceG_243
    have b_rletters := Int64.toInt_lt rletters
    have b_w24 := Int64.toInt_lt w24
    have b_rlettersG_227 := Int64.toInt_lt rlettersG_227
    try have k_0 := ia_n 16 (by first | decide | omega)
    try have k_1 := ia_n (erA (bRest bt rlength rmostBytes 16 (tT bt rlength rmostBytes z16))) (by first | decide | omega)
    try have k_2 := ia_n (erB (bRest bt rlength rmostBytes 16 (tT bt rlength rmostBytes z16))) (by first | decide | omega)
    try have k_3 := ia_n 0 (by first | decide | omega)
    try have k_4 := ia_n 1 (by first | decide | omega)
    try have k_5 := ia_n (erA (bLoop bt rlength rmostBytes gnu boats 41 gp 0)) (by first | decide | omega)
    try have k_6 := ia_n (erB (bLoop bt rlength rmostBytes gnu boats 41 gp 0)) (by first | decide | omega)
    try simp only [ia_lt, ia_le, ia_eq, ia_m1, ia_0, ia_1, ne_eq, true_and, and_true, false_and, and_false, or_false, false_or, or_true, true_or, not_true_eq_false, not_false_eq_true] at *
    all_goals omega)
  have hs : bSort (tW bt rlength rmostBytes z16) := by rw [w9]; decide
  have hn : tW bt rlength rmostBytes z16 = 31 → isFd gnu 6 boats (tC bt rlength z16) := fun z => absurd (w9.symm.trans z) (by decide)
  have hl := bL_o (ν := gnu) (L := boats) (k := k17) hs hn (by omega)
  rw [w9] at hl
  have hb := bE_e (B := bt) (n := rlength) (m := rmostBytes) (y := bRest bt rlength rmostBytes 16 (tT bt rlength rmostBytes z16)) (by assumption)
  have q := bP_err (ν := gnu) (L := boats) k0 (k := k17) (by omega) (by rw [hl, hb]; rfl)
  rw [hl, hb] at q
  rw [jB, q]
  exact Or.inr ⟨rfl, rfl, ‹_›, ‹_›⟩
set_option maxRecDepth 20000 in
theorem lf_f_bkRead_27 (bt : Nat → Nat) (rlength : Nat) (rmostBytes : Nat) (rplace : Nat) (rkind : Int32) (rbegin : Nat) (rword : Int32) (rnumber : Int32) (rletters : Int64) (rfaultKind : Int32) (rfaultPlace : Int32) (rtapeF : Nat → Int32) (boats : Nat) (boatNamesF : Nat → Int64) (gp : Nat) (gnu : Nat → Nat) (k17 : Nat) (k19 : Nat) (x20 : Int32) (k21 : Nat) (x22 : Int32) (x23 : Int32) (w24 : Int64) (x25 : Int32) (x26 : Int32) (z16 : Nat) (n32 : Nat) (r37 : Int32) (rfaultKindG_284 : Int32) (rfaultPlaceG_285 : Int32) (iv_rreader_0 : rlength ≤ 940) (iv_rreader_1 : rplace ≤ rlength) (iv_rreader_2 : rmostBytes ≤ 900) (iv_rreader_3 : rbegin ≤ 940) (hTC : TC bt rtapeF) (iv_a_5 : boats ≤ 6) (hRT : RT bt rlength rmostBytes gp rkind rbegin rplace rword rnumber rletters) (hNL : NL gnu 6 boats boatNamesF) (j27 : k17 ≤ 40) (j28 : k19 ≤ 940) (j29 : k21 ≤ 940) (j30 : k19 ≤ rlength) (jRT : RT bt rlength rmostBytes z16 x20 k21 k19 x22 x23 w24) (jB : bLoop bt rlength rmostBytes gnu boats 41 gp 0 = bLoop bt rlength rmostBytes gnu boats (41 - k17) z16 k17) (jFk : x25 = rfaultKind) (jFp : x26 = rfaultPlace) (hm34 : 41 - k17 < n32 + 1) (c36 : ¬ x20 = 0) (p38 : r37 = x22) (v43 : r37 = nI 16) (c219 : 40 ≤ k17) (p287 : rfaultKindG_284 = (nI 4)) (p288 : rfaultPlaceG_285 = nI k21) : ((nI 0) = nI 1 ∧ (isO (bLoop bt rlength rmostBytes gnu boats 41 gp 0) = true ∧ rfaultKindG_284 = rfaultKind ∧ rfaultPlaceG_285 = rfaultPlace)) ∨ ((nI 0) = nI 0 ∧ (isO (bLoop bt rlength rmostBytes gnu boats 41 gp 0) = false ∧ rfaultKindG_284 = nI (erA (bLoop bt rlength rmostBytes gnu boats 41 gp 0)) ∧ rfaultPlaceG_285 = nI (erB (bLoop bt rlength rmostBytes gnu boats 41 gp 0)))) := by
  have k0 : ¬ tK bt rlength rmostBytes z16 = 0 := fun z => absurd ((RT_k jRT (c := 0) (by decide)).mpr z) (by
    have kk0 := ia_n 0 (by decide)
    have b_rkind := ia_b rkind
    have b_rword := ia_b rword
    have b_rnumber := ia_b rnumber
    have b_rfaultKind := ia_b rfaultKind
    have b_rfaultPlace := ia_b rfaultPlace
    have b_x20 := ia_b x20
    have b_x22 := ia_b x22
    have b_x23 := ia_b x23
    have b_x25 := ia_b x25
    have b_x26 := ia_b x26
    have b_r37 := ia_b r37
    have b_rfaultKindG_284 := ia_b rfaultKindG_284
    have b_rfaultPlaceG_285 := ia_b rfaultPlaceG_285
    have b_rletters := Int64.toInt_lt rletters
    have b_w24 := Int64.toInt_lt w24
    try have k_0 := ia_n 16 (by first | decide | omega)
    try have k_1 := ia_n 4 (by first | decide | omega)
    try have k_2 := ia_n k21 (by first | decide | omega)
    try have k_3 := ia_n 0 (by first | decide | omega)
    try have k_4 := ia_n 1 (by first | decide | omega)
    try have k_5 := ia_n (erA (bLoop bt rlength rmostBytes gnu boats 41 gp 0)) (by first | decide | omega)
    try have k_6 := ia_n (erB (bLoop bt rlength rmostBytes gnu boats 41 gp 0)) (by first | decide | omega)
    try simp only [ia_lt, ia_le, ia_eq, ia_m1, ia_0, ia_1, ne_eq, true_and, and_true, false_and, and_false, or_false, false_or, or_true, true_or, not_true_eq_false, not_false_eq_true] at *
    all_goals omega)
  have w9 : tW bt rlength rmostBytes z16 = 16 := (RT_w jRT (by decide)).mp (by
    have kk16 := ia_n 16 (by decide)
    have b_rkind := ia_b rkind
    have b_rword := ia_b rword
    have b_rnumber := ia_b rnumber
    have b_rfaultKind := ia_b rfaultKind
    have b_rfaultPlace := ia_b rfaultPlace
    have b_x20 := ia_b x20
    have b_x22 := ia_b x22
    have b_x23 := ia_b x23
    have b_x25 := ia_b x25
    have b_x26 := ia_b x26
    have b_r37 := ia_b r37
    have b_rfaultKindG_284 := ia_b rfaultKindG_284
    have b_rfaultPlaceG_285 := ia_b rfaultPlaceG_285
    have b_rletters := Int64.toInt_lt rletters
    have b_w24 := Int64.toInt_lt w24
    try have k_0 := ia_n 16 (by first | decide | omega)
    try have k_1 := ia_n 4 (by first | decide | omega)
    try have k_2 := ia_n k21 (by first | decide | omega)
    try have k_3 := ia_n 0 (by first | decide | omega)
    try have k_4 := ia_n 1 (by first | decide | omega)
    try have k_5 := ia_n (erA (bLoop bt rlength rmostBytes gnu boats 41 gp 0)) (by first | decide | omega)
    try have k_6 := ia_n (erB (bLoop bt rlength rmostBytes gnu boats 41 gp 0)) (by first | decide | omega)
    try simp only [ia_lt, ia_le, ia_eq, ia_m1, ia_0, ia_1, ne_eq, true_and, and_true, false_and, and_false, or_false, false_or, or_true, true_or, not_true_eq_false, not_false_eq_true] at *
    all_goals omega)
  have hs : bSort (tW bt rlength rmostBytes z16) := by rw [w9]; decide
  have hn : tW bt rlength rmostBytes z16 = 31 → isFd gnu 6 boats (tC bt rlength z16) := fun z => absurd (w9.symm.trans z) (by decide)
  have hl := bL_4 (ν := gnu) (L := boats) (k := k17) hs hn (by omega)
  have q := bP_err (ν := gnu) (L := boats) k0 (k := k17) (by omega) (by rw [hl]; rfl)
  rw [hl] at q
  rw [jB, q]
  exact Or.inr ⟨rfl, rfl, ‹_›, (Eq.trans (by assumption) (congrArg nI jRT.2.1))⟩
set_option maxRecDepth 20000 in
theorem lf_f_bkRead_28 (bt : Nat → Nat) (rlength : Nat) (rmostBytes : Nat) (rplace : Nat) (rkind : Int32) (rbegin : Nat) (rword : Int32) (rnumber : Int32) (rletters : Int64) (rtapeF : Nat → Int32) (boats : Nat) (boatNamesF : Nat → Int64) (gp : Nat) (gnu : Nat → Nat) (k17 : Nat) (k19 : Nat) (x20 : Int32) (k21 : Nat) (x22 : Int32) (x23 : Int32) (w24 : Int64) (z16 : Nat) (n32 : Nat) (r37 : Int32) (rplaceG_295 : Nat) (rkindG_296 : Int32) (rbeginG_297 : Nat) (rwordG_298 : Int32) (rnumberG_299 : Int32) (rlettersG_300 : Int64) (blineCountG_307 : Nat) (rplaceG_309 : Nat) (rkindG_310 : Int32) (rbeginG_311 : Nat) (rwordG_312 : Int32) (rnumberG_313 : Int32) (rlettersG_314 : Int64) (rplaceG_333 : Nat) (rkindG_334 : Int32) (rbeginG_335 : Nat) (rwordG_336 : Int32) (rnumberG_337 : Int32) (rlettersG_338 : Int64) (iv_rreader_0 : rlength ≤ 940) (iv_rreader_1 : rplace ≤ rlength) (iv_rreader_2 : rmostBytes ≤ 900) (iv_rreader_3 : rbegin ≤ 940) (hTC : TC bt rtapeF) (iv_a_5 : boats ≤ 6) (hRT : RT bt rlength rmostBytes gp rkind rbegin rplace rword rnumber rletters) (hNL : NL gnu 6 boats boatNamesF) (j27 : k17 ≤ 40) (j28 : k19 ≤ 940) (j29 : k21 ≤ 940) (j30 : k19 ≤ rlength) (jRT : RT bt rlength rmostBytes z16 x20 k21 k19 x22 x23 w24) (jB : bLoop bt rlength rmostBytes gnu boats 41 gp 0 = bLoop bt rlength rmostBytes gnu boats (41 - k17) z16 k17) (hm34 : 41 - k17 < n32 + 1) (c36 : ¬ x20 = 0) (p38 : r37 = x22) (v44 : r37 = nI 17) (c292 : k17 < 40) (p301 : rplaceG_295 ≤ rlength) (p302 : rbeginG_297 ≤ 940) (p303 : RT bt rlength rmostBytes (tT bt rlength rmostBytes z16) rkindG_296 rbeginG_297 rplaceG_295 rwordG_298 rnumberG_299 rlettersG_300) (p318 : blineCountG_307 ≤ 40) (p319 : rplaceG_309 ≤ rlength) (p320 : rbeginG_311 ≤ 940) (t321 : isO (bRest bt rlength rmostBytes 17 (tT bt rlength rmostBytes z16)) = true) (t322 : RT bt rlength rmostBytes (okV (bRest bt rlength rmostBytes 17 (tT bt rlength rmostBytes z16))) rkindG_310 rbeginG_311 rplaceG_309 rwordG_312 rnumberG_313 rlettersG_314) (t323 : blineCountG_307 = k17 + 1) (p342 : rplaceG_333 ≤ rlength) (p343 : rbeginG_335 ≤ 940) (t344 : nI (tK bt rlength rmostBytes (okV (bRest bt rlength rmostBytes 17 (tT bt rlength rmostBytes z16)))) = (nI 59)) (t345 : RT bt rlength rmostBytes (tT bt rlength rmostBytes (okV (bRest bt rlength rmostBytes 17 (tT bt rlength rmostBytes z16)))) rkindG_334 rbeginG_335 rplaceG_333 rwordG_336 rnumberG_337 rlettersG_338) : rplaceG_333 ≤ 940 := by
  have b_rkind := ia_b rkind
  have b_rword := ia_b rword
  have b_rnumber := ia_b rnumber
  have b_x20 := ia_b x20
  have b_x22 := ia_b x22
  have b_x23 := ia_b x23
  have b_r37 := ia_b r37
  have b_rkindG_296 := ia_b rkindG_296
  have b_rwordG_298 := ia_b rwordG_298
  have b_rnumberG_299 := ia_b rnumberG_299
  have b_rkindG_310 := ia_b rkindG_310
  have b_rwordG_312 := ia_b rwordG_312
  have b_rnumberG_313 := ia_b rnumberG_313
  have b_rkindG_334 := ia_b rkindG_334
  have b_rwordG_336 := ia_b rwordG_336
  have b_rnumberG_337 := ia_b rnumberG_337
  have b_rletters := Int64.toInt_lt rletters
  have b_w24 := Int64.toInt_lt w24
  have b_rlettersG_300 := Int64.toInt_lt rlettersG_300
  have b_rlettersG_314 := Int64.toInt_lt rlettersG_314
  have b_rlettersG_338 := Int64.toInt_lt rlettersG_338
  try have k_0 := ia_n 17 (by first | decide | omega)
  try have k_1 := ia_n (tK bt rlength rmostBytes (okV (bRest bt rlength rmostBytes 17 (tT bt rlength rmostBytes z16)))) (by first | decide | omega)
  try have k_2 := ia_n 59 (by first | decide | omega)
  try simp only [ia_lt, ia_le, ia_eq, ia_m1, ia_0, ia_1, ne_eq, true_and, and_true, false_and, and_false, or_false, false_or, or_true, true_or, not_true_eq_false, not_false_eq_true] at *
  all_goals omega
set_option maxRecDepth 20000 in
theorem lf_f_bkRead_29 (bt : Nat → Nat) (rlength : Nat) (rmostBytes : Nat) (rplace : Nat) (rkind : Int32) (rbegin : Nat) (rword : Int32) (rnumber : Int32) (rletters : Int64) (rtapeF : Nat → Int32) (boats : Nat) (boatNamesF : Nat → Int64) (gp : Nat) (gnu : Nat → Nat) (k17 : Nat) (k19 : Nat) (x20 : Int32) (k21 : Nat) (x22 : Int32) (x23 : Int32) (w24 : Int64) (z16 : Nat) (n32 : Nat) (r37 : Int32) (rplaceG_295 : Nat) (rkindG_296 : Int32) (rbeginG_297 : Nat) (rwordG_298 : Int32) (rnumberG_299 : Int32) (rlettersG_300 : Int64) (blineCountG_307 : Nat) (rplaceG_309 : Nat) (rkindG_310 : Int32) (rbeginG_311 : Nat) (rwordG_312 : Int32) (rnumberG_313 : Int32) (rlettersG_314 : Int64) (rplaceG_333 : Nat) (rkindG_334 : Int32) (rbeginG_335 : Nat) (rwordG_336 : Int32) (rnumberG_337 : Int32) (rlettersG_338 : Int64) (iv_rreader_0 : rlength ≤ 940) (iv_rreader_1 : rplace ≤ rlength) (iv_rreader_2 : rmostBytes ≤ 900) (iv_rreader_3 : rbegin ≤ 940) (hTC : TC bt rtapeF) (iv_a_5 : boats ≤ 6) (hRT : RT bt rlength rmostBytes gp rkind rbegin rplace rword rnumber rletters) (hNL : NL gnu 6 boats boatNamesF) (j27 : k17 ≤ 40) (j28 : k19 ≤ 940) (j29 : k21 ≤ 940) (j30 : k19 ≤ rlength) (jRT : RT bt rlength rmostBytes z16 x20 k21 k19 x22 x23 w24) (jB : bLoop bt rlength rmostBytes gnu boats 41 gp 0 = bLoop bt rlength rmostBytes gnu boats (41 - k17) z16 k17) (hm34 : 41 - k17 < n32 + 1) (c36 : ¬ x20 = 0) (p38 : r37 = x22) (v44 : r37 = nI 17) (c292 : k17 < 40) (p301 : rplaceG_295 ≤ rlength) (p302 : rbeginG_297 ≤ 940) (p303 : RT bt rlength rmostBytes (tT bt rlength rmostBytes z16) rkindG_296 rbeginG_297 rplaceG_295 rwordG_298 rnumberG_299 rlettersG_300) (p318 : blineCountG_307 ≤ 40) (p319 : rplaceG_309 ≤ rlength) (p320 : rbeginG_311 ≤ 940) (t321 : isO (bRest bt rlength rmostBytes 17 (tT bt rlength rmostBytes z16)) = true) (t322 : RT bt rlength rmostBytes (okV (bRest bt rlength rmostBytes 17 (tT bt rlength rmostBytes z16))) rkindG_310 rbeginG_311 rplaceG_309 rwordG_312 rnumberG_313 rlettersG_314) (t323 : blineCountG_307 = k17 + 1) (p342 : rplaceG_333 ≤ rlength) (p343 : rbeginG_335 ≤ 940) (t344 : nI (tK bt rlength rmostBytes (okV (bRest bt rlength rmostBytes 17 (tT bt rlength rmostBytes z16)))) = (nI 59)) (t345 : RT bt rlength rmostBytes (tT bt rlength rmostBytes (okV (bRest bt rlength rmostBytes 17 (tT bt rlength rmostBytes z16)))) rkindG_334 rbeginG_335 rplaceG_333 rwordG_336 rnumberG_337 rlettersG_338) : bLoop bt rlength rmostBytes gnu boats 41 gp 0 = bLoop bt rlength rmostBytes gnu boats (41 - blineCountG_307) (tT bt rlength rmostBytes (okV (bRest bt rlength rmostBytes 17 (tT bt rlength rmostBytes z16)))) blineCountG_307 := by
  have k0 : ¬ tK bt rlength rmostBytes z16 = 0 := fun z => absurd ((RT_k jRT (c := 0) (by decide)).mpr z) (by
    have kk0 := ia_n 0 (by decide)
    have b_rkind := ia_b rkind
    have b_rword := ia_b rword
    have b_rnumber := ia_b rnumber
    have b_x20 := ia_b x20
    have b_x22 := ia_b x22
    have b_x23 := ia_b x23
    have b_r37 := ia_b r37
    have b_rkindG_296 := ia_b rkindG_296
    have b_rwordG_298 := ia_b rwordG_298
    have b_rnumberG_299 := ia_b rnumberG_299
    have b_rkindG_310 := ia_b rkindG_310
    have b_rwordG_312 := ia_b rwordG_312
    have b_rnumberG_313 := ia_b rnumberG_313
    have b_rkindG_334 := ia_b rkindG_334
    have b_rwordG_336 := ia_b rwordG_336
    have b_rnumberG_337 := ia_b rnumberG_337
    have b_rletters := Int64.toInt_lt rletters
    have b_w24 := Int64.toInt_lt w24
    have b_rlettersG_300 := Int64.toInt_lt rlettersG_300
    have b_rlettersG_314 := Int64.toInt_lt rlettersG_314
    have b_rlettersG_338 := Int64.toInt_lt rlettersG_338
    try have k_0 := ia_n 17 (by first | decide | omega)
    try have k_1 := ia_n (tK bt rlength rmostBytes (okV (bRest bt rlength rmostBytes 17 (tT bt rlength rmostBytes z16)))) (by first | decide | omega)
    try have k_2 := ia_n 59 (by first | decide | omega)
    try simp only [ia_lt, ia_le, ia_eq, ia_m1, ia_0, ia_1, ne_eq, true_and, and_true, false_and, and_false, or_false, false_or, or_true, true_or, not_true_eq_false, not_false_eq_true] at *
    all_goals omega)
  have w9 : tW bt rlength rmostBytes z16 = 17 := (RT_w jRT (by decide)).mp (by
    have kk17 := ia_n 17 (by decide)
    have b_rkind := ia_b rkind
    have b_rword := ia_b rword
    have b_rnumber := ia_b rnumber
    have b_x20 := ia_b x20
    have b_x22 := ia_b x22
    have b_x23 := ia_b x23
    have b_r37 := ia_b r37
    have b_rkindG_296 := ia_b rkindG_296
    have b_rwordG_298 := ia_b rwordG_298
    have b_rnumberG_299 := ia_b rnumberG_299
    have b_rkindG_310 := ia_b rkindG_310
    have b_rwordG_312 := ia_b rwordG_312
    have b_rnumberG_313 := ia_b rnumberG_313
    have b_rkindG_334 := ia_b rkindG_334
    have b_rwordG_336 := ia_b rwordG_336
    have b_rnumberG_337 := ia_b rnumberG_337
    have b_rletters := Int64.toInt_lt rletters
    have b_w24 := Int64.toInt_lt w24
    have b_rlettersG_300 := Int64.toInt_lt rlettersG_300
    have b_rlettersG_314 := Int64.toInt_lt rlettersG_314
    have b_rlettersG_338 := Int64.toInt_lt rlettersG_338
    try have k_0 := ia_n 17 (by first | decide | omega)
    try have k_1 := ia_n (tK bt rlength rmostBytes (okV (bRest bt rlength rmostBytes 17 (tT bt rlength rmostBytes z16)))) (by first | decide | omega)
    try have k_2 := ia_n 59 (by first | decide | omega)
    try simp only [ia_lt, ia_le, ia_eq, ia_m1, ia_0, ia_1, ne_eq, true_and, and_true, false_and, and_false, or_false, false_or, or_true, true_or, not_true_eq_false, not_false_eq_true] at *
    all_goals omega)
  have hs : bSort (tW bt rlength rmostBytes z16) := by rw [w9]; decide
  have hn : tW bt rlength rmostBytes z16 = 31 → isFd gnu 6 boats (tC bt rlength z16) := fun z => absurd (w9.symm.trans z) (by decide)
  have hl := bL_o (ν := gnu) (L := boats) (k := k17) hs hn (by omega)
  rw [w9] at hl
  have hb := bE_o (B := bt) (n := rlength) (m := rmostBytes) (y := bRest bt rlength rmostBytes 17 (tT bt rlength rmostBytes z16)) (by assumption) (tk_c (by assumption) (by decide))
  have q := bP_step (ν := gnu) (L := boats) k0 (k := k17) (by omega) (by rw [hl, hb]; rfl)
  rw [hl, hb] at q
  rw [jB, q]
  subst_vars
  rfl
set_option maxRecDepth 20000 in
theorem lf_f_bkRead_30 (adK : Nat → Nat) (adV : Nat → Nat) (bk : Nat) (blines : Nat) (blineCount : Nat) (blived : Int32) (bwhyWrong : Int32) (bfineLines : Int32) (bdayThen : Int32) (beatenThen : Int32) (blinesF : Nat → Int32) (bt : Nat → Nat) (reader : Nat) (rtape : Nat) (rlength : Nat) (rmostBytes : Nat) (rplace : Nat) (rkind : Int32) (rbegin : Nat) (rword : Int32) (rnumber : Int32) (rletters : Int64) (rfaultKind : Int32) (rfaultPlace : Int32) (rtapeF : Nat → Int32) (a : Nat) (wide : Nat) (high : Nat) (heat : Int32) (cools : Int32) (skinHeat : Int32) (today : Int32) (stirs : Int32) (steps : Int32) (lumps : Nat) (boats : Nat) (thickness : Nat) (lumpNames : Nat) (lumpCells : Nat) (boatNames : Nat) (boatCells : Nat) (loads : Nat) (spoons : Nat) (spoonsLeft : Nat) (depths : Nat) (boatNamesF : Nat → Int64) (gp : Nat) (gnu : Nat → Nat) (k17 : Nat) (f18 : Nat → Int32) (k19 : Nat) (x20 : Int32) (k21 : Nat) (x22 : Int32) (x23 : Int32) (w24 : Int64) (x25 : Int32) (x26 : Int32) (z16 : Nat) (n32 : Nat) (r37 : Int32) (rplaceG_295 : Nat) (rkindG_296 : Int32) (rbeginG_297 : Nat) (rwordG_298 : Int32) (rnumberG_299 : Int32) (rlettersG_300 : Int64) (blineCountG_307 : Nat) (blinesG_308 : Nat → Int32) (rplaceG_309 : Nat) (rkindG_310 : Int32) (rbeginG_311 : Nat) (rwordG_312 : Int32) (rnumberG_313 : Int32) (rlettersG_314 : Int64) (rfaultKindG_315 : Int32) (rfaultPlaceG_316 : Int32) (rplaceG_333 : Nat) (rkindG_334 : Int32) (rbeginG_335 : Nat) (rwordG_336 : Int32) (rnumberG_337 : Int32) (rlettersG_338 : Int64) (rfaultKindG_339 : Int32) (rfaultPlaceG_340 : Int32) (iv_bbk_0 : blineCount ≤ 40) (iv_rreader_0 : rlength ≤ 940) (iv_rreader_1 : rplace ≤ rlength) (iv_rreader_2 : rmostBytes ≤ 900) (iv_rreader_3 : rbegin ≤ 940) (hTC : TC bt rtapeF) (iv_a_0 : 2 ≤ wide) (iv_a_1 : wide ≤ 6) (iv_a_2 : 2 ≤ high) (iv_a_3 : high ≤ 6) (iv_a_4 : lumps ≤ 6) (iv_a_5 : boats ≤ 6) (hRT : RT bt rlength rmostBytes gp rkind rbegin rplace rword rnumber rletters) (hNL : NL gnu 6 boats boatNamesF) (j27 : k17 ≤ 40) (j28 : k19 ≤ 940) (j29 : k21 ≤ 940) (j30 : k19 ≤ rlength) (jRT : RT bt rlength rmostBytes z16 x20 k21 k19 x22 x23 w24) (jB : bLoop bt rlength rmostBytes gnu boats 41 gp 0 = bLoop bt rlength rmostBytes gnu boats (41 - k17) z16 k17) (jFk : x25 = rfaultKind) (jFp : x26 = rfaultPlace) (hm34 : 41 - k17 < n32 + 1) (c36 : ¬ x20 = 0) (p38 : r37 = x22) (v44 : r37 = nI 17) (c292 : k17 < 40) (p301 : rplaceG_295 ≤ rlength) (p302 : rbeginG_297 ≤ 940) (p303 : RT bt rlength rmostBytes (tT bt rlength rmostBytes z16) rkindG_296 rbeginG_297 rplaceG_295 rwordG_298 rnumberG_299 rlettersG_300) (p318 : blineCountG_307 ≤ 40) (p319 : rplaceG_309 ≤ rlength) (p320 : rbeginG_311 ≤ 940) (t321 : isO (bRest bt rlength rmostBytes 17 (tT bt rlength rmostBytes z16)) = true) (t322 : RT bt rlength rmostBytes (okV (bRest bt rlength rmostBytes 17 (tT bt rlength rmostBytes z16))) rkindG_310 rbeginG_311 rplaceG_309 rwordG_312 rnumberG_313 rlettersG_314) (t323 : blineCountG_307 = k17 + 1) (t324 : rfaultKindG_315 = x25) (t325 : rfaultPlaceG_316 = x26) (p342 : rplaceG_333 ≤ rlength) (p343 : rbeginG_335 ≤ 940) (t344 : nI (tK bt rlength rmostBytes (okV (bRest bt rlength rmostBytes 17 (tT bt rlength rmostBytes z16)))) = (nI 59)) (t345 : RT bt rlength rmostBytes (tT bt rlength rmostBytes (okV (bRest bt rlength rmostBytes 17 (tT bt rlength rmostBytes z16)))) rkindG_334 rbeginG_335 rplaceG_333 rwordG_336 rnumberG_337 rlettersG_338) (t346 : rfaultKindG_339 = rfaultKindG_315) (t347 : rfaultPlaceG_340 = rfaultPlaceG_316) : rfaultKindG_339 = rfaultKind := by
  subst_vars
  first
    | rfl
    | assumption
set_option maxRecDepth 20000 in
theorem lf_f_bkRead_31 (adK : Nat → Nat) (adV : Nat → Nat) (bk : Nat) (blines : Nat) (blineCount : Nat) (blived : Int32) (bwhyWrong : Int32) (bfineLines : Int32) (bdayThen : Int32) (beatenThen : Int32) (blinesF : Nat → Int32) (bt : Nat → Nat) (reader : Nat) (rtape : Nat) (rlength : Nat) (rmostBytes : Nat) (rplace : Nat) (rkind : Int32) (rbegin : Nat) (rword : Int32) (rnumber : Int32) (rletters : Int64) (rfaultKind : Int32) (rfaultPlace : Int32) (rtapeF : Nat → Int32) (a : Nat) (wide : Nat) (high : Nat) (heat : Int32) (cools : Int32) (skinHeat : Int32) (today : Int32) (stirs : Int32) (steps : Int32) (lumps : Nat) (boats : Nat) (thickness : Nat) (lumpNames : Nat) (lumpCells : Nat) (boatNames : Nat) (boatCells : Nat) (loads : Nat) (spoons : Nat) (spoonsLeft : Nat) (depths : Nat) (boatNamesF : Nat → Int64) (gp : Nat) (gnu : Nat → Nat) (k17 : Nat) (f18 : Nat → Int32) (k19 : Nat) (x20 : Int32) (k21 : Nat) (x22 : Int32) (x23 : Int32) (w24 : Int64) (x25 : Int32) (x26 : Int32) (z16 : Nat) (n32 : Nat) (r37 : Int32) (rplaceG_295 : Nat) (rkindG_296 : Int32) (rbeginG_297 : Nat) (rwordG_298 : Int32) (rnumberG_299 : Int32) (rlettersG_300 : Int64) (blineCountG_307 : Nat) (blinesG_308 : Nat → Int32) (rplaceG_309 : Nat) (rkindG_310 : Int32) (rbeginG_311 : Nat) (rwordG_312 : Int32) (rnumberG_313 : Int32) (rlettersG_314 : Int64) (rfaultKindG_315 : Int32) (rfaultPlaceG_316 : Int32) (rplaceG_333 : Nat) (rkindG_334 : Int32) (rbeginG_335 : Nat) (rwordG_336 : Int32) (rnumberG_337 : Int32) (rlettersG_338 : Int64) (rfaultKindG_339 : Int32) (rfaultPlaceG_340 : Int32) (iv_bbk_0 : blineCount ≤ 40) (iv_rreader_0 : rlength ≤ 940) (iv_rreader_1 : rplace ≤ rlength) (iv_rreader_2 : rmostBytes ≤ 900) (iv_rreader_3 : rbegin ≤ 940) (hTC : TC bt rtapeF) (iv_a_0 : 2 ≤ wide) (iv_a_1 : wide ≤ 6) (iv_a_2 : 2 ≤ high) (iv_a_3 : high ≤ 6) (iv_a_4 : lumps ≤ 6) (iv_a_5 : boats ≤ 6) (hRT : RT bt rlength rmostBytes gp rkind rbegin rplace rword rnumber rletters) (hNL : NL gnu 6 boats boatNamesF) (j27 : k17 ≤ 40) (j28 : k19 ≤ 940) (j29 : k21 ≤ 940) (j30 : k19 ≤ rlength) (jRT : RT bt rlength rmostBytes z16 x20 k21 k19 x22 x23 w24) (jB : bLoop bt rlength rmostBytes gnu boats 41 gp 0 = bLoop bt rlength rmostBytes gnu boats (41 - k17) z16 k17) (jFk : x25 = rfaultKind) (jFp : x26 = rfaultPlace) (hm34 : 41 - k17 < n32 + 1) (c36 : ¬ x20 = 0) (p38 : r37 = x22) (v44 : r37 = nI 17) (c292 : k17 < 40) (p301 : rplaceG_295 ≤ rlength) (p302 : rbeginG_297 ≤ 940) (p303 : RT bt rlength rmostBytes (tT bt rlength rmostBytes z16) rkindG_296 rbeginG_297 rplaceG_295 rwordG_298 rnumberG_299 rlettersG_300) (p318 : blineCountG_307 ≤ 40) (p319 : rplaceG_309 ≤ rlength) (p320 : rbeginG_311 ≤ 940) (t321 : isO (bRest bt rlength rmostBytes 17 (tT bt rlength rmostBytes z16)) = true) (t322 : RT bt rlength rmostBytes (okV (bRest bt rlength rmostBytes 17 (tT bt rlength rmostBytes z16))) rkindG_310 rbeginG_311 rplaceG_309 rwordG_312 rnumberG_313 rlettersG_314) (t323 : blineCountG_307 = k17 + 1) (t324 : rfaultKindG_315 = x25) (t325 : rfaultPlaceG_316 = x26) (p342 : rplaceG_333 ≤ rlength) (p343 : rbeginG_335 ≤ 940) (t344 : nI (tK bt rlength rmostBytes (okV (bRest bt rlength rmostBytes 17 (tT bt rlength rmostBytes z16)))) = (nI 59)) (t345 : RT bt rlength rmostBytes (tT bt rlength rmostBytes (okV (bRest bt rlength rmostBytes 17 (tT bt rlength rmostBytes z16)))) rkindG_334 rbeginG_335 rplaceG_333 rwordG_336 rnumberG_337 rlettersG_338) (t346 : rfaultKindG_339 = rfaultKindG_315) (t347 : rfaultPlaceG_340 = rfaultPlaceG_316) : rfaultPlaceG_340 = rfaultPlace := by
  subst_vars
  first
    | rfl
    | assumption
set_option maxRecDepth 20000 in
theorem lf_f_bkRead_32 (bt : Nat → Nat) (rlength : Nat) (rmostBytes : Nat) (rplace : Nat) (rkind : Int32) (rbegin : Nat) (rword : Int32) (rnumber : Int32) (rletters : Int64) (rtapeF : Nat → Int32) (boats : Nat) (boatNamesF : Nat → Int64) (gp : Nat) (gnu : Nat → Nat) (k17 : Nat) (k19 : Nat) (x20 : Int32) (k21 : Nat) (x22 : Int32) (x23 : Int32) (w24 : Int64) (z16 : Nat) (n32 : Nat) (r37 : Int32) (rplaceG_295 : Nat) (rkindG_296 : Int32) (rbeginG_297 : Nat) (rwordG_298 : Int32) (rnumberG_299 : Int32) (rlettersG_300 : Int64) (blineCountG_307 : Nat) (rplaceG_309 : Nat) (rkindG_310 : Int32) (rbeginG_311 : Nat) (rwordG_312 : Int32) (rnumberG_313 : Int32) (rlettersG_314 : Int64) (rplaceG_333 : Nat) (rkindG_334 : Int32) (rbeginG_335 : Nat) (rwordG_336 : Int32) (rnumberG_337 : Int32) (rlettersG_338 : Int64) (iv_rreader_0 : rlength ≤ 940) (iv_rreader_1 : rplace ≤ rlength) (iv_rreader_2 : rmostBytes ≤ 900) (iv_rreader_3 : rbegin ≤ 940) (hTC : TC bt rtapeF) (iv_a_5 : boats ≤ 6) (hRT : RT bt rlength rmostBytes gp rkind rbegin rplace rword rnumber rletters) (hNL : NL gnu 6 boats boatNamesF) (j27 : k17 ≤ 40) (j28 : k19 ≤ 940) (j29 : k21 ≤ 940) (j30 : k19 ≤ rlength) (jRT : RT bt rlength rmostBytes z16 x20 k21 k19 x22 x23 w24) (jB : bLoop bt rlength rmostBytes gnu boats 41 gp 0 = bLoop bt rlength rmostBytes gnu boats (41 - k17) z16 k17) (hm34 : 41 - k17 < n32 + 1) (c36 : ¬ x20 = 0) (p38 : r37 = x22) (v44 : r37 = nI 17) (c292 : k17 < 40) (p301 : rplaceG_295 ≤ rlength) (p302 : rbeginG_297 ≤ 940) (p303 : RT bt rlength rmostBytes (tT bt rlength rmostBytes z16) rkindG_296 rbeginG_297 rplaceG_295 rwordG_298 rnumberG_299 rlettersG_300) (p318 : blineCountG_307 ≤ 40) (p319 : rplaceG_309 ≤ rlength) (p320 : rbeginG_311 ≤ 940) (t321 : isO (bRest bt rlength rmostBytes 17 (tT bt rlength rmostBytes z16)) = true) (t322 : RT bt rlength rmostBytes (okV (bRest bt rlength rmostBytes 17 (tT bt rlength rmostBytes z16))) rkindG_310 rbeginG_311 rplaceG_309 rwordG_312 rnumberG_313 rlettersG_314) (t323 : blineCountG_307 = k17 + 1) (p342 : rplaceG_333 ≤ rlength) (p343 : rbeginG_335 ≤ 940) (t344 : nI (tK bt rlength rmostBytes (okV (bRest bt rlength rmostBytes 17 (tT bt rlength rmostBytes z16)))) = (nI 59)) (t345 : RT bt rlength rmostBytes (tT bt rlength rmostBytes (okV (bRest bt rlength rmostBytes 17 (tT bt rlength rmostBytes z16)))) rkindG_334 rbeginG_335 rplaceG_333 rwordG_336 rnumberG_337 rlettersG_338) : 41 - blineCountG_307 < n32 := by
  have b_rkind := ia_b rkind
  have b_rword := ia_b rword
  have b_rnumber := ia_b rnumber
  have b_x20 := ia_b x20
  have b_x22 := ia_b x22
  have b_x23 := ia_b x23
  have b_r37 := ia_b r37
  have b_rkindG_296 := ia_b rkindG_296
  have b_rwordG_298 := ia_b rwordG_298
  have b_rnumberG_299 := ia_b rnumberG_299
  have b_rkindG_310 := ia_b rkindG_310
  have b_rwordG_312 := ia_b rwordG_312
  have b_rnumberG_313 := ia_b rnumberG_313
  have b_rkindG_334 := ia_b rkindG_334
  have b_rwordG_336 := ia_b rwordG_336
  have b_rnumberG_337 := ia_b rnumberG_337
  have b_rletters := Int64.toInt_lt rletters
  have b_w24 := Int64.toInt_lt w24
  have b_rlettersG_300 := Int64.toInt_lt rlettersG_300
  have b_rlettersG_314 := Int64.toInt_lt rlettersG_314
  have b_rlettersG_338 := Int64.toInt_lt rlettersG_338
  try have k_0 := ia_n 17 (by first | decide | omega)
  try have k_1 := ia_n (tK bt rlength rmostBytes (okV (bRest bt rlength rmostBytes 17 (tT bt rlength rmostBytes z16)))) (by first | decide | omega)
  try have k_2 := ia_n 59 (by first | decide | omega)
  try simp only [ia_lt, ia_le, ia_eq, ia_m1, ia_0, ia_1, ne_eq, true_and, and_true, false_and, and_false, or_false, false_or, or_true, true_or, not_true_eq_false, not_false_eq_true] at *
  all_goals omega
set_option maxRecDepth 20000 in
theorem lf_f_bkRead_33 (bt : Nat → Nat) (rlength : Nat) (rmostBytes : Nat) (rplace : Nat) (rkind : Int32) (rbegin : Nat) (rword : Int32) (rnumber : Int32) (rletters : Int64) (rfaultKind : Int32) (rfaultPlace : Int32) (rtapeF : Nat → Int32) (boats : Nat) (boatNamesF : Nat → Int64) (gp : Nat) (gnu : Nat → Nat) (k17 : Nat) (k19 : Nat) (x20 : Int32) (k21 : Nat) (x22 : Int32) (x23 : Int32) (w24 : Int64) (x25 : Int32) (x26 : Int32) (z16 : Nat) (n32 : Nat) (r37 : Int32) (rplaceG_295 : Nat) (rkindG_296 : Int32) (rbeginG_297 : Nat) (rwordG_298 : Int32) (rnumberG_299 : Int32) (rlettersG_300 : Int64) (blineCountG_307 : Nat) (rplaceG_309 : Nat) (rkindG_310 : Int32) (rbeginG_311 : Nat) (rwordG_312 : Int32) (rnumberG_313 : Int32) (rlettersG_314 : Int64) (rfaultKindG_315 : Int32) (rfaultPlaceG_316 : Int32) (rplaceG_333 : Nat) (rfaultKindG_339 : Int32) (rfaultPlaceG_340 : Int32) (iv_rreader_0 : rlength ≤ 940) (iv_rreader_1 : rplace ≤ rlength) (iv_rreader_2 : rmostBytes ≤ 900) (iv_rreader_3 : rbegin ≤ 940) (hTC : TC bt rtapeF) (iv_a_5 : boats ≤ 6) (hRT : RT bt rlength rmostBytes gp rkind rbegin rplace rword rnumber rletters) (hNL : NL gnu 6 boats boatNamesF) (j27 : k17 ≤ 40) (j28 : k19 ≤ 940) (j29 : k21 ≤ 940) (j30 : k19 ≤ rlength) (jRT : RT bt rlength rmostBytes z16 x20 k21 k19 x22 x23 w24) (jB : bLoop bt rlength rmostBytes gnu boats 41 gp 0 = bLoop bt rlength rmostBytes gnu boats (41 - k17) z16 k17) (jFk : x25 = rfaultKind) (jFp : x26 = rfaultPlace) (hm34 : 41 - k17 < n32 + 1) (c36 : ¬ x20 = 0) (p38 : r37 = x22) (v44 : r37 = nI 17) (c292 : k17 < 40) (p301 : rplaceG_295 ≤ rlength) (p302 : rbeginG_297 ≤ 940) (p303 : RT bt rlength rmostBytes (tT bt rlength rmostBytes z16) rkindG_296 rbeginG_297 rplaceG_295 rwordG_298 rnumberG_299 rlettersG_300) (p318 : blineCountG_307 ≤ 40) (p319 : rplaceG_309 ≤ rlength) (p320 : rbeginG_311 ≤ 940) (t321 : isO (bRest bt rlength rmostBytes 17 (tT bt rlength rmostBytes z16)) = true) (t322 : RT bt rlength rmostBytes (okV (bRest bt rlength rmostBytes 17 (tT bt rlength rmostBytes z16))) rkindG_310 rbeginG_311 rplaceG_309 rwordG_312 rnumberG_313 rlettersG_314) (t323 : blineCountG_307 = k17 + 1) (t324 : rfaultKindG_315 = x25) (t325 : rfaultPlaceG_316 = x26) (p342 : rplaceG_333 ≤ rlength) (t348 : ¬ nI (tK bt rlength rmostBytes (okV (bRest bt rlength rmostBytes 17 (tT bt rlength rmostBytes z16)))) = (nI 59)) (t349 : rfaultKindG_339 = nI 1) (t350 : rfaultPlaceG_340 = nI (tF bt rlength rmostBytes (okV (bRest bt rlength rmostBytes 17 (tT bt rlength rmostBytes z16))))) : ((nI 0) = nI 1 ∧ (isO (bLoop bt rlength rmostBytes gnu boats 41 gp 0) = true ∧ rfaultKindG_339 = rfaultKind ∧ rfaultPlaceG_340 = rfaultPlace)) ∨ ((nI 0) = nI 0 ∧ (isO (bLoop bt rlength rmostBytes gnu boats 41 gp 0) = false ∧ rfaultKindG_339 = nI (erA (bLoop bt rlength rmostBytes gnu boats 41 gp 0)) ∧ rfaultPlaceG_340 = nI (erB (bLoop bt rlength rmostBytes gnu boats 41 gp 0)))) := by
  have k0 : ¬ tK bt rlength rmostBytes z16 = 0 := fun z => absurd ((RT_k jRT (c := 0) (by decide)).mpr z) (by
    have kk0 := ia_n 0 (by decide)
    have b_rkind := ia_b rkind
    have b_rword := ia_b rword
    have b_rnumber := ia_b rnumber
    have b_rfaultKind := ia_b rfaultKind
    have b_rfaultPlace := ia_b rfaultPlace
    have b_x20 := ia_b x20
    have b_x22 := ia_b x22
    have b_x23 := ia_b x23
    have b_x25 := ia_b x25
    have b_x26 := ia_b x26
    have b_r37 := ia_b r37
    have b_rkindG_296 := ia_b rkindG_296
    have b_rwordG_298 := ia_b rwordG_298
    have b_rnumberG_299 := ia_b rnumberG_299
    have b_rkindG_310 := ia_b rkindG_310
    have b_rwordG_312 := ia_b rwordG_312
    have b_rnumberG_313 := ia_b rnumberG_313
    have b_rfaultKindG_315 := ia_b rfaultKindG_315
    have b_rfaultPlaceG_316 := ia_b rfaultPlaceG_316
    have b_rfaultKindG_339 := ia_b rfaultKindG_339
    have b_rfaultPlaceG_340 := ia_b rfaultPlaceG_340
    have b_rletters := Int64.toInt_lt rletters
    have b_w24 := Int64.toInt_lt w24
    have b_rlettersG_300 := Int64.toInt_lt rlettersG_300
    have b_rlettersG_314 := Int64.toInt_lt rlettersG_314
    try have k_0 := ia_n 17 (by first | decide | omega)
    try have k_1 := ia_n (tK bt rlength rmostBytes (okV (bRest bt rlength rmostBytes 17 (tT bt rlength rmostBytes z16)))) (by first | decide | omega)
    try have k_2 := ia_n 59 (by first | decide | omega)
    try have k_3 := ia_n 1 (by first | decide | omega)
    try have k_4 := ia_n (tF bt rlength rmostBytes (okV (bRest bt rlength rmostBytes 17 (tT bt rlength rmostBytes z16)))) (by first | decide | omega)
    try have k_5 := ia_n 0 (by first | decide | omega)
    try have k_6 := ia_n (erA (bLoop bt rlength rmostBytes gnu boats 41 gp 0)) (by first | decide | omega)
    try have k_7 := ia_n (erB (bLoop bt rlength rmostBytes gnu boats 41 gp 0)) (by first | decide | omega)
    try simp only [ia_lt, ia_le, ia_eq, ia_m1, ia_0, ia_1, ne_eq, true_and, and_true, false_and, and_false, or_false, false_or, or_true, true_or, not_true_eq_false, not_false_eq_true] at *
    all_goals omega)
  have w9 : tW bt rlength rmostBytes z16 = 17 := (RT_w jRT (by decide)).mp (by
    have kk17 := ia_n 17 (by decide)
    have b_rkind := ia_b rkind
    have b_rword := ia_b rword
    have b_rnumber := ia_b rnumber
    have b_rfaultKind := ia_b rfaultKind
    have b_rfaultPlace := ia_b rfaultPlace
    have b_x20 := ia_b x20
    have b_x22 := ia_b x22
    have b_x23 := ia_b x23
    have b_x25 := ia_b x25
    have b_x26 := ia_b x26
    have b_r37 := ia_b r37
    have b_rkindG_296 := ia_b rkindG_296
    have b_rwordG_298 := ia_b rwordG_298
    have b_rnumberG_299 := ia_b rnumberG_299
    have b_rkindG_310 := ia_b rkindG_310
    have b_rwordG_312 := ia_b rwordG_312
    have b_rnumberG_313 := ia_b rnumberG_313
    have b_rfaultKindG_315 := ia_b rfaultKindG_315
    have b_rfaultPlaceG_316 := ia_b rfaultPlaceG_316
    have b_rfaultKindG_339 := ia_b rfaultKindG_339
    have b_rfaultPlaceG_340 := ia_b rfaultPlaceG_340
    have b_rletters := Int64.toInt_lt rletters
    have b_w24 := Int64.toInt_lt w24
    have b_rlettersG_300 := Int64.toInt_lt rlettersG_300
    have b_rlettersG_314 := Int64.toInt_lt rlettersG_314
    try have k_0 := ia_n 17 (by first | decide | omega)
    try have k_1 := ia_n (tK bt rlength rmostBytes (okV (bRest bt rlength rmostBytes 17 (tT bt rlength rmostBytes z16)))) (by first | decide | omega)
    try have k_2 := ia_n 59 (by first | decide | omega)
    try have k_3 := ia_n 1 (by first | decide | omega)
    try have k_4 := ia_n (tF bt rlength rmostBytes (okV (bRest bt rlength rmostBytes 17 (tT bt rlength rmostBytes z16)))) (by first | decide | omega)
    try have k_5 := ia_n 0 (by first | decide | omega)
    try have k_6 := ia_n (erA (bLoop bt rlength rmostBytes gnu boats 41 gp 0)) (by first | decide | omega)
    try have k_7 := ia_n (erB (bLoop bt rlength rmostBytes gnu boats 41 gp 0)) (by first | decide | omega)
    try simp only [ia_lt, ia_le, ia_eq, ia_m1, ia_0, ia_1, ne_eq, true_and, and_true, false_and, and_false, or_false, false_or, or_true, true_or, not_true_eq_false, not_false_eq_true] at *
    all_goals omega)
  have hs : bSort (tW bt rlength rmostBytes z16) := by rw [w9]; decide
  have hn : tW bt rlength rmostBytes z16 = 31 → isFd gnu 6 boats (tC bt rlength z16) := fun z => absurd (w9.symm.trans z) (by decide)
  have hl := bL_o (ν := gnu) (L := boats) (k := k17) hs hn (by omega)
  rw [w9] at hl
  have hb := bE_s (B := bt) (n := rlength) (m := rmostBytes) (y := bRest bt rlength rmostBytes 17 (tT bt rlength rmostBytes z16)) (by assumption) (tk_d (by assumption))
  have q := bP_err (ν := gnu) (L := boats) k0 (k := k17) (by omega) (by rw [hl, hb]; rfl)
  rw [hl, hb] at q
  rw [jB, q]
  exact Or.inr ⟨rfl, rfl, ‹_›, ‹_›⟩
set_option maxRecDepth 20000 in
theorem lf_f_bkRead_34 (bt : Nat → Nat) (rlength : Nat) (rmostBytes : Nat) (rplace : Nat) (rkind : Int32) (rbegin : Nat) (rword : Int32) (rnumber : Int32) (rletters : Int64) (rfaultKind : Int32) (rfaultPlace : Int32) (rtapeF : Nat → Int32) (boats : Nat) (boatNamesF : Nat → Int64) (gp : Nat) (gnu : Nat → Nat) (k17 : Nat) (k19 : Nat) (x20 : Int32) (k21 : Nat) (x22 : Int32) (x23 : Int32) (w24 : Int64) (x25 : Int32) (x26 : Int32) (z16 : Nat) (n32 : Nat) (r37 : Int32) (rplaceG_295 : Nat) (rkindG_296 : Int32) (rbeginG_297 : Nat) (rwordG_298 : Int32) (rnumberG_299 : Int32) (rlettersG_300 : Int64) (rplaceG_309 : Nat) (rfaultKindG_315 : Int32) (rfaultPlaceG_316 : Int32) (iv_rreader_0 : rlength ≤ 940) (iv_rreader_1 : rplace ≤ rlength) (iv_rreader_2 : rmostBytes ≤ 900) (iv_rreader_3 : rbegin ≤ 940) (hTC : TC bt rtapeF) (iv_a_5 : boats ≤ 6) (hRT : RT bt rlength rmostBytes gp rkind rbegin rplace rword rnumber rletters) (hNL : NL gnu 6 boats boatNamesF) (j27 : k17 ≤ 40) (j28 : k19 ≤ 940) (j29 : k21 ≤ 940) (j30 : k19 ≤ rlength) (jRT : RT bt rlength rmostBytes z16 x20 k21 k19 x22 x23 w24) (jB : bLoop bt rlength rmostBytes gnu boats 41 gp 0 = bLoop bt rlength rmostBytes gnu boats (41 - k17) z16 k17) (jFk : x25 = rfaultKind) (jFp : x26 = rfaultPlace) (hm34 : 41 - k17 < n32 + 1) (c36 : ¬ x20 = 0) (p38 : r37 = x22) (v44 : r37 = nI 17) (c292 : k17 < 40) (p301 : rplaceG_295 ≤ rlength) (p302 : rbeginG_297 ≤ 940) (p303 : RT bt rlength rmostBytes (tT bt rlength rmostBytes z16) rkindG_296 rbeginG_297 rplaceG_295 rwordG_298 rnumberG_299 rlettersG_300) (p319 : rplaceG_309 ≤ rlength) (t326 : isO (bRest bt rlength rmostBytes 17 (tT bt rlength rmostBytes z16)) = false) (t327 : rfaultKindG_315 = nI (erA (bRest bt rlength rmostBytes 17 (tT bt rlength rmostBytes z16)))) (t328 : rfaultPlaceG_316 = nI (erB (bRest bt rlength rmostBytes 17 (tT bt rlength rmostBytes z16)))) : ((nI 0) = nI 1 ∧ (isO (bLoop bt rlength rmostBytes gnu boats 41 gp 0) = true ∧ rfaultKindG_315 = rfaultKind ∧ rfaultPlaceG_316 = rfaultPlace)) ∨ ((nI 0) = nI 0 ∧ (isO (bLoop bt rlength rmostBytes gnu boats 41 gp 0) = false ∧ rfaultKindG_315 = nI (erA (bLoop bt rlength rmostBytes gnu boats 41 gp 0)) ∧ rfaultPlaceG_316 = nI (erB (bLoop bt rlength rmostBytes gnu boats 41 gp 0)))) := by
  have k0 : ¬ tK bt rlength rmostBytes z16 = 0 := fun z => absurd ((RT_k jRT (c := 0) (by decide)).mpr z) (by
    have kk0 := ia_n 0 (by decide)
    have b_rkind := ia_b rkind
    have b_rword := ia_b rword
    have b_rnumber := ia_b rnumber
    have b_rfaultKind := ia_b rfaultKind
    have b_rfaultPlace := ia_b rfaultPlace
    have b_x20 := ia_b x20
    have b_x22 := ia_b x22
    have b_x23 := ia_b x23
    have b_x25 := ia_b x25
    have b_x26 := ia_b x26
    have b_r37 := ia_b r37
    have b_rkindG_296 := ia_b rkindG_296
    have b_rwordG_298 := ia_b rwordG_298
    have b_rnumberG_299 := ia_b rnumberG_299
    have b_rfaultKindG_315 := ia_b rfaultKindG_315
    have b_rfaultPlaceG_316 := ia_b rfaultPlaceG_316
    have b_rletters := Int64.toInt_lt rletters
    have b_w24 := Int64.toInt_lt w24
    have b_rlettersG_300 := Int64.toInt_lt rlettersG_300
    try have k_0 := ia_n 17 (by first | decide | omega)
    try have k_1 := ia_n (erA (bRest bt rlength rmostBytes 17 (tT bt rlength rmostBytes z16))) (by first | decide | omega)
    try have k_2 := ia_n (erB (bRest bt rlength rmostBytes 17 (tT bt rlength rmostBytes z16))) (by first | decide | omega)
    try have k_3 := ia_n 0 (by first | decide | omega)
    try have k_4 := ia_n 1 (by first | decide | omega)
    try have k_5 := ia_n (erA (bLoop bt rlength rmostBytes gnu boats 41 gp 0)) (by first | decide | omega)
    try have k_6 := ia_n (erB (bLoop bt rlength rmostBytes gnu boats 41 gp 0)) (by first | decide | omega)
    try simp only [ia_lt, ia_le, ia_eq, ia_m1, ia_0, ia_1, ne_eq, true_and, and_true, false_and, and_false, or_false, false_or, or_true, true_or, not_true_eq_false, not_false_eq_true] at *
    all_goals omega)
  have w9 : tW bt rlength rmostBytes z16 = 17 := (RT_w jRT (by decide)).mp (by
    have kk17 := ia_n 17 (by decide)
    have b_rkind := ia_b rkind
    have b_rword := ia_b rword
    have b_rnumber := ia_b rnumber
    have b_rfaultKind := ia_b rfaultKind
    have b_rfaultPlace := ia_b rfaultPlace
    have b_x20 := ia_b x20
    have b_x22 := ia_b x22
    have b_x23 := ia_b x23
    have b_x25 := ia_b x25
    have b_x26 := ia_b x26
    have b_r37 := ia_b r37
    have b_rkindG_296 := ia_b rkindG_296
    have b_rwordG_298 := ia_b rwordG_298
    have b_rnumberG_299 := ia_b rnumberG_299
    have b_rfaultKindG_315 := ia_b rfaultKindG_315
    have b_rfaultPlaceG_316 := ia_b rfaultPlaceG_316
    have b_rletters := Int64.toInt_lt rletters
    have b_w24 := Int64.toInt_lt w24
    have b_rlettersG_300 := Int64.toInt_lt rlettersG_300
    try have k_0 := ia_n 17 (by first | decide | omega)
    try have k_1 := ia_n (erA (bRest bt rlength rmostBytes 17 (tT bt rlength rmostBytes z16))) (by first | decide | omega)
    try have k_2 := ia_n (erB (bRest bt rlength rmostBytes 17 (tT bt rlength rmostBytes z16))) (by first | decide | omega)
    try have k_3 := ia_n 0 (by first | decide | omega)
    try have k_4 := ia_n 1 (by first | decide | omega)
    try have k_5 := ia_n (erA (bLoop bt rlength rmostBytes gnu boats 41 gp 0)) (by first | decide | omega)
    try have k_6 := ia_n (erB (bLoop bt rlength rmostBytes gnu boats 41 gp 0)) (by first | decide | omega)
    try simp only [ia_lt, ia_le, ia_eq, ia_m1, ia_0, ia_1, ne_eq, true_and, and_true, false_and, and_false, or_false, false_or, or_true, true_or, not_true_eq_false, not_false_eq_true] at *
    all_goals omega)
  have hs : bSort (tW bt rlength rmostBytes z16) := by rw [w9]; decide
  have hn : tW bt rlength rmostBytes z16 = 31 → isFd gnu 6 boats (tC bt rlength z16) := fun z => absurd (w9.symm.trans z) (by decide)
  have hl := bL_o (ν := gnu) (L := boats) (k := k17) hs hn (by omega)
  rw [w9] at hl
  have hb := bE_e (B := bt) (n := rlength) (m := rmostBytes) (y := bRest bt rlength rmostBytes 17 (tT bt rlength rmostBytes z16)) (by assumption)
  have q := bP_err (ν := gnu) (L := boats) k0 (k := k17) (by omega) (by rw [hl, hb]; rfl)
  rw [hl, hb] at q
  rw [jB, q]
  exact Or.inr ⟨rfl, rfl, ‹_›, ‹_›⟩
set_option maxRecDepth 20000 in
theorem lf_f_bkRead_35 (bt : Nat → Nat) (rlength : Nat) (rmostBytes : Nat) (rplace : Nat) (rkind : Int32) (rbegin : Nat) (rword : Int32) (rnumber : Int32) (rletters : Int64) (rfaultKind : Int32) (rfaultPlace : Int32) (rtapeF : Nat → Int32) (boats : Nat) (boatNamesF : Nat → Int64) (gp : Nat) (gnu : Nat → Nat) (k17 : Nat) (k19 : Nat) (x20 : Int32) (k21 : Nat) (x22 : Int32) (x23 : Int32) (w24 : Int64) (x25 : Int32) (x26 : Int32) (z16 : Nat) (n32 : Nat) (r37 : Int32) (rfaultKindG_357 : Int32) (rfaultPlaceG_358 : Int32) (iv_rreader_0 : rlength ≤ 940) (iv_rreader_1 : rplace ≤ rlength) (iv_rreader_2 : rmostBytes ≤ 900) (iv_rreader_3 : rbegin ≤ 940) (hTC : TC bt rtapeF) (iv_a_5 : boats ≤ 6) (hRT : RT bt rlength rmostBytes gp rkind rbegin rplace rword rnumber rletters) (hNL : NL gnu 6 boats boatNamesF) (j27 : k17 ≤ 40) (j28 : k19 ≤ 940) (j29 : k21 ≤ 940) (j30 : k19 ≤ rlength) (jRT : RT bt rlength rmostBytes z16 x20 k21 k19 x22 x23 w24) (jB : bLoop bt rlength rmostBytes gnu boats 41 gp 0 = bLoop bt rlength rmostBytes gnu boats (41 - k17) z16 k17) (jFk : x25 = rfaultKind) (jFp : x26 = rfaultPlace) (hm34 : 41 - k17 < n32 + 1) (c36 : ¬ x20 = 0) (p38 : r37 = x22) (v44 : r37 = nI 17) (c292 : 40 ≤ k17) (p360 : rfaultKindG_357 = (nI 4)) (p361 : rfaultPlaceG_358 = nI k21) : ((nI 0) = nI 1 ∧ (isO (bLoop bt rlength rmostBytes gnu boats 41 gp 0) = true ∧ rfaultKindG_357 = rfaultKind ∧ rfaultPlaceG_358 = rfaultPlace)) ∨ ((nI 0) = nI 0 ∧ (isO (bLoop bt rlength rmostBytes gnu boats 41 gp 0) = false ∧ rfaultKindG_357 = nI (erA (bLoop bt rlength rmostBytes gnu boats 41 gp 0)) ∧ rfaultPlaceG_358 = nI (erB (bLoop bt rlength rmostBytes gnu boats 41 gp 0)))) := by
  have k0 : ¬ tK bt rlength rmostBytes z16 = 0 := fun z => absurd ((RT_k jRT (c := 0) (by decide)).mpr z) (by
    have kk0 := ia_n 0 (by decide)
    have b_rkind := ia_b rkind
    have b_rword := ia_b rword
    have b_rnumber := ia_b rnumber
    have b_rfaultKind := ia_b rfaultKind
    have b_rfaultPlace := ia_b rfaultPlace
    have b_x20 := ia_b x20
    have b_x22 := ia_b x22
    have b_x23 := ia_b x23
    have b_x25 := ia_b x25
    have b_x26 := ia_b x26
    have b_r37 := ia_b r37
    have b_rfaultKindG_357 := ia_b rfaultKindG_357
    have b_rfaultPlaceG_358 := ia_b rfaultPlaceG_358
    have b_rletters := Int64.toInt_lt rletters
    have b_w24 := Int64.toInt_lt w24
    try have k_0 := ia_n 17 (by first | decide | omega)
    try have k_1 := ia_n 4 (by first | decide | omega)
    try have k_2 := ia_n k21 (by first | decide | omega)
    try have k_3 := ia_n 0 (by first | decide | omega)
    try have k_4 := ia_n 1 (by first | decide | omega)
    try have k_5 := ia_n (erA (bLoop bt rlength rmostBytes gnu boats 41 gp 0)) (by first | decide | omega)
    try have k_6 := ia_n (erB (bLoop bt rlength rmostBytes gnu boats 41 gp 0)) (by first | decide | omega)
    try simp only [ia_lt, ia_le, ia_eq, ia_m1, ia_0, ia_1, ne_eq, true_and, and_true, false_and, and_false, or_false, false_or, or_true, true_or, not_true_eq_false, not_false_eq_true] at *
    all_goals omega)
  have w9 : tW bt rlength rmostBytes z16 = 17 := (RT_w jRT (by decide)).mp (by
    have kk17 := ia_n 17 (by decide)
    have b_rkind := ia_b rkind
    have b_rword := ia_b rword
    have b_rnumber := ia_b rnumber
    have b_rfaultKind := ia_b rfaultKind
    have b_rfaultPlace := ia_b rfaultPlace
    have b_x20 := ia_b x20
    have b_x22 := ia_b x22
    have b_x23 := ia_b x23
    have b_x25 := ia_b x25
    have b_x26 := ia_b x26
    have b_r37 := ia_b r37
    have b_rfaultKindG_357 := ia_b rfaultKindG_357
    have b_rfaultPlaceG_358 := ia_b rfaultPlaceG_358
    have b_rletters := Int64.toInt_lt rletters
    have b_w24 := Int64.toInt_lt w24
    try have k_0 := ia_n 17 (by first | decide | omega)
    try have k_1 := ia_n 4 (by first | decide | omega)
    try have k_2 := ia_n k21 (by first | decide | omega)
    try have k_3 := ia_n 0 (by first | decide | omega)
    try have k_4 := ia_n 1 (by first | decide | omega)
    try have k_5 := ia_n (erA (bLoop bt rlength rmostBytes gnu boats 41 gp 0)) (by first | decide | omega)
    try have k_6 := ia_n (erB (bLoop bt rlength rmostBytes gnu boats 41 gp 0)) (by first | decide | omega)
    try simp only [ia_lt, ia_le, ia_eq, ia_m1, ia_0, ia_1, ne_eq, true_and, and_true, false_and, and_false, or_false, false_or, or_true, true_or, not_true_eq_false, not_false_eq_true] at *
    all_goals omega)
  have hs : bSort (tW bt rlength rmostBytes z16) := by rw [w9]; decide
  have hn : tW bt rlength rmostBytes z16 = 31 → isFd gnu 6 boats (tC bt rlength z16) := fun z => absurd (w9.symm.trans z) (by decide)
  have hl := bL_4 (ν := gnu) (L := boats) (k := k17) hs hn (by omega)
  have q := bP_err (ν := gnu) (L := boats) k0 (k := k17) (by omega) (by rw [hl]; rfl)
  rw [hl] at q
  rw [jB, q]
  exact Or.inr ⟨rfl, rfl, ‹_›, (Eq.trans (by assumption) (congrArg nI jRT.2.1))⟩
set_option maxRecDepth 20000 in
theorem lf_f_bkRead_36 (bt : Nat → Nat) (rlength : Nat) (rmostBytes : Nat) (rplace : Nat) (rkind : Int32) (rbegin : Nat) (rword : Int32) (rnumber : Int32) (rletters : Int64) (rtapeF : Nat → Int32) (boats : Nat) (boatNamesF : Nat → Int64) (gp : Nat) (gnu : Nat → Nat) (k17 : Nat) (k19 : Nat) (x20 : Int32) (k21 : Nat) (x22 : Int32) (x23 : Int32) (w24 : Int64) (z16 : Nat) (n32 : Nat) (r37 : Int32) (rplaceG_368 : Nat) (rkindG_369 : Int32) (rbeginG_370 : Nat) (rwordG_371 : Int32) (rnumberG_372 : Int32) (rlettersG_373 : Int64) (blineCountG_380 : Nat) (rplaceG_382 : Nat) (rkindG_383 : Int32) (rbeginG_384 : Nat) (rwordG_385 : Int32) (rnumberG_386 : Int32) (rlettersG_387 : Int64) (rplaceG_406 : Nat) (rkindG_407 : Int32) (rbeginG_408 : Nat) (rwordG_409 : Int32) (rnumberG_410 : Int32) (rlettersG_411 : Int64) (iv_rreader_0 : rlength ≤ 940) (iv_rreader_1 : rplace ≤ rlength) (iv_rreader_2 : rmostBytes ≤ 900) (iv_rreader_3 : rbegin ≤ 940) (hTC : TC bt rtapeF) (iv_a_5 : boats ≤ 6) (hRT : RT bt rlength rmostBytes gp rkind rbegin rplace rword rnumber rletters) (hNL : NL gnu 6 boats boatNamesF) (j27 : k17 ≤ 40) (j28 : k19 ≤ 940) (j29 : k21 ≤ 940) (j30 : k19 ≤ rlength) (jRT : RT bt rlength rmostBytes z16 x20 k21 k19 x22 x23 w24) (jB : bLoop bt rlength rmostBytes gnu boats 41 gp 0 = bLoop bt rlength rmostBytes gnu boats (41 - k17) z16 k17) (hm34 : 41 - k17 < n32 + 1) (c36 : ¬ x20 = 0) (p38 : r37 = x22) (v45 : r37 = nI 18) (c365 : k17 < 40) (p374 : rplaceG_368 ≤ rlength) (p375 : rbeginG_370 ≤ 940) (p376 : RT bt rlength rmostBytes (tT bt rlength rmostBytes z16) rkindG_369 rbeginG_370 rplaceG_368 rwordG_371 rnumberG_372 rlettersG_373) (p391 : blineCountG_380 ≤ 40) (p392 : rplaceG_382 ≤ rlength) (p393 : rbeginG_384 ≤ 940) (t394 : isO (bRest bt rlength rmostBytes 18 (tT bt rlength rmostBytes z16)) = true) (t395 : RT bt rlength rmostBytes (okV (bRest bt rlength rmostBytes 18 (tT bt rlength rmostBytes z16))) rkindG_383 rbeginG_384 rplaceG_382 rwordG_385 rnumberG_386 rlettersG_387) (t396 : blineCountG_380 = k17 + 1) (p415 : rplaceG_406 ≤ rlength) (p416 : rbeginG_408 ≤ 940) (t417 : nI (tK bt rlength rmostBytes (okV (bRest bt rlength rmostBytes 18 (tT bt rlength rmostBytes z16)))) = (nI 59)) (t418 : RT bt rlength rmostBytes (tT bt rlength rmostBytes (okV (bRest bt rlength rmostBytes 18 (tT bt rlength rmostBytes z16)))) rkindG_407 rbeginG_408 rplaceG_406 rwordG_409 rnumberG_410 rlettersG_411) : rplaceG_406 ≤ 940 := by
  have b_rkind := ia_b rkind
  have b_rword := ia_b rword
  have b_rnumber := ia_b rnumber
  have b_x20 := ia_b x20
  have b_x22 := ia_b x22
  have b_x23 := ia_b x23
  have b_r37 := ia_b r37
  have b_rkindG_369 := ia_b rkindG_369
  have b_rwordG_371 := ia_b rwordG_371
  have b_rnumberG_372 := ia_b rnumberG_372
  have b_rkindG_383 := ia_b rkindG_383
  have b_rwordG_385 := ia_b rwordG_385
  have b_rnumberG_386 := ia_b rnumberG_386
  have b_rkindG_407 := ia_b rkindG_407
  have b_rwordG_409 := ia_b rwordG_409
  have b_rnumberG_410 := ia_b rnumberG_410
  have b_rletters := Int64.toInt_lt rletters
  have b_w24 := Int64.toInt_lt w24
  have b_rlettersG_373 := Int64.toInt_lt rlettersG_373
  have b_rlettersG_387 := Int64.toInt_lt rlettersG_387
  have b_rlettersG_411 := Int64.toInt_lt rlettersG_411
  try have k_0 := ia_n 18 (by first | decide | omega)
  try have k_1 := ia_n (tK bt rlength rmostBytes (okV (bRest bt rlength rmostBytes 18 (tT bt rlength rmostBytes z16)))) (by first | decide | omega)
  try have k_2 := ia_n 59 (by first | decide | omega)
  try simp only [ia_lt, ia_le, ia_eq, ia_m1, ia_0, ia_1, ne_eq, true_and, and_true, false_and, and_false, or_false, false_or, or_true, true_or, not_true_eq_false, not_false_eq_true] at *
  all_goals omega
set_option maxRecDepth 20000 in
theorem lf_f_bkRead_37 (bt : Nat → Nat) (rlength : Nat) (rmostBytes : Nat) (rplace : Nat) (rkind : Int32) (rbegin : Nat) (rword : Int32) (rnumber : Int32) (rletters : Int64) (rtapeF : Nat → Int32) (boats : Nat) (boatNamesF : Nat → Int64) (gp : Nat) (gnu : Nat → Nat) (k17 : Nat) (k19 : Nat) (x20 : Int32) (k21 : Nat) (x22 : Int32) (x23 : Int32) (w24 : Int64) (z16 : Nat) (n32 : Nat) (r37 : Int32) (rplaceG_368 : Nat) (rkindG_369 : Int32) (rbeginG_370 : Nat) (rwordG_371 : Int32) (rnumberG_372 : Int32) (rlettersG_373 : Int64) (blineCountG_380 : Nat) (rplaceG_382 : Nat) (rkindG_383 : Int32) (rbeginG_384 : Nat) (rwordG_385 : Int32) (rnumberG_386 : Int32) (rlettersG_387 : Int64) (rplaceG_406 : Nat) (rkindG_407 : Int32) (rbeginG_408 : Nat) (rwordG_409 : Int32) (rnumberG_410 : Int32) (rlettersG_411 : Int64) (iv_rreader_0 : rlength ≤ 940) (iv_rreader_1 : rplace ≤ rlength) (iv_rreader_2 : rmostBytes ≤ 900) (iv_rreader_3 : rbegin ≤ 940) (hTC : TC bt rtapeF) (iv_a_5 : boats ≤ 6) (hRT : RT bt rlength rmostBytes gp rkind rbegin rplace rword rnumber rletters) (hNL : NL gnu 6 boats boatNamesF) (j27 : k17 ≤ 40) (j28 : k19 ≤ 940) (j29 : k21 ≤ 940) (j30 : k19 ≤ rlength) (jRT : RT bt rlength rmostBytes z16 x20 k21 k19 x22 x23 w24) (jB : bLoop bt rlength rmostBytes gnu boats 41 gp 0 = bLoop bt rlength rmostBytes gnu boats (41 - k17) z16 k17) (hm34 : 41 - k17 < n32 + 1) (c36 : ¬ x20 = 0) (p38 : r37 = x22) (v45 : r37 = nI 18) (c365 : k17 < 40) (p374 : rplaceG_368 ≤ rlength) (p375 : rbeginG_370 ≤ 940) (p376 : RT bt rlength rmostBytes (tT bt rlength rmostBytes z16) rkindG_369 rbeginG_370 rplaceG_368 rwordG_371 rnumberG_372 rlettersG_373) (p391 : blineCountG_380 ≤ 40) (p392 : rplaceG_382 ≤ rlength) (p393 : rbeginG_384 ≤ 940) (t394 : isO (bRest bt rlength rmostBytes 18 (tT bt rlength rmostBytes z16)) = true) (t395 : RT bt rlength rmostBytes (okV (bRest bt rlength rmostBytes 18 (tT bt rlength rmostBytes z16))) rkindG_383 rbeginG_384 rplaceG_382 rwordG_385 rnumberG_386 rlettersG_387) (t396 : blineCountG_380 = k17 + 1) (p415 : rplaceG_406 ≤ rlength) (p416 : rbeginG_408 ≤ 940) (t417 : nI (tK bt rlength rmostBytes (okV (bRest bt rlength rmostBytes 18 (tT bt rlength rmostBytes z16)))) = (nI 59)) (t418 : RT bt rlength rmostBytes (tT bt rlength rmostBytes (okV (bRest bt rlength rmostBytes 18 (tT bt rlength rmostBytes z16)))) rkindG_407 rbeginG_408 rplaceG_406 rwordG_409 rnumberG_410 rlettersG_411) : bLoop bt rlength rmostBytes gnu boats 41 gp 0 = bLoop bt rlength rmostBytes gnu boats (41 - blineCountG_380) (tT bt rlength rmostBytes (okV (bRest bt rlength rmostBytes 18 (tT bt rlength rmostBytes z16)))) blineCountG_380 := by
  have k0 : ¬ tK bt rlength rmostBytes z16 = 0 := fun z => absurd ((RT_k jRT (c := 0) (by decide)).mpr z) (by
    have kk0 := ia_n 0 (by decide)
    have b_rkind := ia_b rkind
    have b_rword := ia_b rword
    have b_rnumber := ia_b rnumber
    have b_x20 := ia_b x20
    have b_x22 := ia_b x22
    have b_x23 := ia_b x23
    have b_r37 := ia_b r37
    have b_rkindG_369 := ia_b rkindG_369
    have b_rwordG_371 := ia_b rwordG_371
    have b_rnumberG_372 := ia_b rnumberG_372
    have b_rkindG_383 := ia_b rkindG_383
    have b_rwordG_385 := ia_b rwordG_385
    have b_rnumberG_386 := ia_b rnumberG_386
    have b_rkindG_407 := ia_b rkindG_407
    have b_rwordG_409 := ia_b rwordG_409
    have b_rnumberG_410 := ia_b rnumberG_410
    have b_rletters := Int64.toInt_lt rletters
    have b_w24 := Int64.toInt_lt w24
    have b_rlettersG_373 := Int64.toInt_lt rlettersG_373
    have b_rlettersG_387 := Int64.toInt_lt rlettersG_387
    have b_rlettersG_411 := Int64.toInt_lt rlettersG_411
    try have k_0 := ia_n 18 (by first | decide | omega)
    try have k_1 := ia_n (tK bt rlength rmostBytes (okV (bRest bt rlength rmostBytes 18 (tT bt rlength rmostBytes z16)))) (by first | decide | omega)
    try have k_2 := ia_n 59 (by first | decide | omega)
    try simp only [ia_lt, ia_le, ia_eq, ia_m1, ia_0, ia_1, ne_eq, true_and, and_true, false_and, and_false, or_false, false_or, or_true, true_or, not_true_eq_false, not_false_eq_true] at *
    all_goals omega)
  have w9 : tW bt rlength rmostBytes z16 = 18 := (RT_w jRT (by decide)).mp (by
    have kk18 := ia_n 18 (by decide)
    have b_rkind := ia_b rkind
    have b_rword := ia_b rword
    have b_rnumber := ia_b rnumber
    have b_x20 := ia_b x20
    have b_x22 := ia_b x22
    have b_x23 := ia_b x23
    have b_r37 := ia_b r37
    have b_rkindG_369 := ia_b rkindG_369
    have b_rwordG_371 := ia_b rwordG_371
    have b_rnumberG_372 := ia_b rnumberG_372
    have b_rkindG_383 := ia_b rkindG_383
    have b_rwordG_385 := ia_b rwordG_385
    have b_rnumberG_386 := ia_b rnumberG_386
    have b_rkindG_407 := ia_b rkindG_407
    have b_rwordG_409 := ia_b rwordG_409
    have b_rnumberG_410 := ia_b rnumberG_410
    have b_rletters := Int64.toInt_lt rletters
    have b_w24 := Int64.toInt_lt w24
    have b_rlettersG_373 := Int64.toInt_lt rlettersG_373
    have b_rlettersG_387 := Int64.toInt_lt rlettersG_387
    have b_rlettersG_411 := Int64.toInt_lt rlettersG_411
    try have k_0 := ia_n 18 (by first | decide | omega)
    try have k_1 := ia_n (tK bt rlength rmostBytes (okV (bRest bt rlength rmostBytes 18 (tT bt rlength rmostBytes z16)))) (by first | decide | omega)
    try have k_2 := ia_n 59 (by first | decide | omega)
    try simp only [ia_lt, ia_le, ia_eq, ia_m1, ia_0, ia_1, ne_eq, true_and, and_true, false_and, and_false, or_false, false_or, or_true, true_or, not_true_eq_false, not_false_eq_true] at *
    all_goals omega)
  have hs : bSort (tW bt rlength rmostBytes z16) := by rw [w9]; decide
  have hn : tW bt rlength rmostBytes z16 = 31 → isFd gnu 6 boats (tC bt rlength z16) := fun z => absurd (w9.symm.trans z) (by decide)
  have hl := bL_o (ν := gnu) (L := boats) (k := k17) hs hn (by omega)
  rw [w9] at hl
  have hb := bE_o (B := bt) (n := rlength) (m := rmostBytes) (y := bRest bt rlength rmostBytes 18 (tT bt rlength rmostBytes z16)) (by assumption) (tk_c (by assumption) (by decide))
  have q := bP_step (ν := gnu) (L := boats) k0 (k := k17) (by omega) (by rw [hl, hb]; rfl)
  rw [hl, hb] at q
  rw [jB, q]
  subst_vars
  rfl
set_option maxRecDepth 20000 in
theorem lf_f_bkRead_38 (adK : Nat → Nat) (adV : Nat → Nat) (bk : Nat) (blines : Nat) (blineCount : Nat) (blived : Int32) (bwhyWrong : Int32) (bfineLines : Int32) (bdayThen : Int32) (beatenThen : Int32) (blinesF : Nat → Int32) (bt : Nat → Nat) (reader : Nat) (rtape : Nat) (rlength : Nat) (rmostBytes : Nat) (rplace : Nat) (rkind : Int32) (rbegin : Nat) (rword : Int32) (rnumber : Int32) (rletters : Int64) (rfaultKind : Int32) (rfaultPlace : Int32) (rtapeF : Nat → Int32) (a : Nat) (wide : Nat) (high : Nat) (heat : Int32) (cools : Int32) (skinHeat : Int32) (today : Int32) (stirs : Int32) (steps : Int32) (lumps : Nat) (boats : Nat) (thickness : Nat) (lumpNames : Nat) (lumpCells : Nat) (boatNames : Nat) (boatCells : Nat) (loads : Nat) (spoons : Nat) (spoonsLeft : Nat) (depths : Nat) (boatNamesF : Nat → Int64) (gp : Nat) (gnu : Nat → Nat) (k17 : Nat) (f18 : Nat → Int32) (k19 : Nat) (x20 : Int32) (k21 : Nat) (x22 : Int32) (x23 : Int32) (w24 : Int64) (x25 : Int32) (x26 : Int32) (z16 : Nat) (n32 : Nat) (r37 : Int32) (rplaceG_368 : Nat) (rkindG_369 : Int32) (rbeginG_370 : Nat) (rwordG_371 : Int32) (rnumberG_372 : Int32) (rlettersG_373 : Int64) (blineCountG_380 : Nat) (blinesG_381 : Nat → Int32) (rplaceG_382 : Nat) (rkindG_383 : Int32) (rbeginG_384 : Nat) (rwordG_385 : Int32) (rnumberG_386 : Int32) (rlettersG_387 : Int64) (rfaultKindG_388 : Int32) (rfaultPlaceG_389 : Int32) (rplaceG_406 : Nat) (rkindG_407 : Int32) (rbeginG_408 : Nat) (rwordG_409 : Int32) (rnumberG_410 : Int32) (rlettersG_411 : Int64) (rfaultKindG_412 : Int32) (rfaultPlaceG_413 : Int32) (iv_bbk_0 : blineCount ≤ 40) (iv_rreader_0 : rlength ≤ 940) (iv_rreader_1 : rplace ≤ rlength) (iv_rreader_2 : rmostBytes ≤ 900) (iv_rreader_3 : rbegin ≤ 940) (hTC : TC bt rtapeF) (iv_a_0 : 2 ≤ wide) (iv_a_1 : wide ≤ 6) (iv_a_2 : 2 ≤ high) (iv_a_3 : high ≤ 6) (iv_a_4 : lumps ≤ 6) (iv_a_5 : boats ≤ 6) (hRT : RT bt rlength rmostBytes gp rkind rbegin rplace rword rnumber rletters) (hNL : NL gnu 6 boats boatNamesF) (j27 : k17 ≤ 40) (j28 : k19 ≤ 940) (j29 : k21 ≤ 940) (j30 : k19 ≤ rlength) (jRT : RT bt rlength rmostBytes z16 x20 k21 k19 x22 x23 w24) (jB : bLoop bt rlength rmostBytes gnu boats 41 gp 0 = bLoop bt rlength rmostBytes gnu boats (41 - k17) z16 k17) (jFk : x25 = rfaultKind) (jFp : x26 = rfaultPlace) (hm34 : 41 - k17 < n32 + 1) (c36 : ¬ x20 = 0) (p38 : r37 = x22) (v45 : r37 = nI 18) (c365 : k17 < 40) (p374 : rplaceG_368 ≤ rlength) (p375 : rbeginG_370 ≤ 940) (p376 : RT bt rlength rmostBytes (tT bt rlength rmostBytes z16) rkindG_369 rbeginG_370 rplaceG_368 rwordG_371 rnumberG_372 rlettersG_373) (p391 : blineCountG_380 ≤ 40) (p392 : rplaceG_382 ≤ rlength) (p393 : rbeginG_384 ≤ 940) (t394 : isO (bRest bt rlength rmostBytes 18 (tT bt rlength rmostBytes z16)) = true) (t395 : RT bt rlength rmostBytes (okV (bRest bt rlength rmostBytes 18 (tT bt rlength rmostBytes z16))) rkindG_383 rbeginG_384 rplaceG_382 rwordG_385 rnumberG_386 rlettersG_387) (t396 : blineCountG_380 = k17 + 1) (t397 : rfaultKindG_388 = x25) (t398 : rfaultPlaceG_389 = x26) (p415 : rplaceG_406 ≤ rlength) (p416 : rbeginG_408 ≤ 940) (t417 : nI (tK bt rlength rmostBytes (okV (bRest bt rlength rmostBytes 18 (tT bt rlength rmostBytes z16)))) = (nI 59)) (t418 : RT bt rlength rmostBytes (tT bt rlength rmostBytes (okV (bRest bt rlength rmostBytes 18 (tT bt rlength rmostBytes z16)))) rkindG_407 rbeginG_408 rplaceG_406 rwordG_409 rnumberG_410 rlettersG_411) (t419 : rfaultKindG_412 = rfaultKindG_388) (t420 : rfaultPlaceG_413 = rfaultPlaceG_389) : rfaultKindG_412 = rfaultKind := by
  subst_vars
  first
    | rfl
    | assumption
set_option maxRecDepth 20000 in
theorem lf_f_bkRead_39 (adK : Nat → Nat) (adV : Nat → Nat) (bk : Nat) (blines : Nat) (blineCount : Nat) (blived : Int32) (bwhyWrong : Int32) (bfineLines : Int32) (bdayThen : Int32) (beatenThen : Int32) (blinesF : Nat → Int32) (bt : Nat → Nat) (reader : Nat) (rtape : Nat) (rlength : Nat) (rmostBytes : Nat) (rplace : Nat) (rkind : Int32) (rbegin : Nat) (rword : Int32) (rnumber : Int32) (rletters : Int64) (rfaultKind : Int32) (rfaultPlace : Int32) (rtapeF : Nat → Int32) (a : Nat) (wide : Nat) (high : Nat) (heat : Int32) (cools : Int32) (skinHeat : Int32) (today : Int32) (stirs : Int32) (steps : Int32) (lumps : Nat) (boats : Nat) (thickness : Nat) (lumpNames : Nat) (lumpCells : Nat) (boatNames : Nat) (boatCells : Nat) (loads : Nat) (spoons : Nat) (spoonsLeft : Nat) (depths : Nat) (boatNamesF : Nat → Int64) (gp : Nat) (gnu : Nat → Nat) (k17 : Nat) (f18 : Nat → Int32) (k19 : Nat) (x20 : Int32) (k21 : Nat) (x22 : Int32) (x23 : Int32) (w24 : Int64) (x25 : Int32) (x26 : Int32) (z16 : Nat) (n32 : Nat) (r37 : Int32) (rplaceG_368 : Nat) (rkindG_369 : Int32) (rbeginG_370 : Nat) (rwordG_371 : Int32) (rnumberG_372 : Int32) (rlettersG_373 : Int64) (blineCountG_380 : Nat) (blinesG_381 : Nat → Int32) (rplaceG_382 : Nat) (rkindG_383 : Int32) (rbeginG_384 : Nat) (rwordG_385 : Int32) (rnumberG_386 : Int32) (rlettersG_387 : Int64) (rfaultKindG_388 : Int32) (rfaultPlaceG_389 : Int32) (rplaceG_406 : Nat) (rkindG_407 : Int32) (rbeginG_408 : Nat) (rwordG_409 : Int32) (rnumberG_410 : Int32) (rlettersG_411 : Int64) (rfaultKindG_412 : Int32) (rfaultPlaceG_413 : Int32) (iv_bbk_0 : blineCount ≤ 40) (iv_rreader_0 : rlength ≤ 940) (iv_rreader_1 : rplace ≤ rlength) (iv_rreader_2 : rmostBytes ≤ 900) (iv_rreader_3 : rbegin ≤ 940) (hTC : TC bt rtapeF) (iv_a_0 : 2 ≤ wide) (iv_a_1 : wide ≤ 6) (iv_a_2 : 2 ≤ high) (iv_a_3 : high ≤ 6) (iv_a_4 : lumps ≤ 6) (iv_a_5 : boats ≤ 6) (hRT : RT bt rlength rmostBytes gp rkind rbegin rplace rword rnumber rletters) (hNL : NL gnu 6 boats boatNamesF) (j27 : k17 ≤ 40) (j28 : k19 ≤ 940) (j29 : k21 ≤ 940) (j30 : k19 ≤ rlength) (jRT : RT bt rlength rmostBytes z16 x20 k21 k19 x22 x23 w24) (jB : bLoop bt rlength rmostBytes gnu boats 41 gp 0 = bLoop bt rlength rmostBytes gnu boats (41 - k17) z16 k17) (jFk : x25 = rfaultKind) (jFp : x26 = rfaultPlace) (hm34 : 41 - k17 < n32 + 1) (c36 : ¬ x20 = 0) (p38 : r37 = x22) (v45 : r37 = nI 18) (c365 : k17 < 40) (p374 : rplaceG_368 ≤ rlength) (p375 : rbeginG_370 ≤ 940) (p376 : RT bt rlength rmostBytes (tT bt rlength rmostBytes z16) rkindG_369 rbeginG_370 rplaceG_368 rwordG_371 rnumberG_372 rlettersG_373) (p391 : blineCountG_380 ≤ 40) (p392 : rplaceG_382 ≤ rlength) (p393 : rbeginG_384 ≤ 940) (t394 : isO (bRest bt rlength rmostBytes 18 (tT bt rlength rmostBytes z16)) = true) (t395 : RT bt rlength rmostBytes (okV (bRest bt rlength rmostBytes 18 (tT bt rlength rmostBytes z16))) rkindG_383 rbeginG_384 rplaceG_382 rwordG_385 rnumberG_386 rlettersG_387) (t396 : blineCountG_380 = k17 + 1) (t397 : rfaultKindG_388 = x25) (t398 : rfaultPlaceG_389 = x26) (p415 : rplaceG_406 ≤ rlength) (p416 : rbeginG_408 ≤ 940) (t417 : nI (tK bt rlength rmostBytes (okV (bRest bt rlength rmostBytes 18 (tT bt rlength rmostBytes z16)))) = (nI 59)) (t418 : RT bt rlength rmostBytes (tT bt rlength rmostBytes (okV (bRest bt rlength rmostBytes 18 (tT bt rlength rmostBytes z16)))) rkindG_407 rbeginG_408 rplaceG_406 rwordG_409 rnumberG_410 rlettersG_411) (t419 : rfaultKindG_412 = rfaultKindG_388) (t420 : rfaultPlaceG_413 = rfaultPlaceG_389) : rfaultPlaceG_413 = rfaultPlace := by
  subst_vars
  first
    | rfl
    | assumption
set_option maxRecDepth 20000 in
theorem lf_f_bkRead_40 (bt : Nat → Nat) (rlength : Nat) (rmostBytes : Nat) (rplace : Nat) (rkind : Int32) (rbegin : Nat) (rword : Int32) (rnumber : Int32) (rletters : Int64) (rtapeF : Nat → Int32) (boats : Nat) (boatNamesF : Nat → Int64) (gp : Nat) (gnu : Nat → Nat) (k17 : Nat) (k19 : Nat) (x20 : Int32) (k21 : Nat) (x22 : Int32) (x23 : Int32) (w24 : Int64) (z16 : Nat) (n32 : Nat) (r37 : Int32) (rplaceG_368 : Nat) (rkindG_369 : Int32) (rbeginG_370 : Nat) (rwordG_371 : Int32) (rnumberG_372 : Int32) (rlettersG_373 : Int64) (blineCountG_380 : Nat) (rplaceG_382 : Nat) (rkindG_383 : Int32) (rbeginG_384 : Nat) (rwordG_385 : Int32) (rnumberG_386 : Int32) (rlettersG_387 : Int64) (rplaceG_406 : Nat) (rkindG_407 : Int32) (rbeginG_408 : Nat) (rwordG_409 : Int32) (rnumberG_410 : Int32) (rlettersG_411 : Int64) (iv_rreader_0 : rlength ≤ 940) (iv_rreader_1 : rplace ≤ rlength) (iv_rreader_2 : rmostBytes ≤ 900) (iv_rreader_3 : rbegin ≤ 940) (hTC : TC bt rtapeF) (iv_a_5 : boats ≤ 6) (hRT : RT bt rlength rmostBytes gp rkind rbegin rplace rword rnumber rletters) (hNL : NL gnu 6 boats boatNamesF) (j27 : k17 ≤ 40) (j28 : k19 ≤ 940) (j29 : k21 ≤ 940) (j30 : k19 ≤ rlength) (jRT : RT bt rlength rmostBytes z16 x20 k21 k19 x22 x23 w24) (jB : bLoop bt rlength rmostBytes gnu boats 41 gp 0 = bLoop bt rlength rmostBytes gnu boats (41 - k17) z16 k17) (hm34 : 41 - k17 < n32 + 1) (c36 : ¬ x20 = 0) (p38 : r37 = x22) (v45 : r37 = nI 18) (c365 : k17 < 40) (p374 : rplaceG_368 ≤ rlength) (p375 : rbeginG_370 ≤ 940) (p376 : RT bt rlength rmostBytes (tT bt rlength rmostBytes z16) rkindG_369 rbeginG_370 rplaceG_368 rwordG_371 rnumberG_372 rlettersG_373) (p391 : blineCountG_380 ≤ 40) (p392 : rplaceG_382 ≤ rlength) (p393 : rbeginG_384 ≤ 940) (t394 : isO (bRest bt rlength rmostBytes 18 (tT bt rlength rmostBytes z16)) = true) (t395 : RT bt rlength rmostBytes (okV (bRest bt rlength rmostBytes 18 (tT bt rlength rmostBytes z16))) rkindG_383 rbeginG_384 rplaceG_382 rwordG_385 rnumberG_386 rlettersG_387) (t396 : blineCountG_380 = k17 + 1) (p415 : rplaceG_406 ≤ rlength) (p416 : rbeginG_408 ≤ 940) (t417 : nI (tK bt rlength rmostBytes (okV (bRest bt rlength rmostBytes 18 (tT bt rlength rmostBytes z16)))) = (nI 59)) (t418 : RT bt rlength rmostBytes (tT bt rlength rmostBytes (okV (bRest bt rlength rmostBytes 18 (tT bt rlength rmostBytes z16)))) rkindG_407 rbeginG_408 rplaceG_406 rwordG_409 rnumberG_410 rlettersG_411) : 41 - blineCountG_380 < n32 := by
  have b_rkind := ia_b rkind
  have b_rword := ia_b rword
  have b_rnumber := ia_b rnumber
  have b_x20 := ia_b x20
  have b_x22 := ia_b x22
  have b_x23 := ia_b x23
  have b_r37 := ia_b r37
  have b_rkindG_369 := ia_b rkindG_369
  have b_rwordG_371 := ia_b rwordG_371
  have b_rnumberG_372 := ia_b rnumberG_372
  have b_rkindG_383 := ia_b rkindG_383
  have b_rwordG_385 := ia_b rwordG_385
  have b_rnumberG_386 := ia_b rnumberG_386
  have b_rkindG_407 := ia_b rkindG_407
  have b_rwordG_409 := ia_b rwordG_409
  have b_rnumberG_410 := ia_b rnumberG_410
  have b_rletters := Int64.toInt_lt rletters
  have b_w24 := Int64.toInt_lt w24
  have b_rlettersG_373 := Int64.toInt_lt rlettersG_373
  have b_rlettersG_387 := Int64.toInt_lt rlettersG_387
  have b_rlettersG_411 := Int64.toInt_lt rlettersG_411
  try have k_0 := ia_n 18 (by first | decide | omega)
  try have k_1 := ia_n (tK bt rlength rmostBytes (okV (bRest bt rlength rmostBytes 18 (tT bt rlength rmostBytes z16)))) (by first | decide | omega)
  try have k_2 := ia_n 59 (by first | decide | omega)
  try simp only [ia_lt, ia_le, ia_eq, ia_m1, ia_0, ia_1, ne_eq, true_and, and_true, false_and, and_false, or_false, false_or, or_true, true_or, not_true_eq_false, not_false_eq_true] at *
  all_goals omega
set_option maxRecDepth 20000 in
theorem lf_f_bkRead_41 (bt : Nat → Nat) (rlength : Nat) (rmostBytes : Nat) (rplace : Nat) (rkind : Int32) (rbegin : Nat) (rword : Int32) (rnumber : Int32) (rletters : Int64) (rfaultKind : Int32) (rfaultPlace : Int32) (rtapeF : Nat → Int32) (boats : Nat) (boatNamesF : Nat → Int64) (gp : Nat) (gnu : Nat → Nat) (k17 : Nat) (k19 : Nat) (x20 : Int32) (k21 : Nat) (x22 : Int32) (x23 : Int32) (w24 : Int64) (x25 : Int32) (x26 : Int32) (z16 : Nat) (n32 : Nat) (r37 : Int32) (rplaceG_368 : Nat) (rkindG_369 : Int32) (rbeginG_370 : Nat) (rwordG_371 : Int32) (rnumberG_372 : Int32) (rlettersG_373 : Int64) (blineCountG_380 : Nat) (rplaceG_382 : Nat) (rkindG_383 : Int32) (rbeginG_384 : Nat) (rwordG_385 : Int32) (rnumberG_386 : Int32) (rlettersG_387 : Int64) (rfaultKindG_388 : Int32) (rfaultPlaceG_389 : Int32) (rplaceG_406 : Nat) (rfaultKindG_412 : Int32) (rfaultPlaceG_413 : Int32) (iv_rreader_0 : rlength ≤ 940) (iv_rreader_1 : rplace ≤ rlength) (iv_rreader_2 : rmostBytes ≤ 900) (iv_rreader_3 : rbegin ≤ 940) (hTC : TC bt rtapeF) (iv_a_5 : boats ≤ 6) (hRT : RT bt rlength rmostBytes gp rkind rbegin rplace rword rnumber rletters) (hNL : NL gnu 6 boats boatNamesF) (j27 : k17 ≤ 40) (j28 : k19 ≤ 940) (j29 : k21 ≤ 940) (j30 : k19 ≤ rlength) (jRT : RT bt rlength rmostBytes z16 x20 k21 k19 x22 x23 w24) (jB : bLoop bt rlength rmostBytes gnu boats 41 gp 0 = bLoop bt rlength rmostBytes gnu boats (41 - k17) z16 k17) (jFk : x25 = rfaultKind) (jFp : x26 = rfaultPlace) (hm34 : 41 - k17 < n32 + 1) (c36 : ¬ x20 = 0) (p38 : r37 = x22) (v45 : r37 = nI 18) (c365 : k17 < 40) (p374 : rplaceG_368 ≤ rlength) (p375 : rbeginG_370 ≤ 940) (p376 : RT bt rlength rmostBytes (tT bt rlength rmostBytes z16) rkindG_369 rbeginG_370 rplaceG_368 rwordG_371 rnumberG_372 rlettersG_373) (p391 : blineCountG_380 ≤ 40) (p392 : rplaceG_382 ≤ rlength) (p393 : rbeginG_384 ≤ 940) (t394 : isO (bRest bt rlength rmostBytes 18 (tT bt rlength rmostBytes z16)) = true) (t395 : RT bt rlength rmostBytes (okV (bRest bt rlength rmostBytes 18 (tT bt rlength rmostBytes z16))) rkindG_383 rbeginG_384 rplaceG_382 rwordG_385 rnumberG_386 rlettersG_387) (t396 : blineCountG_380 = k17 + 1) (t397 : rfaultKindG_388 = x25) (t398 : rfaultPlaceG_389 = x26) (p415 : rplaceG_406 ≤ rlength) (t421 : ¬ nI (tK bt rlength rmostBytes (okV (bRest bt rlength rmostBytes 18 (tT bt rlength rmostBytes z16)))) = (nI 59)) (t422 : rfaultKindG_412 = nI 1) (t423 : rfaultPlaceG_413 = nI (tF bt rlength rmostBytes (okV (bRest bt rlength rmostBytes 18 (tT bt rlength rmostBytes z16))))) : ((nI 0) = nI 1 ∧ (isO (bLoop bt rlength rmostBytes gnu boats 41 gp 0) = true ∧ rfaultKindG_412 = rfaultKind ∧ rfaultPlaceG_413 = rfaultPlace)) ∨ ((nI 0) = nI 0 ∧ (isO (bLoop bt rlength rmostBytes gnu boats 41 gp 0) = false ∧ rfaultKindG_412 = nI (erA (bLoop bt rlength rmostBytes gnu boats 41 gp 0)) ∧ rfaultPlaceG_413 = nI (erB (bLoop bt rlength rmostBytes gnu boats 41 gp 0)))) := by
  have k0 : ¬ tK bt rlength rmostBytes z16 = 0 := fun z => absurd ((RT_k jRT (c := 0) (by decide)).mpr z) (by
    have kk0 := ia_n 0 (by decide)
    have b_rkind := ia_b rkind
    have b_rword := ia_b rword
    have b_rnumber := ia_b rnumber
    have b_rfaultKind := ia_b rfaultKind
    have b_rfaultPlace := ia_b rfaultPlace
    have b_x20 := ia_b x20
    have b_x22 := ia_b x22
    have b_x23 := ia_b x23
    have b_x25 := ia_b x25
    have b_x26 := ia_b x26
    have b_r37 := ia_b r37
    have b_rkindG_369 := ia_b rkindG_369
    have b_rwordG_371 := ia_b rwordG_371
    have b_rnumberG_372 := ia_b rnumberG_372
    have b_rkindG_383 := ia_b rkindG_383
    have b_rwordG_385 := ia_b rwordG_385
    have b_rnumberG_386 := ia_b rnumberG_386
    have b_rfaultKindG_388 := ia_b rfaultKindG_388
    have b_rfaultPlaceG_389 := ia_b rfaultPlaceG_389
    have b_rfaultKindG_412 := ia_b rfaultKindG_412
    have b_rfaultPlaceG_413 := ia_b rfaultPlaceG_413
    have b_rletters := Int64.toInt_lt rletters
    have b_w24 := Int64.toInt_lt w24
    have b_rlettersG_373 := Int64.toInt_lt rlettersG_373
    have b_rlettersG_387 := Int64.toInt_lt rlettersG_387
    try have k_0 := ia_n 18 (by first | decide | omega)
    try have k_1 := ia_n (tK bt rlength rmostBytes (okV (bRest bt rlength rmostBytes 18 (tT bt rlength rmostBytes z16)))) (by first | decide | omega)
    try have k_2 := ia_n 59 (by first | decide | omega)
    try have k_3 := ia_n 1 (by first | decide | omega)
    try have k_4 := ia_n (tF bt rlength rmostBytes (okV (bRest bt rlength rmostBytes 18 (tT bt rlength rmostBytes z16)))) (by first | decide | omega)
    try have k_5 := ia_n 0 (by first | decide | omega)
    try have k_6 := ia_n (erA (bLoop bt rlength rmostBytes gnu boats 41 gp 0)) (by first | decide | omega)
    try have k_7 := ia_n (erB (bLoop bt rlength rmostBytes gnu boats 41 gp 0)) (by first | decide | omega)
    try simp only [ia_lt, ia_le, ia_eq, ia_m1, ia_0, ia_1, ne_eq, true_and, and_true, false_and, and_false, or_false, false_or, or_true, true_or, not_true_eq_false, not_false_eq_true] at *
    all_goals omega)
  have w9 : tW bt rlength rmostBytes z16 = 18 := (RT_w jRT (by decide)).mp (by
    have kk18 := ia_n 18 (by decide)
    have b_rkind := ia_b rkind
    have b_rword := ia_b rword
    have b_rnumber := ia_b rnumber
    have b_rfaultKind := ia_b rfaultKind
    have b_rfaultPlace := ia_b rfaultPlace
    have b_x20 := ia_b x20
    have b_x22 := ia_b x22
    have b_x23 := ia_b x23
    have b_x25 := ia_b x25
    have b_x26 := ia_b x26
    have b_r37 := ia_b r37
    have b_rkindG_369 := ia_b rkindG_369
    have b_rwordG_371 := ia_b rwordG_371
    have b_rnumberG_372 := ia_b rnumberG_372
    have b_rkindG_383 := ia_b rkindG_383
    have b_rwordG_385 := ia_b rwordG_385
    have b_rnumberG_386 := ia_b rnumberG_386
    have b_rfaultKindG_388 := ia_b rfaultKindG_388
    have b_rfaultPlaceG_389 := ia_b rfaultPlaceG_389
    have b_rfaultKindG_412 := ia_b rfaultKindG_412
    have b_rfaultPlaceG_413 := ia_b rfaultPlaceG_413
    have b_rletters := Int64.toInt_lt rletters
    have b_w24 := Int64.toInt_lt w24
    have b_rlettersG_373 := Int64.toInt_lt rlettersG_373
    have b_rlettersG_387 := Int64.toInt_lt rlettersG_387
    try have k_0 := ia_n 18 (by first | decide | omega)
    try have k_1 := ia_n (tK bt rlength rmostBytes (okV (bRest bt rlength rmostBytes 18 (tT bt rlength rmostBytes z16)))) (by first | decide | omega)
    try have k_2 := ia_n 59 (by first | decide | omega)
    try have k_3 := ia_n 1 (by first | decide | omega)
    try have k_4 := ia_n (tF bt rlength rmostBytes (okV (bRest bt rlength rmostBytes 18 (tT bt rlength rmostBytes z16)))) (by first | decide | omega)
    try have k_5 := ia_n 0 (by first | decide | omega)
    try have k_6 := ia_n (erA (bLoop bt rlength rmostBytes gnu boats 41 gp 0)) (by first | decide | omega)
    try have k_7 := ia_n (erB (bLoop bt rlength rmostBytes gnu boats 41 gp 0)) (by first | decide | omega)
    try simp only [ia_lt, ia_le, ia_eq, ia_m1, ia_0, ia_1, ne_eq, true_and, and_true, false_and, and_false, or_false, false_or, or_true, true_or, not_true_eq_false, not_false_eq_true] at *
    all_goals omega)
  have hs : bSort (tW bt rlength rmostBytes z16) := by rw [w9]; decide
  have hn : tW bt rlength rmostBytes z16 = 31 → isFd gnu 6 boats (tC bt rlength z16) := fun z => absurd (w9.symm.trans z) (by decide)
  have hl := bL_o (ν := gnu) (L := boats) (k := k17) hs hn (by omega)
  rw [w9] at hl
  have hb := bE_s (B := bt) (n := rlength) (m := rmostBytes) (y := bRest bt rlength rmostBytes 18 (tT bt rlength rmostBytes z16)) (by assumption) (tk_d (by assumption))
  have q := bP_err (ν := gnu) (L := boats) k0 (k := k17) (by omega) (by rw [hl, hb]; rfl)
  rw [hl, hb] at q
  rw [jB, q]
  exact Or.inr ⟨rfl, rfl, ‹_›, ‹_›⟩
set_option maxRecDepth 20000 in
theorem lf_f_bkRead_42 (bt : Nat → Nat) (rlength : Nat) (rmostBytes : Nat) (rplace : Nat) (rkind : Int32) (rbegin : Nat) (rword : Int32) (rnumber : Int32) (rletters : Int64) (rfaultKind : Int32) (rfaultPlace : Int32) (rtapeF : Nat → Int32) (boats : Nat) (boatNamesF : Nat → Int64) (gp : Nat) (gnu : Nat → Nat) (k17 : Nat) (k19 : Nat) (x20 : Int32) (k21 : Nat) (x22 : Int32) (x23 : Int32) (w24 : Int64) (x25 : Int32) (x26 : Int32) (z16 : Nat) (n32 : Nat) (r37 : Int32) (rplaceG_368 : Nat) (rkindG_369 : Int32) (rbeginG_370 : Nat) (rwordG_371 : Int32) (rnumberG_372 : Int32) (rlettersG_373 : Int64) (rplaceG_382 : Nat) (rfaultKindG_388 : Int32) (rfaultPlaceG_389 : Int32) (iv_rreader_0 : rlength ≤ 940) (iv_rreader_1 : rplace ≤ rlength) (iv_rreader_2 : rmostBytes ≤ 900) (iv_rreader_3 : rbegin ≤ 940) (hTC : TC bt rtapeF) (iv_a_5 : boats ≤ 6) (hRT : RT bt rlength rmostBytes gp rkind rbegin rplace rword rnumber rletters) (hNL : NL gnu 6 boats boatNamesF) (j27 : k17 ≤ 40) (j28 : k19 ≤ 940) (j29 : k21 ≤ 940) (j30 : k19 ≤ rlength) (jRT : RT bt rlength rmostBytes z16 x20 k21 k19 x22 x23 w24) (jB : bLoop bt rlength rmostBytes gnu boats 41 gp 0 = bLoop bt rlength rmostBytes gnu boats (41 - k17) z16 k17) (jFk : x25 = rfaultKind) (jFp : x26 = rfaultPlace) (hm34 : 41 - k17 < n32 + 1) (c36 : ¬ x20 = 0) (p38 : r37 = x22) (v45 : r37 = nI 18) (c365 : k17 < 40) (p374 : rplaceG_368 ≤ rlength) (p375 : rbeginG_370 ≤ 940) (p376 : RT bt rlength rmostBytes (tT bt rlength rmostBytes z16) rkindG_369 rbeginG_370 rplaceG_368 rwordG_371 rnumberG_372 rlettersG_373) (p392 : rplaceG_382 ≤ rlength) (t399 : isO (bRest bt rlength rmostBytes 18 (tT bt rlength rmostBytes z16)) = false) (t400 : rfaultKindG_388 = nI (erA (bRest bt rlength rmostBytes 18 (tT bt rlength rmostBytes z16)))) (t401 : rfaultPlaceG_389 = nI (erB (bRest bt rlength rmostBytes 18 (tT bt rlength rmostBytes z16)))) : ((nI 0) = nI 1 ∧ (isO (bLoop bt rlength rmostBytes gnu boats 41 gp 0) = true ∧ rfaultKindG_388 = rfaultKind ∧ rfaultPlaceG_389 = rfaultPlace)) ∨ ((nI 0) = nI 0 ∧ (isO (bLoop bt rlength rmostBytes gnu boats 41 gp 0) = false ∧ rfaultKindG_388 = nI (erA (bLoop bt rlength rmostBytes gnu boats 41 gp 0)) ∧ rfaultPlaceG_389 = nI (erB (bLoop bt rlength rmostBytes gnu boats 41 gp 0)))) := by
  have k0 : ¬ tK bt rlength rmostBytes z16 = 0 := fun z => absurd ((RT_k jRT (c := 0) (by decide)).mpr z) (by
    have kk0 := ia_n 0 (by decide)
    have b_rkind := ia_b rkind
    have b_rword := ia_b rword
    have b_rnumber := ia_b rnumber
    have b_rfaultKind := ia_b rfaultKind
    have b_rfaultPlace := ia_b rfaultPlace
    have b_x20 := ia_b x20
    have b_x22 := ia_b x22
    have b_x23 := ia_b x23
    have b_x25 := ia_b x25
    have b_x26 := ia_b x26
    have b_r37 := ia_b r37
    have b_rkindG_369 := ia_b rkindG_369
    have b_rwordG_371 := ia_b rwordG_371
    have b_rnumberG_372 := ia_b rnumberG_372
    have b_rfaultKindG_388 := ia_b rfaultKindG_388
    have b_rfaultPlaceG_389 := ia_b rfaultPlaceG_389
    have b_rletters := Int64.toInt_lt rletters
    have b_w24 := Int64.toInt_lt w24
    have b_rlettersG_373 := Int64.toInt_lt rlettersG_373
    try have k_0 := ia_n 18 (by first | decide | omega)
    try have k_1 := ia_n (erA (bRest bt rlength rmostBytes 18 (tT bt rlength rmostBytes z16))) (by first | decide | omega)
    try have k_2 := ia_n (erB (bRest bt rlength rmostBytes 18 (tT bt rlength rmostBytes z16))) (by first | decide | omega)
    try have k_3 := ia_n 0 (by first | decide | omega)
    try have k_4 := ia_n 1 (by first | decide | omega)
    try have k_5 := ia_n (erA (bLoop bt rlength rmostBytes gnu boats 41 gp 0)) (by first | decide | omega)
    try have k_6 := ia_n (erB (bLoop bt rlength rmostBytes gnu boats 41 gp 0)) (by first | decide | omega)
    try simp only [ia_lt, ia_le, ia_eq, ia_m1, ia_0, ia_1, ne_eq, true_and, and_true, false_and, and_false, or_false, false_or, or_true, true_or, not_true_eq_false, not_false_eq_true] at *
    all_goals omega)
  have w9 : tW bt rlength rmostBytes z16 = 18 := (RT_w jRT (by decide)).mp (by
    have kk18 := ia_n 18 (by decide)
    have b_rkind := ia_b rkind
    have b_rword := ia_b rword
    have b_rnumber := ia_b rnumber
    have b_rfaultKind := ia_b rfaultKind
    have b_rfaultPlace := ia_b rfaultPlace
    have b_x20 := ia_b x20
    have b_x22 := ia_b x22
    have b_x23 := ia_b x23
    have b_x25 := ia_b x25
    have b_x26 := ia_b x26
    have b_r37 := ia_b r37
    have b_rkindG_369 := ia_b rkindG_369
    have b_rwordG_371 := ia_b rwordG_371
    have b_rnumberG_372 := ia_b rnumberG_372
    have b_rfaultKindG_388 := ia_b rfaultKindG_388
    have b_rfaultPlaceG_389 := ia_b rfaultPlaceG_389
    have b_rletters := Int64.toInt_lt rletters
    have b_w24 := Int64.toInt_lt w24
    have b_rlettersG_373 := Int64.toInt_lt rlettersG_373
    try have k_0 := ia_n 18 (by first | decide | omega)
    try have k_1 := ia_n (erA (bRest bt rlength rmostBytes 18 (tT bt rlength rmostBytes z16))) (by first | decide | omega)
    try have k_2 := ia_n (erB (bRest bt rlength rmostBytes 18 (tT bt rlength rmostBytes z16))) (by first | decide | omega)
    try have k_3 := ia_n 0 (by first | decide | omega)
    try have k_4 := ia_n 1 (by first | decide | omega)
    try have k_5 := ia_n (erA (bLoop bt rlength rmostBytes gnu boats 41 gp 0)) (by first | decide | omega)
    try have k_6 := ia_n (erB (bLoop bt rlength rmostBytes gnu boats 41 gp 0)) (by first | decide | omega)
    try simp only [ia_lt, ia_le, ia_eq, ia_m1, ia_0, ia_1, ne_eq, true_and, and_true, false_and, and_false, or_false, false_or, or_true, true_or, not_true_eq_false, not_false_eq_true] at *
    all_goals omega)
  have hs : bSort (tW bt rlength rmostBytes z16) := by rw [w9]; decide
  have hn : tW bt rlength rmostBytes z16 = 31 → isFd gnu 6 boats (tC bt rlength z16) := fun z => absurd (w9.symm.trans z) (by decide)
  have hl := bL_o (ν := gnu) (L := boats) (k := k17) hs hn (by omega)
  rw [w9] at hl
  have hb := bE_e (B := bt) (n := rlength) (m := rmostBytes) (y := bRest bt rlength rmostBytes 18 (tT bt rlength rmostBytes z16)) (by assumption)
  have q := bP_err (ν := gnu) (L := boats) k0 (k := k17) (by omega) (by rw [hl, hb]; rfl)
  rw [hl, hb] at q
  rw [jB, q]
  exact Or.inr ⟨rfl, rfl, ‹_›, ‹_›⟩
set_option maxRecDepth 20000 in
theorem lf_f_bkRead_43 (bt : Nat → Nat) (rlength : Nat) (rmostBytes : Nat) (rplace : Nat) (rkind : Int32) (rbegin : Nat) (rword : Int32) (rnumber : Int32) (rletters : Int64) (rfaultKind : Int32) (rfaultPlace : Int32) (rtapeF : Nat → Int32) (boats : Nat) (boatNamesF : Nat → Int64) (gp : Nat) (gnu : Nat → Nat) (k17 : Nat) (k19 : Nat) (x20 : Int32) (k21 : Nat) (x22 : Int32) (x23 : Int32) (w24 : Int64) (x25 : Int32) (x26 : Int32) (z16 : Nat) (n32 : Nat) (r37 : Int32) (rfaultKindG_430 : Int32) (rfaultPlaceG_431 : Int32) (iv_rreader_0 : rlength ≤ 940) (iv_rreader_1 : rplace ≤ rlength) (iv_rreader_2 : rmostBytes ≤ 900) (iv_rreader_3 : rbegin ≤ 940) (hTC : TC bt rtapeF) (iv_a_5 : boats ≤ 6) (hRT : RT bt rlength rmostBytes gp rkind rbegin rplace rword rnumber rletters) (hNL : NL gnu 6 boats boatNamesF) (j27 : k17 ≤ 40) (j28 : k19 ≤ 940) (j29 : k21 ≤ 940) (j30 : k19 ≤ rlength) (jRT : RT bt rlength rmostBytes z16 x20 k21 k19 x22 x23 w24) (jB : bLoop bt rlength rmostBytes gnu boats 41 gp 0 = bLoop bt rlength rmostBytes gnu boats (41 - k17) z16 k17) (jFk : x25 = rfaultKind) (jFp : x26 = rfaultPlace) (hm34 : 41 - k17 < n32 + 1) (c36 : ¬ x20 = 0) (p38 : r37 = x22) (v45 : r37 = nI 18) (c365 : 40 ≤ k17) (p433 : rfaultKindG_430 = (nI 4)) (p434 : rfaultPlaceG_431 = nI k21) : ((nI 0) = nI 1 ∧ (isO (bLoop bt rlength rmostBytes gnu boats 41 gp 0) = true ∧ rfaultKindG_430 = rfaultKind ∧ rfaultPlaceG_431 = rfaultPlace)) ∨ ((nI 0) = nI 0 ∧ (isO (bLoop bt rlength rmostBytes gnu boats 41 gp 0) = false ∧ rfaultKindG_430 = nI (erA (bLoop bt rlength rmostBytes gnu boats 41 gp 0)) ∧ rfaultPlaceG_431 = nI (erB (bLoop bt rlength rmostBytes gnu boats 41 gp 0)))) := by
  have k0 : ¬ tK bt rlength rmostBytes z16 = 0 := fun z => absurd ((RT_k jRT (c := 0) (by decide)).mpr z) (by
    have kk0 := ia_n 0 (by decide)
    have b_rkind := ia_b rkind
    have b_rword := ia_b rword
    have b_rnumber := ia_b rnumber
    have b_rfaultKind := ia_b rfaultKind
    have b_rfaultPlace := ia_b rfaultPlace
    have b_x20 := ia_b x20
    have b_x22 := ia_b x22
    have b_x23 := ia_b x23
    have b_x25 := ia_b x25
    have b_x26 := ia_b x26
    have b_r37 := ia_b r37
    have b_rfaultKindG_430 := ia_b rfaultKindG_430
    have b_rfaultPlaceG_431 := ia_b rfaultPlaceG_431
    have b_rletters := Int64.toInt_lt rletters
    have b_w24 := Int64.toInt_lt w24
    try have k_0 := ia_n 18 (by first | decide | omega)
    try have k_1 := ia_n 4 (by first | decide | omega)
    try have k_2 := ia_n k21 (by first | decide | omega)
    try have k_3 := ia_n 0 (by first | decide | omega)
    try have k_4 := ia_n 1 (by first | decide | omega)
    try have k_5 := ia_n (erA (bLoop bt rlength rmostBytes gnu boats 41 gp 0)) (by first | decide | omega)
    try have k_6 := ia_n (erB (bLoop bt rlength rmostBytes gnu boats 41 gp 0)) (by first | decide | omega)
    try simp only [ia_lt, ia_le, ia_eq, ia_m1, ia_0, ia_1, ne_eq, true_and, and_true, false_and, and_false, or_false, false_or, or_true, true_or, not_true_eq_false, not_false_eq_true] at *
    all_goals omega)
  have w9 : tW bt rlength rmostBytes z16 = 18 := (RT_w jRT (by decide)).mp (by
    have kk18 := ia_n 18 (by decide)
    have b_rkind := ia_b rkind
    have b_rword := ia_b rword
    have b_rnumber := ia_b rnumber
    have b_rfaultKind := ia_b rfaultKind
    have b_rfaultPlace := ia_b rfaultPlace
    have b_x20 := ia_b x20
    have b_x22 := ia_b x22
    have b_x23 := ia_b x23
    have b_x25 := ia_b x25
    have b_x26 := ia_b x26
    have b_r37 := ia_b r37
    have b_rfaultKindG_430 := ia_b rfaultKindG_430
    have b_rfaultPlaceG_431 := ia_b rfaultPlaceG_431
    have b_rletters := Int64.toInt_lt rletters
    have b_w24 := Int64.toInt_lt w24
    try have k_0 := ia_n 18 (by first | decide | omega)
    try have k_1 := ia_n 4 (by first | decide | omega)
    try have k_2 := ia_n k21 (by first | decide | omega)
    try have k_3 := ia_n 0 (by first | decide | omega)
    try have k_4 := ia_n 1 (by first | decide | omega)
    try have k_5 := ia_n (erA (bLoop bt rlength rmostBytes gnu boats 41 gp 0)) (by first | decide | omega)
    try have k_6 := ia_n (erB (bLoop bt rlength rmostBytes gnu boats 41 gp 0)) (by first | decide | omega)
    try simp only [ia_lt, ia_le, ia_eq, ia_m1, ia_0, ia_1, ne_eq, true_and, and_true, false_and, and_false, or_false, false_or, or_true, true_or, not_true_eq_false, not_false_eq_true] at *
    all_goals omega)
  have hs : bSort (tW bt rlength rmostBytes z16) := by rw [w9]; decide
  have hn : tW bt rlength rmostBytes z16 = 31 → isFd gnu 6 boats (tC bt rlength z16) := fun z => absurd (w9.symm.trans z) (by decide)
  have hl := bL_4 (ν := gnu) (L := boats) (k := k17) hs hn (by omega)
  have q := bP_err (ν := gnu) (L := boats) k0 (k := k17) (by omega) (by rw [hl]; rfl)
  rw [hl] at q
  rw [jB, q]
  exact Or.inr ⟨rfl, rfl, ‹_›, (Eq.trans (by assumption) (congrArg nI jRT.2.1))⟩
set_option maxRecDepth 20000 in
theorem lf_f_bkRead_44 (bt : Nat → Nat) (rlength : Nat) (rmostBytes : Nat) (rplace : Nat) (rkind : Int32) (rbegin : Nat) (rword : Int32) (rnumber : Int32) (rletters : Int64) (rtapeF : Nat → Int32) (boats : Nat) (boatNamesF : Nat → Int64) (gp : Nat) (gnu : Nat → Nat) (k17 : Nat) (k19 : Nat) (x20 : Int32) (k21 : Nat) (x22 : Int32) (x23 : Int32) (w24 : Int64) (z16 : Nat) (n32 : Nat) (r37 : Int32) (rplaceG_441 : Nat) (rkindG_442 : Int32) (rbeginG_443 : Nat) (rwordG_444 : Int32) (rnumberG_445 : Int32) (rlettersG_446 : Int64) (blineCountG_453 : Nat) (rplaceG_455 : Nat) (rkindG_456 : Int32) (rbeginG_457 : Nat) (rwordG_458 : Int32) (rnumberG_459 : Int32) (rlettersG_460 : Int64) (rplaceG_479 : Nat) (rkindG_480 : Int32) (rbeginG_481 : Nat) (rwordG_482 : Int32) (rnumberG_483 : Int32) (rlettersG_484 : Int64) (iv_rreader_0 : rlength ≤ 940) (iv_rreader_1 : rplace ≤ rlength) (iv_rreader_2 : rmostBytes ≤ 900) (iv_rreader_3 : rbegin ≤ 940) (hTC : TC bt rtapeF) (iv_a_5 : boats ≤ 6) (hRT : RT bt rlength rmostBytes gp rkind rbegin rplace rword rnumber rletters) (hNL : NL gnu 6 boats boatNamesF) (j27 : k17 ≤ 40) (j28 : k19 ≤ 940) (j29 : k21 ≤ 940) (j30 : k19 ≤ rlength) (jRT : RT bt rlength rmostBytes z16 x20 k21 k19 x22 x23 w24) (jB : bLoop bt rlength rmostBytes gnu boats 41 gp 0 = bLoop bt rlength rmostBytes gnu boats (41 - k17) z16 k17) (hm34 : 41 - k17 < n32 + 1) (c36 : ¬ x20 = 0) (p38 : r37 = x22) (v46 : r37 = nI 19) (c438 : k17 < 40) (p447 : rplaceG_441 ≤ rlength) (p448 : rbeginG_443 ≤ 940) (p449 : RT bt rlength rmostBytes (tT bt rlength rmostBytes z16) rkindG_442 rbeginG_443 rplaceG_441 rwordG_444 rnumberG_445 rlettersG_446) (p464 : blineCountG_453 ≤ 40) (p465 : rplaceG_455 ≤ rlength) (p466 : rbeginG_457 ≤ 940) (t467 : isO (bRest bt rlength rmostBytes 19 (tT bt rlength rmostBytes z16)) = true) (t468 : RT bt rlength rmostBytes (okV (bRest bt rlength rmostBytes 19 (tT bt rlength rmostBytes z16))) rkindG_456 rbeginG_457 rplaceG_455 rwordG_458 rnumberG_459 rlettersG_460) (t469 : blineCountG_453 = k17 + 1) (p488 : rplaceG_479 ≤ rlength) (p489 : rbeginG_481 ≤ 940) (t490 : nI (tK bt rlength rmostBytes (okV (bRest bt rlength rmostBytes 19 (tT bt rlength rmostBytes z16)))) = (nI 59)) (t491 : RT bt rlength rmostBytes (tT bt rlength rmostBytes (okV (bRest bt rlength rmostBytes 19 (tT bt rlength rmostBytes z16)))) rkindG_480 rbeginG_481 rplaceG_479 rwordG_482 rnumberG_483 rlettersG_484) : rplaceG_479 ≤ 940 := by
  have b_rkind := ia_b rkind
  have b_rword := ia_b rword
  have b_rnumber := ia_b rnumber
  have b_x20 := ia_b x20
  have b_x22 := ia_b x22
  have b_x23 := ia_b x23
  have b_r37 := ia_b r37
  have b_rkindG_442 := ia_b rkindG_442
  have b_rwordG_444 := ia_b rwordG_444
  have b_rnumberG_445 := ia_b rnumberG_445
  have b_rkindG_456 := ia_b rkindG_456
  have b_rwordG_458 := ia_b rwordG_458
  have b_rnumberG_459 := ia_b rnumberG_459
  have b_rkindG_480 := ia_b rkindG_480
  have b_rwordG_482 := ia_b rwordG_482
  have b_rnumberG_483 := ia_b rnumberG_483
  have b_rletters := Int64.toInt_lt rletters
  have b_w24 := Int64.toInt_lt w24
  have b_rlettersG_446 := Int64.toInt_lt rlettersG_446
  have b_rlettersG_460 := Int64.toInt_lt rlettersG_460
  have b_rlettersG_484 := Int64.toInt_lt rlettersG_484
  try have k_0 := ia_n 19 (by first | decide | omega)
  try have k_1 := ia_n (tK bt rlength rmostBytes (okV (bRest bt rlength rmostBytes 19 (tT bt rlength rmostBytes z16)))) (by first | decide | omega)
  try have k_2 := ia_n 59 (by first | decide | omega)
  try simp only [ia_lt, ia_le, ia_eq, ia_m1, ia_0, ia_1, ne_eq, true_and, and_true, false_and, and_false, or_false, false_or, or_true, true_or, not_true_eq_false, not_false_eq_true] at *
  all_goals omega
set_option maxRecDepth 20000 in
theorem lf_f_bkRead_45 (bt : Nat → Nat) (rlength : Nat) (rmostBytes : Nat) (rplace : Nat) (rkind : Int32) (rbegin : Nat) (rword : Int32) (rnumber : Int32) (rletters : Int64) (rtapeF : Nat → Int32) (boats : Nat) (boatNamesF : Nat → Int64) (gp : Nat) (gnu : Nat → Nat) (k17 : Nat) (k19 : Nat) (x20 : Int32) (k21 : Nat) (x22 : Int32) (x23 : Int32) (w24 : Int64) (z16 : Nat) (n32 : Nat) (r37 : Int32) (rplaceG_441 : Nat) (rkindG_442 : Int32) (rbeginG_443 : Nat) (rwordG_444 : Int32) (rnumberG_445 : Int32) (rlettersG_446 : Int64) (blineCountG_453 : Nat) (rplaceG_455 : Nat) (rkindG_456 : Int32) (rbeginG_457 : Nat) (rwordG_458 : Int32) (rnumberG_459 : Int32) (rlettersG_460 : Int64) (rplaceG_479 : Nat) (rkindG_480 : Int32) (rbeginG_481 : Nat) (rwordG_482 : Int32) (rnumberG_483 : Int32) (rlettersG_484 : Int64) (iv_rreader_0 : rlength ≤ 940) (iv_rreader_1 : rplace ≤ rlength) (iv_rreader_2 : rmostBytes ≤ 900) (iv_rreader_3 : rbegin ≤ 940) (hTC : TC bt rtapeF) (iv_a_5 : boats ≤ 6) (hRT : RT bt rlength rmostBytes gp rkind rbegin rplace rword rnumber rletters) (hNL : NL gnu 6 boats boatNamesF) (j27 : k17 ≤ 40) (j28 : k19 ≤ 940) (j29 : k21 ≤ 940) (j30 : k19 ≤ rlength) (jRT : RT bt rlength rmostBytes z16 x20 k21 k19 x22 x23 w24) (jB : bLoop bt rlength rmostBytes gnu boats 41 gp 0 = bLoop bt rlength rmostBytes gnu boats (41 - k17) z16 k17) (hm34 : 41 - k17 < n32 + 1) (c36 : ¬ x20 = 0) (p38 : r37 = x22) (v46 : r37 = nI 19) (c438 : k17 < 40) (p447 : rplaceG_441 ≤ rlength) (p448 : rbeginG_443 ≤ 940) (p449 : RT bt rlength rmostBytes (tT bt rlength rmostBytes z16) rkindG_442 rbeginG_443 rplaceG_441 rwordG_444 rnumberG_445 rlettersG_446) (p464 : blineCountG_453 ≤ 40) (p465 : rplaceG_455 ≤ rlength) (p466 : rbeginG_457 ≤ 940) (t467 : isO (bRest bt rlength rmostBytes 19 (tT bt rlength rmostBytes z16)) = true) (t468 : RT bt rlength rmostBytes (okV (bRest bt rlength rmostBytes 19 (tT bt rlength rmostBytes z16))) rkindG_456 rbeginG_457 rplaceG_455 rwordG_458 rnumberG_459 rlettersG_460) (t469 : blineCountG_453 = k17 + 1) (p488 : rplaceG_479 ≤ rlength) (p489 : rbeginG_481 ≤ 940) (t490 : nI (tK bt rlength rmostBytes (okV (bRest bt rlength rmostBytes 19 (tT bt rlength rmostBytes z16)))) = (nI 59)) (t491 : RT bt rlength rmostBytes (tT bt rlength rmostBytes (okV (bRest bt rlength rmostBytes 19 (tT bt rlength rmostBytes z16)))) rkindG_480 rbeginG_481 rplaceG_479 rwordG_482 rnumberG_483 rlettersG_484) : bLoop bt rlength rmostBytes gnu boats 41 gp 0 = bLoop bt rlength rmostBytes gnu boats (41 - blineCountG_453) (tT bt rlength rmostBytes (okV (bRest bt rlength rmostBytes 19 (tT bt rlength rmostBytes z16)))) blineCountG_453 := by
  have k0 : ¬ tK bt rlength rmostBytes z16 = 0 := fun z => absurd ((RT_k jRT (c := 0) (by decide)).mpr z) (by
    have kk0 := ia_n 0 (by decide)
    have b_rkind := ia_b rkind
    have b_rword := ia_b rword
    have b_rnumber := ia_b rnumber
    have b_x20 := ia_b x20
    have b_x22 := ia_b x22
    have b_x23 := ia_b x23
    have b_r37 := ia_b r37
    have b_rkindG_442 := ia_b rkindG_442
    have b_rwordG_444 := ia_b rwordG_444
    have b_rnumberG_445 := ia_b rnumberG_445
    have b_rkindG_456 := ia_b rkindG_456
    have b_rwordG_458 := ia_b rwordG_458
    have b_rnumberG_459 := ia_b rnumberG_459
    have b_rkindG_480 := ia_b rkindG_480
    have b_rwordG_482 := ia_b rwordG_482
    have b_rnumberG_483 := ia_b rnumberG_483
    have b_rletters := Int64.toInt_lt rletters
    have b_w24 := Int64.toInt_lt w24
    have b_rlettersG_446 := Int64.toInt_lt rlettersG_446
    have b_rlettersG_460 := Int64.toInt_lt rlettersG_460
    have b_rlettersG_484 := Int64.toInt_lt rlettersG_484
    try have k_0 := ia_n 19 (by first | decide | omega)
    try have k_1 := ia_n (tK bt rlength rmostBytes (okV (bRest bt rlength rmostBytes 19 (tT bt rlength rmostBytes z16)))) (by first | decide | omega)
    try have k_2 := ia_n 59 (by first | decide | omega)
    try simp only [ia_lt, ia_le, ia_eq, ia_m1, ia_0, ia_1, ne_eq, true_and, and_true, false_and, and_false, or_false, false_or, or_true, true_or, not_true_eq_false, not_false_eq_true] at *
    all_goals omega)
  have w9 : tW bt rlength rmostBytes z16 = 19 := (RT_w jRT (by decide)).mp (by
    have kk19 := ia_n 19 (by decide)
    have b_rkind := ia_b rkind
    have b_rword := ia_b rword
    have b_rnumber := ia_b rnumber
    have b_x20 := ia_b x20
    have b_x22 := ia_b x22
    have b_x23 := ia_b x23
    have b_r37 := ia_b r37
    have b_rkindG_442 := ia_b rkindG_442
    have b_rwordG_444 := ia_b rwordG_444
    have b_rnumberG_445 := ia_b rnumberG_445
    have b_rkindG_456 := ia_b rkindG_456
    have b_rwordG_458 := ia_b rwordG_458
    have b_rnumberG_459 := ia_b rnumberG_459
    have b_rkindG_480 := ia_b rkindG_480
    have b_rwordG_482 := ia_b rwordG_482
    have b_rnumberG_483 := ia_b rnumberG_483
    have b_rletters := Int64.toInt_lt rletters
    have b_w24 := Int64.toInt_lt w24
    have b_rlettersG_446 := Int64.toInt_lt rlettersG_446
    have b_rlettersG_460 := Int64.toInt_lt rlettersG_460
    have b_rlettersG_484 := Int64.toInt_lt rlettersG_484
    try have k_0 := ia_n 19 (by first | decide | omega)
    try have k_1 := ia_n (tK bt rlength rmostBytes (okV (bRest bt rlength rmostBytes 19 (tT bt rlength rmostBytes z16)))) (by first | decide | omega)
    try have k_2 := ia_n 59 (by first | decide | omega)
    try simp only [ia_lt, ia_le, ia_eq, ia_m1, ia_0, ia_1, ne_eq, true_and, and_true, false_and, and_false, or_false, false_or, or_true, true_or, not_true_eq_false, not_false_eq_true] at *
    all_goals omega)
  have hs : bSort (tW bt rlength rmostBytes z16) := by rw [w9]; decide
  have hn : tW bt rlength rmostBytes z16 = 31 → isFd gnu 6 boats (tC bt rlength z16) := fun z => absurd (w9.symm.trans z) (by decide)
  have hl := bL_o (ν := gnu) (L := boats) (k := k17) hs hn (by omega)
  rw [w9] at hl
  have hb := bE_o (B := bt) (n := rlength) (m := rmostBytes) (y := bRest bt rlength rmostBytes 19 (tT bt rlength rmostBytes z16)) (by assumption) (tk_c (by assumption) (by decide))
  have q := bP_step (ν := gnu) (L := boats) k0 (k := k17) (by omega) (by rw [hl, hb]; rfl)
  rw [hl, hb] at q
  rw [jB, q]
  subst_vars
  rfl
set_option maxRecDepth 20000 in
theorem lf_f_bkRead_46 (adK : Nat → Nat) (adV : Nat → Nat) (bk : Nat) (blines : Nat) (blineCount : Nat) (blived : Int32) (bwhyWrong : Int32) (bfineLines : Int32) (bdayThen : Int32) (beatenThen : Int32) (blinesF : Nat → Int32) (bt : Nat → Nat) (reader : Nat) (rtape : Nat) (rlength : Nat) (rmostBytes : Nat) (rplace : Nat) (rkind : Int32) (rbegin : Nat) (rword : Int32) (rnumber : Int32) (rletters : Int64) (rfaultKind : Int32) (rfaultPlace : Int32) (rtapeF : Nat → Int32) (a : Nat) (wide : Nat) (high : Nat) (heat : Int32) (cools : Int32) (skinHeat : Int32) (today : Int32) (stirs : Int32) (steps : Int32) (lumps : Nat) (boats : Nat) (thickness : Nat) (lumpNames : Nat) (lumpCells : Nat) (boatNames : Nat) (boatCells : Nat) (loads : Nat) (spoons : Nat) (spoonsLeft : Nat) (depths : Nat) (boatNamesF : Nat → Int64) (gp : Nat) (gnu : Nat → Nat) (k17 : Nat) (f18 : Nat → Int32) (k19 : Nat) (x20 : Int32) (k21 : Nat) (x22 : Int32) (x23 : Int32) (w24 : Int64) (x25 : Int32) (x26 : Int32) (z16 : Nat) (n32 : Nat) (r37 : Int32) (rplaceG_441 : Nat) (rkindG_442 : Int32) (rbeginG_443 : Nat) (rwordG_444 : Int32) (rnumberG_445 : Int32) (rlettersG_446 : Int64) (blineCountG_453 : Nat) (blinesG_454 : Nat → Int32) (rplaceG_455 : Nat) (rkindG_456 : Int32) (rbeginG_457 : Nat) (rwordG_458 : Int32) (rnumberG_459 : Int32) (rlettersG_460 : Int64) (rfaultKindG_461 : Int32) (rfaultPlaceG_462 : Int32) (rplaceG_479 : Nat) (rkindG_480 : Int32) (rbeginG_481 : Nat) (rwordG_482 : Int32) (rnumberG_483 : Int32) (rlettersG_484 : Int64) (rfaultKindG_485 : Int32) (rfaultPlaceG_486 : Int32) (iv_bbk_0 : blineCount ≤ 40) (iv_rreader_0 : rlength ≤ 940) (iv_rreader_1 : rplace ≤ rlength) (iv_rreader_2 : rmostBytes ≤ 900) (iv_rreader_3 : rbegin ≤ 940) (hTC : TC bt rtapeF) (iv_a_0 : 2 ≤ wide) (iv_a_1 : wide ≤ 6) (iv_a_2 : 2 ≤ high) (iv_a_3 : high ≤ 6) (iv_a_4 : lumps ≤ 6) (iv_a_5 : boats ≤ 6) (hRT : RT bt rlength rmostBytes gp rkind rbegin rplace rword rnumber rletters) (hNL : NL gnu 6 boats boatNamesF) (j27 : k17 ≤ 40) (j28 : k19 ≤ 940) (j29 : k21 ≤ 940) (j30 : k19 ≤ rlength) (jRT : RT bt rlength rmostBytes z16 x20 k21 k19 x22 x23 w24) (jB : bLoop bt rlength rmostBytes gnu boats 41 gp 0 = bLoop bt rlength rmostBytes gnu boats (41 - k17) z16 k17) (jFk : x25 = rfaultKind) (jFp : x26 = rfaultPlace) (hm34 : 41 - k17 < n32 + 1) (c36 : ¬ x20 = 0) (p38 : r37 = x22) (v46 : r37 = nI 19) (c438 : k17 < 40) (p447 : rplaceG_441 ≤ rlength) (p448 : rbeginG_443 ≤ 940) (p449 : RT bt rlength rmostBytes (tT bt rlength rmostBytes z16) rkindG_442 rbeginG_443 rplaceG_441 rwordG_444 rnumberG_445 rlettersG_446) (p464 : blineCountG_453 ≤ 40) (p465 : rplaceG_455 ≤ rlength) (p466 : rbeginG_457 ≤ 940) (t467 : isO (bRest bt rlength rmostBytes 19 (tT bt rlength rmostBytes z16)) = true) (t468 : RT bt rlength rmostBytes (okV (bRest bt rlength rmostBytes 19 (tT bt rlength rmostBytes z16))) rkindG_456 rbeginG_457 rplaceG_455 rwordG_458 rnumberG_459 rlettersG_460) (t469 : blineCountG_453 = k17 + 1) (t470 : rfaultKindG_461 = x25) (t471 : rfaultPlaceG_462 = x26) (p488 : rplaceG_479 ≤ rlength) (p489 : rbeginG_481 ≤ 940) (t490 : nI (tK bt rlength rmostBytes (okV (bRest bt rlength rmostBytes 19 (tT bt rlength rmostBytes z16)))) = (nI 59)) (t491 : RT bt rlength rmostBytes (tT bt rlength rmostBytes (okV (bRest bt rlength rmostBytes 19 (tT bt rlength rmostBytes z16)))) rkindG_480 rbeginG_481 rplaceG_479 rwordG_482 rnumberG_483 rlettersG_484) (t492 : rfaultKindG_485 = rfaultKindG_461) (t493 : rfaultPlaceG_486 = rfaultPlaceG_462) : rfaultKindG_485 = rfaultKind := by
  subst_vars
  first
    | rfl
    | assumption
set_option maxRecDepth 20000 in
theorem lf_f_bkRead_47 (adK : Nat → Nat) (adV : Nat → Nat) (bk : Nat) (blines : Nat) (blineCount : Nat) (blived : Int32) (bwhyWrong : Int32) (bfineLines : Int32) (bdayThen : Int32) (beatenThen : Int32) (blinesF : Nat → Int32) (bt : Nat → Nat) (reader : Nat) (rtape : Nat) (rlength : Nat) (rmostBytes : Nat) (rplace : Nat) (rkind : Int32) (rbegin : Nat) (rword : Int32) (rnumber : Int32) (rletters : Int64) (rfaultKind : Int32) (rfaultPlace : Int32) (rtapeF : Nat → Int32) (a : Nat) (wide : Nat) (high : Nat) (heat : Int32) (cools : Int32) (skinHeat : Int32) (today : Int32) (stirs : Int32) (steps : Int32) (lumps : Nat) (boats : Nat) (thickness : Nat) (lumpNames : Nat) (lumpCells : Nat) (boatNames : Nat) (boatCells : Nat) (loads : Nat) (spoons : Nat) (spoonsLeft : Nat) (depths : Nat) (boatNamesF : Nat → Int64) (gp : Nat) (gnu : Nat → Nat) (k17 : Nat) (f18 : Nat → Int32) (k19 : Nat) (x20 : Int32) (k21 : Nat) (x22 : Int32) (x23 : Int32) (w24 : Int64) (x25 : Int32) (x26 : Int32) (z16 : Nat) (n32 : Nat) (r37 : Int32) (rplaceG_441 : Nat) (rkindG_442 : Int32) (rbeginG_443 : Nat) (rwordG_444 : Int32) (rnumberG_445 : Int32) (rlettersG_446 : Int64) (blineCountG_453 : Nat) (blinesG_454 : Nat → Int32) (rplaceG_455 : Nat) (rkindG_456 : Int32) (rbeginG_457 : Nat) (rwordG_458 : Int32) (rnumberG_459 : Int32) (rlettersG_460 : Int64) (rfaultKindG_461 : Int32) (rfaultPlaceG_462 : Int32) (rplaceG_479 : Nat) (rkindG_480 : Int32) (rbeginG_481 : Nat) (rwordG_482 : Int32) (rnumberG_483 : Int32) (rlettersG_484 : Int64) (rfaultKindG_485 : Int32) (rfaultPlaceG_486 : Int32) (iv_bbk_0 : blineCount ≤ 40) (iv_rreader_0 : rlength ≤ 940) (iv_rreader_1 : rplace ≤ rlength) (iv_rreader_2 : rmostBytes ≤ 900) (iv_rreader_3 : rbegin ≤ 940) (hTC : TC bt rtapeF) (iv_a_0 : 2 ≤ wide) (iv_a_1 : wide ≤ 6) (iv_a_2 : 2 ≤ high) (iv_a_3 : high ≤ 6) (iv_a_4 : lumps ≤ 6) (iv_a_5 : boats ≤ 6) (hRT : RT bt rlength rmostBytes gp rkind rbegin rplace rword rnumber rletters) (hNL : NL gnu 6 boats boatNamesF) (j27 : k17 ≤ 40) (j28 : k19 ≤ 940) (j29 : k21 ≤ 940) (j30 : k19 ≤ rlength) (jRT : RT bt rlength rmostBytes z16 x20 k21 k19 x22 x23 w24) (jB : bLoop bt rlength rmostBytes gnu boats 41 gp 0 = bLoop bt rlength rmostBytes gnu boats (41 - k17) z16 k17) (jFk : x25 = rfaultKind) (jFp : x26 = rfaultPlace) (hm34 : 41 - k17 < n32 + 1) (c36 : ¬ x20 = 0) (p38 : r37 = x22) (v46 : r37 = nI 19) (c438 : k17 < 40) (p447 : rplaceG_441 ≤ rlength) (p448 : rbeginG_443 ≤ 940) (p449 : RT bt rlength rmostBytes (tT bt rlength rmostBytes z16) rkindG_442 rbeginG_443 rplaceG_441 rwordG_444 rnumberG_445 rlettersG_446) (p464 : blineCountG_453 ≤ 40) (p465 : rplaceG_455 ≤ rlength) (p466 : rbeginG_457 ≤ 940) (t467 : isO (bRest bt rlength rmostBytes 19 (tT bt rlength rmostBytes z16)) = true) (t468 : RT bt rlength rmostBytes (okV (bRest bt rlength rmostBytes 19 (tT bt rlength rmostBytes z16))) rkindG_456 rbeginG_457 rplaceG_455 rwordG_458 rnumberG_459 rlettersG_460) (t469 : blineCountG_453 = k17 + 1) (t470 : rfaultKindG_461 = x25) (t471 : rfaultPlaceG_462 = x26) (p488 : rplaceG_479 ≤ rlength) (p489 : rbeginG_481 ≤ 940) (t490 : nI (tK bt rlength rmostBytes (okV (bRest bt rlength rmostBytes 19 (tT bt rlength rmostBytes z16)))) = (nI 59)) (t491 : RT bt rlength rmostBytes (tT bt rlength rmostBytes (okV (bRest bt rlength rmostBytes 19 (tT bt rlength rmostBytes z16)))) rkindG_480 rbeginG_481 rplaceG_479 rwordG_482 rnumberG_483 rlettersG_484) (t492 : rfaultKindG_485 = rfaultKindG_461) (t493 : rfaultPlaceG_486 = rfaultPlaceG_462) : rfaultPlaceG_486 = rfaultPlace := by
  subst_vars
  first
    | rfl
    | assumption
set_option maxRecDepth 20000 in
theorem lf_f_bkRead_48 (bt : Nat → Nat) (rlength : Nat) (rmostBytes : Nat) (rplace : Nat) (rkind : Int32) (rbegin : Nat) (rword : Int32) (rnumber : Int32) (rletters : Int64) (rtapeF : Nat → Int32) (boats : Nat) (boatNamesF : Nat → Int64) (gp : Nat) (gnu : Nat → Nat) (k17 : Nat) (k19 : Nat) (x20 : Int32) (k21 : Nat) (x22 : Int32) (x23 : Int32) (w24 : Int64) (z16 : Nat) (n32 : Nat) (r37 : Int32) (rplaceG_441 : Nat) (rkindG_442 : Int32) (rbeginG_443 : Nat) (rwordG_444 : Int32) (rnumberG_445 : Int32) (rlettersG_446 : Int64) (blineCountG_453 : Nat) (rplaceG_455 : Nat) (rkindG_456 : Int32) (rbeginG_457 : Nat) (rwordG_458 : Int32) (rnumberG_459 : Int32) (rlettersG_460 : Int64) (rplaceG_479 : Nat) (rkindG_480 : Int32) (rbeginG_481 : Nat) (rwordG_482 : Int32) (rnumberG_483 : Int32) (rlettersG_484 : Int64) (iv_rreader_0 : rlength ≤ 940) (iv_rreader_1 : rplace ≤ rlength) (iv_rreader_2 : rmostBytes ≤ 900) (iv_rreader_3 : rbegin ≤ 940) (hTC : TC bt rtapeF) (iv_a_5 : boats ≤ 6) (hRT : RT bt rlength rmostBytes gp rkind rbegin rplace rword rnumber rletters) (hNL : NL gnu 6 boats boatNamesF) (j27 : k17 ≤ 40) (j28 : k19 ≤ 940) (j29 : k21 ≤ 940) (j30 : k19 ≤ rlength) (jRT : RT bt rlength rmostBytes z16 x20 k21 k19 x22 x23 w24) (jB : bLoop bt rlength rmostBytes gnu boats 41 gp 0 = bLoop bt rlength rmostBytes gnu boats (41 - k17) z16 k17) (hm34 : 41 - k17 < n32 + 1) (c36 : ¬ x20 = 0) (p38 : r37 = x22) (v46 : r37 = nI 19) (c438 : k17 < 40) (p447 : rplaceG_441 ≤ rlength) (p448 : rbeginG_443 ≤ 940) (p449 : RT bt rlength rmostBytes (tT bt rlength rmostBytes z16) rkindG_442 rbeginG_443 rplaceG_441 rwordG_444 rnumberG_445 rlettersG_446) (p464 : blineCountG_453 ≤ 40) (p465 : rplaceG_455 ≤ rlength) (p466 : rbeginG_457 ≤ 940) (t467 : isO (bRest bt rlength rmostBytes 19 (tT bt rlength rmostBytes z16)) = true) (t468 : RT bt rlength rmostBytes (okV (bRest bt rlength rmostBytes 19 (tT bt rlength rmostBytes z16))) rkindG_456 rbeginG_457 rplaceG_455 rwordG_458 rnumberG_459 rlettersG_460) (t469 : blineCountG_453 = k17 + 1) (p488 : rplaceG_479 ≤ rlength) (p489 : rbeginG_481 ≤ 940) (t490 : nI (tK bt rlength rmostBytes (okV (bRest bt rlength rmostBytes 19 (tT bt rlength rmostBytes z16)))) = (nI 59)) (t491 : RT bt rlength rmostBytes (tT bt rlength rmostBytes (okV (bRest bt rlength rmostBytes 19 (tT bt rlength rmostBytes z16)))) rkindG_480 rbeginG_481 rplaceG_479 rwordG_482 rnumberG_483 rlettersG_484) : 41 - blineCountG_453 < n32 := by
  have b_rkind := ia_b rkind
  have b_rword := ia_b rword
  have b_rnumber := ia_b rnumber
  have b_x20 := ia_b x20
  have b_x22 := ia_b x22
  have b_x23 := ia_b x23
  have b_r37 := ia_b r37
  have b_rkindG_442 := ia_b rkindG_442
  have b_rwordG_444 := ia_b rwordG_444
  have b_rnumberG_445 := ia_b rnumberG_445
  have b_rkindG_456 := ia_b rkindG_456
  have b_rwordG_458 := ia_b rwordG_458
  have b_rnumberG_459 := ia_b rnumberG_459
  have b_rkindG_480 := ia_b rkindG_480
  have b_rwordG_482 := ia_b rwordG_482
  have b_rnumberG_483 := ia_b rnumberG_483
  have b_rletters := Int64.toInt_lt rletters
  have b_w24 := Int64.toInt_lt w24
  have b_rlettersG_446 := Int64.toInt_lt rlettersG_446
  have b_rlettersG_460 := Int64.toInt_lt rlettersG_460
  have b_rlettersG_484 := Int64.toInt_lt rlettersG_484
  try have k_0 := ia_n 19 (by first | decide | omega)
  try have k_1 := ia_n (tK bt rlength rmostBytes (okV (bRest bt rlength rmostBytes 19 (tT bt rlength rmostBytes z16)))) (by first | decide | omega)
  try have k_2 := ia_n 59 (by first | decide | omega)
  try simp only [ia_lt, ia_le, ia_eq, ia_m1, ia_0, ia_1, ne_eq, true_and, and_true, false_and, and_false, or_false, false_or, or_true, true_or, not_true_eq_false, not_false_eq_true] at *
  all_goals omega
set_option maxRecDepth 20000 in
theorem lf_f_bkRead_49 (bt : Nat → Nat) (rlength : Nat) (rmostBytes : Nat) (rplace : Nat) (rkind : Int32) (rbegin : Nat) (rword : Int32) (rnumber : Int32) (rletters : Int64) (rfaultKind : Int32) (rfaultPlace : Int32) (rtapeF : Nat → Int32) (boats : Nat) (boatNamesF : Nat → Int64) (gp : Nat) (gnu : Nat → Nat) (k17 : Nat) (k19 : Nat) (x20 : Int32) (k21 : Nat) (x22 : Int32) (x23 : Int32) (w24 : Int64) (x25 : Int32) (x26 : Int32) (z16 : Nat) (n32 : Nat) (r37 : Int32) (rplaceG_441 : Nat) (rkindG_442 : Int32) (rbeginG_443 : Nat) (rwordG_444 : Int32) (rnumberG_445 : Int32) (rlettersG_446 : Int64) (blineCountG_453 : Nat) (rplaceG_455 : Nat) (rkindG_456 : Int32) (rbeginG_457 : Nat) (rwordG_458 : Int32) (rnumberG_459 : Int32) (rlettersG_460 : Int64) (rfaultKindG_461 : Int32) (rfaultPlaceG_462 : Int32) (rplaceG_479 : Nat) (rfaultKindG_485 : Int32) (rfaultPlaceG_486 : Int32) (iv_rreader_0 : rlength ≤ 940) (iv_rreader_1 : rplace ≤ rlength) (iv_rreader_2 : rmostBytes ≤ 900) (iv_rreader_3 : rbegin ≤ 940) (hTC : TC bt rtapeF) (iv_a_5 : boats ≤ 6) (hRT : RT bt rlength rmostBytes gp rkind rbegin rplace rword rnumber rletters) (hNL : NL gnu 6 boats boatNamesF) (j27 : k17 ≤ 40) (j28 : k19 ≤ 940) (j29 : k21 ≤ 940) (j30 : k19 ≤ rlength) (jRT : RT bt rlength rmostBytes z16 x20 k21 k19 x22 x23 w24) (jB : bLoop bt rlength rmostBytes gnu boats 41 gp 0 = bLoop bt rlength rmostBytes gnu boats (41 - k17) z16 k17) (jFk : x25 = rfaultKind) (jFp : x26 = rfaultPlace) (hm34 : 41 - k17 < n32 + 1) (c36 : ¬ x20 = 0) (p38 : r37 = x22) (v46 : r37 = nI 19) (c438 : k17 < 40) (p447 : rplaceG_441 ≤ rlength) (p448 : rbeginG_443 ≤ 940) (p449 : RT bt rlength rmostBytes (tT bt rlength rmostBytes z16) rkindG_442 rbeginG_443 rplaceG_441 rwordG_444 rnumberG_445 rlettersG_446) (p464 : blineCountG_453 ≤ 40) (p465 : rplaceG_455 ≤ rlength) (p466 : rbeginG_457 ≤ 940) (t467 : isO (bRest bt rlength rmostBytes 19 (tT bt rlength rmostBytes z16)) = true) (t468 : RT bt rlength rmostBytes (okV (bRest bt rlength rmostBytes 19 (tT bt rlength rmostBytes z16))) rkindG_456 rbeginG_457 rplaceG_455 rwordG_458 rnumberG_459 rlettersG_460) (t469 : blineCountG_453 = k17 + 1) (t470 : rfaultKindG_461 = x25) (t471 : rfaultPlaceG_462 = x26) (p488 : rplaceG_479 ≤ rlength) (t494 : ¬ nI (tK bt rlength rmostBytes (okV (bRest bt rlength rmostBytes 19 (tT bt rlength rmostBytes z16)))) = (nI 59)) (t495 : rfaultKindG_485 = nI 1) (t496 : rfaultPlaceG_486 = nI (tF bt rlength rmostBytes (okV (bRest bt rlength rmostBytes 19 (tT bt rlength rmostBytes z16))))) : ((nI 0) = nI 1 ∧ (isO (bLoop bt rlength rmostBytes gnu boats 41 gp 0) = true ∧ rfaultKindG_485 = rfaultKind ∧ rfaultPlaceG_486 = rfaultPlace)) ∨ ((nI 0) = nI 0 ∧ (isO (bLoop bt rlength rmostBytes gnu boats 41 gp 0) = false ∧ rfaultKindG_485 = nI (erA (bLoop bt rlength rmostBytes gnu boats 41 gp 0)) ∧ rfaultPlaceG_486 = nI (erB (bLoop bt rlength rmostBytes gnu boats 41 gp 0)))) := by
  have k0 : ¬ tK bt rlength rmostBytes z16 = 0 := fun z => absurd ((RT_k jRT (c := 0) (by decide)).mpr z) (by
    have kk0 := ia_n 0 (by decide)
    have b_rkind := ia_b rkind
    have b_rword := ia_b rword
    have b_rnumber := ia_b rnumber
    have b_rfaultKind := ia_b rfaultKind
    have b_rfaultPlace := ia_b rfaultPlace
    have b_x20 := ia_b x20
    have b_x22 := ia_b x22
    have b_x23 := ia_b x23
    have b_x25 := ia_b x25
    have b_x26 := ia_b x26
    have b_r37 := ia_b r37
    have b_rkindG_442 := ia_b rkindG_442
    have b_rwordG_444 := ia_b rwordG_444
    have b_rnumberG_445 := ia_b rnumberG_445
    have b_rkindG_456 := ia_b rkindG_456
    have b_rwordG_458 := ia_b rwordG_458
    have b_rnumberG_459 := ia_b rnumberG_459
    have b_rfaultKindG_461 := ia_b rfaultKindG_461
    have b_rfaultPlaceG_462 := ia_b rfaultPlaceG_462
    have b_rfaultKindG_485 := ia_b rfaultKindG_485
    have b_rfaultPlaceG_486 := ia_b rfaultPlaceG_486
    have b_rletters := Int64.toInt_lt rletters
    have b_w24 := Int64.toInt_lt w24
    have b_rlettersG_446 := Int64.toInt_lt rlettersG_446
    have b_rlettersG_460 := Int64.toInt_lt rlettersG_460
    try have k_0 := ia_n 19 (by first | decide | omega)
    try have k_1 := ia_n (tK bt rlength rmostBytes (okV (bRest bt rlength rmostBytes 19 (tT bt rlength rmostBytes z16)))) (by first | decide | omega)
    try have k_2 := ia_n 59 (by first | decide | omega)
    try have k_3 := ia_n 1 (by first | decide | omega)
    try have k_4 := ia_n (tF bt rlength rmostBytes (okV (bRest bt rlength rmostBytes 19 (tT bt rlength rmostBytes z16)))) (by first | decide | omega)
    try have k_5 := ia_n 0 (by first | decide | omega)
    try have k_6 := ia_n (erA (bLoop bt rlength rmostBytes gnu boats 41 gp 0)) (by first | decide | omega)
    try have k_7 := ia_n (erB (bLoop bt rlength rmostBytes gnu boats 41 gp 0)) (by first | decide | omega)
    try simp only [ia_lt, ia_le, ia_eq, ia_m1, ia_0, ia_1, ne_eq, true_and, and_true, false_and, and_false, or_false, false_or, or_true, true_or, not_true_eq_false, not_false_eq_true] at *
    all_goals omega)
  have w9 : tW bt rlength rmostBytes z16 = 19 := (RT_w jRT (by decide)).mp (by
    have kk19 := ia_n 19 (by decide)
    have b_rkind := ia_b rkind
    have b_rword := ia_b rword
    have b_rnumber := ia_b rnumber
    have b_rfaultKind := ia_b rfaultKind
    have b_rfaultPlace := ia_b rfaultPlace
    have b_x20 := ia_b x20
    have b_x22 := ia_b x22
    have b_x23 := ia_b x23
    have b_x25 := ia_b x25
    have b_x26 := ia_b x26
    have b_r37 := ia_b r37
    have b_rkindG_442 := ia_b rkindG_442
    have b_rwordG_444 := ia_b rwordG_444
    have b_rnumberG_445 := ia_b rnumberG_445
    have b_rkindG_456 := ia_b rkindG_456
    have b_rwordG_458 := ia_b rwordG_458
    have b_rnumberG_459 := ia_b rnumberG_459
    have b_rfaultKindG_461 := ia_b rfaultKindG_461
    have b_rfaultPlaceG_462 := ia_b rfaultPlaceG_462
    have b_rfaultKindG_485 := ia_b rfaultKindG_485
    have b_rfaultPlaceG_486 := ia_b rfaultPlaceG_486
    have b_rletters := Int64.toInt_lt rletters
    have b_w24 := Int64.toInt_lt w24
    have b_rlettersG_446 := Int64.toInt_lt rlettersG_446
    have b_rlettersG_460 := Int64.toInt_lt rlettersG_460
    try have k_0 := ia_n 19 (by first | decide | omega)
    try have k_1 := ia_n (tK bt rlength rmostBytes (okV (bRest bt rlength rmostBytes 19 (tT bt rlength rmostBytes z16)))) (by first | decide | omega)
    try have k_2 := ia_n 59 (by first | decide | omega)
    try have k_3 := ia_n 1 (by first | decide | omega)
    try have k_4 := ia_n (tF bt rlength rmostBytes (okV (bRest bt rlength rmostBytes 19 (tT bt rlength rmostBytes z16)))) (by first | decide | omega)
    try have k_5 := ia_n 0 (by first | decide | omega)
    try have k_6 := ia_n (erA (bLoop bt rlength rmostBytes gnu boats 41 gp 0)) (by first | decide | omega)
    try have k_7 := ia_n (erB (bLoop bt rlength rmostBytes gnu boats 41 gp 0)) (by first | decide | omega)
    try simp only [ia_lt, ia_le, ia_eq, ia_m1, ia_0, ia_1, ne_eq, true_and, and_true, false_and, and_false, or_false, false_or, or_true, true_or, not_true_eq_false, not_false_eq_true] at *
    all_goals omega)
  have hs : bSort (tW bt rlength rmostBytes z16) := by rw [w9]; decide
  have hn : tW bt rlength rmostBytes z16 = 31 → isFd gnu 6 boats (tC bt rlength z16) := fun z => absurd (w9.symm.trans z) (by decide)
  have hl := bL_o (ν := gnu) (L := boats) (k := k17) hs hn (by omega)
  rw [w9] at hl
  have hb := bE_s (B := bt) (n := rlength) (m := rmostBytes) (y := bRest bt rlength rmostBytes 19 (tT bt rlength rmostBytes z16)) (by assumption) (tk_d (by assumption))
  have q := bP_err (ν := gnu) (L := boats) k0 (k := k17) (by omega) (by rw [hl, hb]; rfl)
  rw [hl, hb] at q
  rw [jB, q]
  exact Or.inr ⟨rfl, rfl, ‹_›, ‹_›⟩
set_option maxRecDepth 20000 in
theorem lf_f_bkRead_50 (bt : Nat → Nat) (rlength : Nat) (rmostBytes : Nat) (rplace : Nat) (rkind : Int32) (rbegin : Nat) (rword : Int32) (rnumber : Int32) (rletters : Int64) (rfaultKind : Int32) (rfaultPlace : Int32) (rtapeF : Nat → Int32) (boats : Nat) (boatNamesF : Nat → Int64) (gp : Nat) (gnu : Nat → Nat) (k17 : Nat) (k19 : Nat) (x20 : Int32) (k21 : Nat) (x22 : Int32) (x23 : Int32) (w24 : Int64) (x25 : Int32) (x26 : Int32) (z16 : Nat) (n32 : Nat) (r37 : Int32) (rplaceG_441 : Nat) (rkindG_442 : Int32) (rbeginG_443 : Nat) (rwordG_444 : Int32) (rnumberG_445 : Int32) (rlettersG_446 : Int64) (rplaceG_455 : Nat) (rfaultKindG_461 : Int32) (rfaultPlaceG_462 : Int32) (iv_rreader_0 : rlength ≤ 940) (iv_rreader_1 : rplace ≤ rlength) (iv_rreader_2 : rmostBytes ≤ 900) (iv_rreader_3 : rbegin ≤ 940) (hTC : TC bt rtapeF) (iv_a_5 : boats ≤ 6) (hRT : RT bt rlength rmostBytes gp rkind rbegin rplace rword rnumber rletters) (hNL : NL gnu 6 boats boatNamesF) (j27 : k17 ≤ 40) (j28 : k19 ≤ 940) (j29 : k21 ≤ 940) (j30 : k19 ≤ rlength) (jRT : RT bt rlength rmostBytes z16 x20 k21 k19 x22 x23 w24) (jB : bLoop bt rlength rmostBytes gnu boats 41 gp 0 = bLoop bt rlength rmostBytes gnu boats (41 - k17) z16 k17) (jFk : x25 = rfaultKind) (jFp : x26 = rfaultPlace) (hm34 : 41 - k17 < n32 + 1) (c36 : ¬ x20 = 0) (p38 : r37 = x22) (v46 : r37 = nI 19) (c438 : k17 < 40) (p447 : rplaceG_441 ≤ rlength) (p448 : rbeginG_443 ≤ 940) (p449 : RT bt rlength rmostBytes (tT bt rlength rmostBytes z16) rkindG_442 rbeginG_443 rplaceG_441 rwordG_444 rnumberG_445 rlettersG_446) (p465 : rplaceG_455 ≤ rlength) (t472 : isO (bRest bt rlength rmostBytes 19 (tT bt rlength rmostBytes z16)) = false) (t473 : rfaultKindG_461 = nI (erA (bRest bt rlength rmostBytes 19 (tT bt rlength rmostBytes z16)))) (t474 : rfaultPlaceG_462 = nI (erB (bRest bt rlength rmostBytes 19 (tT bt rlength rmostBytes z16)))) : ((nI 0) = nI 1 ∧ (isO (bLoop bt rlength rmostBytes gnu boats 41 gp 0) = true ∧ rfaultKindG_461 = rfaultKind ∧ rfaultPlaceG_462 = rfaultPlace)) ∨ ((nI 0) = nI 0 ∧ (isO (bLoop bt rlength rmostBytes gnu boats 41 gp 0) = false ∧ rfaultKindG_461 = nI (erA (bLoop bt rlength rmostBytes gnu boats 41 gp 0)) ∧ rfaultPlaceG_462 = nI (erB (bLoop bt rlength rmostBytes gnu boats 41 gp 0)))) := by
  have k0 : ¬ tK bt rlength rmostBytes z16 = 0 := fun z => absurd ((RT_k jRT (c := 0) (by decide)).mpr z) (by
    have kk0 := ia_n 0 (by decide)
    have b_rkind := ia_b rkind
    have b_rword := ia_b rword
    have b_rnumber := ia_b rnumber
    have b_rfaultKind := ia_b rfaultKind
    have b_rfaultPlace := ia_b rfaultPlace
    have b_x20 := ia_b x20
    have b_x22 := ia_b x22
    have b_x23 := ia_b x23
    have b_x25 := ia_b x25
    have b_x26 := ia_b x26
    have b_r37 := ia_b r37
    have b_rkindG_442 := ia_b rkindG_442
    have b_rwordG_444 := ia_b rwordG_444
    have b_rnumberG_445 := ia_b rnumberG_445
    have b_rfaultKindG_461 := ia_b rfaultKindG_461
    have b_rfaultPlaceG_462 := ia_b rfaultPlaceG_462
    have b_rletters := Int64.toInt_lt rletters
    have b_w24 := Int64.toInt_lt w24
    have b_rlettersG_446 := Int64.toInt_lt rlettersG_446
    try have k_0 := ia_n 19 (by first | decide | omega)
    try have k_1 := ia_n (erA (bRest bt rlength rmostBytes 19 (tT bt rlength rmostBytes z16))) (by first | decide | omega)
    try have k_2 := ia_n (erB (bRest bt rlength rmostBytes 19 (tT bt rlength rmostBytes z16))) (by first | decide | omega)
    try have k_3 := ia_n 0 (by first | decide | omega)
    try have k_4 := ia_n 1 (by first | decide | omega)
    try have k_5 := ia_n (erA (bLoop bt rlength rmostBytes gnu boats 41 gp 0)) (by first | decide | omega)
    try have k_6 := ia_n (erB (bLoop bt rlength rmostBytes gnu boats 41 gp 0)) (by first | decide | omega)
    try simp only [ia_lt, ia_le, ia_eq, ia_m1, ia_0, ia_1, ne_eq, true_and, and_true, false_and, and_false, or_false, false_or, or_true, true_or, not_true_eq_false, not_false_eq_true] at *
    all_goals omega)
  have w9 : tW bt rlength rmostBytes z16 = 19 := (RT_w jRT (by decide)).mp (by
    have kk19 := ia_n 19 (by decide)
    have b_rkind := ia_b rkind
    have b_rword := ia_b rword
    have b_rnumber := ia_b rnumber
    have b_rfaultKind := ia_b rfaultKind
    have b_rfaultPlace := ia_b rfaultPlace
    have b_x20 := ia_b x20
    have b_x22 := ia_b x22
    have b_x23 := ia_b x23
    have b_x25 := ia_b x25
    have b_x26 := ia_b x26
    have b_r37 := ia_b r37
    have b_rkindG_442 := ia_b rkindG_442
    have b_rwordG_444 := ia_b rwordG_444
    have b_rnumberG_445 := ia_b rnumberG_445
    have b_rfaultKindG_461 := ia_b rfaultKindG_461
    have b_rfaultPlaceG_462 := ia_b rfaultPlaceG_462
    have b_rletters := Int64.toInt_lt rletters
    have b_w24 := Int64.toInt_lt w24
    have b_rlettersG_446 := Int64.toInt_lt rlettersG_446
    try have k_0 := ia_n 19 (by first | decide | omega)
    try have k_1 := ia_n (erA (bRest bt rlength rmostBytes 19 (tT bt rlength rmostBytes z16))) (by first | decide | omega)
    try have k_2 := ia_n (erB (bRest bt rlength rmostBytes 19 (tT bt rlength rmostBytes z16))) (by first | decide | omega)
    try have k_3 := ia_n 0 (by first | decide | omega)
    try have k_4 := ia_n 1 (by first | decide | omega)
    try have k_5 := ia_n (erA (bLoop bt rlength rmostBytes gnu boats 41 gp 0)) (by first | decide | omega)
    try have k_6 := ia_n (erB (bLoop bt rlength rmostBytes gnu boats 41 gp 0)) (by first | decide | omega)
    try simp only [ia_lt, ia_le, ia_eq, ia_m1, ia_0, ia_1, ne_eq, true_and, and_true, false_and, and_false, or_false, false_or, or_true, true_or, not_true_eq_false, not_false_eq_true] at *
    all_goals omega)
  have hs : bSort (tW bt rlength rmostBytes z16) := by rw [w9]; decide
  have hn : tW bt rlength rmostBytes z16 = 31 → isFd gnu 6 boats (tC bt rlength z16) := fun z => absurd (w9.symm.trans z) (by decide)
  have hl := bL_o (ν := gnu) (L := boats) (k := k17) hs hn (by omega)
  rw [w9] at hl
  have hb := bE_e (B := bt) (n := rlength) (m := rmostBytes) (y := bRest bt rlength rmostBytes 19 (tT bt rlength rmostBytes z16)) (by assumption)
  have q := bP_err (ν := gnu) (L := boats) k0 (k := k17) (by omega) (by rw [hl, hb]; rfl)
  rw [hl, hb] at q
  rw [jB, q]
  exact Or.inr ⟨rfl, rfl, ‹_›, ‹_›⟩
set_option maxRecDepth 20000 in
theorem lf_f_bkRead_51 (bt : Nat → Nat) (rlength : Nat) (rmostBytes : Nat) (rplace : Nat) (rkind : Int32) (rbegin : Nat) (rword : Int32) (rnumber : Int32) (rletters : Int64) (rfaultKind : Int32) (rfaultPlace : Int32) (rtapeF : Nat → Int32) (boats : Nat) (boatNamesF : Nat → Int64) (gp : Nat) (gnu : Nat → Nat) (k17 : Nat) (k19 : Nat) (x20 : Int32) (k21 : Nat) (x22 : Int32) (x23 : Int32) (w24 : Int64) (x25 : Int32) (x26 : Int32) (z16 : Nat) (n32 : Nat) (r37 : Int32) (rfaultKindG_503 : Int32) (rfaultPlaceG_504 : Int32) (iv_rreader_0 : rlength ≤ 940) (iv_rreader_1 : rplace ≤ rlength) (iv_rreader_2 : rmostBytes ≤ 900) (iv_rreader_3 : rbegin ≤ 940) (hTC : TC bt rtapeF) (iv_a_5 : boats ≤ 6) (hRT : RT bt rlength rmostBytes gp rkind rbegin rplace rword rnumber rletters) (hNL : NL gnu 6 boats boatNamesF) (j27 : k17 ≤ 40) (j28 : k19 ≤ 940) (j29 : k21 ≤ 940) (j30 : k19 ≤ rlength) (jRT : RT bt rlength rmostBytes z16 x20 k21 k19 x22 x23 w24) (jB : bLoop bt rlength rmostBytes gnu boats 41 gp 0 = bLoop bt rlength rmostBytes gnu boats (41 - k17) z16 k17) (jFk : x25 = rfaultKind) (jFp : x26 = rfaultPlace) (hm34 : 41 - k17 < n32 + 1) (c36 : ¬ x20 = 0) (p38 : r37 = x22) (v46 : r37 = nI 19) (c438 : 40 ≤ k17) (p506 : rfaultKindG_503 = (nI 4)) (p507 : rfaultPlaceG_504 = nI k21) : ((nI 0) = nI 1 ∧ (isO (bLoop bt rlength rmostBytes gnu boats 41 gp 0) = true ∧ rfaultKindG_503 = rfaultKind ∧ rfaultPlaceG_504 = rfaultPlace)) ∨ ((nI 0) = nI 0 ∧ (isO (bLoop bt rlength rmostBytes gnu boats 41 gp 0) = false ∧ rfaultKindG_503 = nI (erA (bLoop bt rlength rmostBytes gnu boats 41 gp 0)) ∧ rfaultPlaceG_504 = nI (erB (bLoop bt rlength rmostBytes gnu boats 41 gp 0)))) := by
  have k0 : ¬ tK bt rlength rmostBytes z16 = 0 := fun z => absurd ((RT_k jRT (c := 0) (by decide)).mpr z) (by
    have kk0 := ia_n 0 (by decide)
    have b_rkind := ia_b rkind
    have b_rword := ia_b rword
    have b_rnumber := ia_b rnumber
    have b_rfaultKind := ia_b rfaultKind
    have b_rfaultPlace := ia_b rfaultPlace
    have b_x20 := ia_b x20
    have b_x22 := ia_b x22
    have b_x23 := ia_b x23
    have b_x25 := ia_b x25
    have b_x26 := ia_b x26
    have b_r37 := ia_b r37
    have b_rfaultKindG_503 := ia_b rfaultKindG_503
    have b_rfaultPlaceG_504 := ia_b rfaultPlaceG_504
    have b_rletters := Int64.toInt_lt rletters
    have b_w24 := Int64.toInt_lt w24
    try have k_0 := ia_n 19 (by first | decide | omega)
    try have k_1 := ia_n 4 (by first | decide | omega)
    try have k_2 := ia_n k21 (by first | decide | omega)
    try have k_3 := ia_n 0 (by first | decide | omega)
    try have k_4 := ia_n 1 (by first | decide | omega)
    try have k_5 := ia_n (erA (bLoop bt rlength rmostBytes gnu boats 41 gp 0)) (by first | decide | omega)
    try have k_6 := ia_n (erB (bLoop bt rlength rmostBytes gnu boats 41 gp 0)) (by first | decide | omega)
    try simp only [ia_lt, ia_le, ia_eq, ia_m1, ia_0, ia_1, ne_eq, true_and, and_true, false_and, and_false, or_false, false_or, or_true, true_or, not_true_eq_false, not_false_eq_true] at *
    all_goals omega)
  have w9 : tW bt rlength rmostBytes z16 = 19 := (RT_w jRT (by decide)).mp (by
    have kk19 := ia_n 19 (by decide)
    have b_rkind := ia_b rkind
    have b_rword := ia_b rword
    have b_rnumber := ia_b rnumber
    have b_rfaultKind := ia_b rfaultKind
    have b_rfaultPlace := ia_b rfaultPlace
    have b_x20 := ia_b x20
    have b_x22 := ia_b x22
    have b_x23 := ia_b x23
    have b_x25 := ia_b x25
    have b_x26 := ia_b x26
    have b_r37 := ia_b r37
    have b_rfaultKindG_503 := ia_b rfaultKindG_503
    have b_rfaultPlaceG_504 := ia_b rfaultPlaceG_504
    have b_rletters := Int64.toInt_lt rletters
    have b_w24 := Int64.toInt_lt w24
    try have k_0 := ia_n 19 (by first | decide | omega)
    try have k_1 := ia_n 4 (by first | decide | omega)
    try have k_2 := ia_n k21 (by first | decide | omega)
    try have k_3 := ia_n 0 (by first | decide | omega)
    try have k_4 := ia_n 1 (by first | decide | omega)
    try have k_5 := ia_n (erA (bLoop bt rlength rmostBytes gnu boats 41 gp 0)) (by first | decide | omega)
    try have k_6 := ia_n (erB (bLoop bt rlength rmostBytes gnu boats 41 gp 0)) (by first | decide | omega)
    try simp only [ia_lt, ia_le, ia_eq, ia_m1, ia_0, ia_1, ne_eq, true_and, and_true, false_and, and_false, or_false, false_or, or_true, true_or, not_true_eq_false, not_false_eq_true] at *
    all_goals omega)
  have hs : bSort (tW bt rlength rmostBytes z16) := by rw [w9]; decide
  have hn : tW bt rlength rmostBytes z16 = 31 → isFd gnu 6 boats (tC bt rlength z16) := fun z => absurd (w9.symm.trans z) (by decide)
  have hl := bL_4 (ν := gnu) (L := boats) (k := k17) hs hn (by omega)
  have q := bP_err (ν := gnu) (L := boats) k0 (k := k17) (by omega) (by rw [hl]; rfl)
  rw [hl] at q
  rw [jB, q]
  exact Or.inr ⟨rfl, rfl, ‹_›, (Eq.trans (by assumption) (congrArg nI jRT.2.1))⟩
set_option maxRecDepth 20000 in
theorem lf_f_bkRead_52 (bt : Nat → Nat) (rlength : Nat) (rmostBytes : Nat) (rplace : Nat) (rkind : Int32) (rbegin : Nat) (rword : Int32) (rnumber : Int32) (rletters : Int64) (rfaultKind : Int32) (rfaultPlace : Int32) (rtapeF : Nat → Int32) (boats : Nat) (boatNamesF : Nat → Int64) (gp : Nat) (gnu : Nat → Nat) (k17 : Nat) (k19 : Nat) (x20 : Int32) (k21 : Nat) (x22 : Int32) (x23 : Int32) (w24 : Int64) (x25 : Int32) (x26 : Int32) (z16 : Nat) (n32 : Nat) (r37 : Int32) (rfaultKindG_513 : Int32) (rfaultPlaceG_514 : Int32) (iv_rreader_0 : rlength ≤ 940) (iv_rreader_1 : rplace ≤ rlength) (iv_rreader_2 : rmostBytes ≤ 900) (iv_rreader_3 : rbegin ≤ 940) (hTC : TC bt rtapeF) (iv_a_5 : boats ≤ 6) (hRT : RT bt rlength rmostBytes gp rkind rbegin rplace rword rnumber rletters) (hNL : NL gnu 6 boats boatNamesF) (j27 : k17 ≤ 40) (j28 : k19 ≤ 940) (j29 : k21 ≤ 940) (j30 : k19 ≤ rlength) (jRT : RT bt rlength rmostBytes z16 x20 k21 k19 x22 x23 w24) (jB : bLoop bt rlength rmostBytes gnu boats 41 gp 0 = bLoop bt rlength rmostBytes gnu boats (41 - k17) z16 k17) (jFk : x25 = rfaultKind) (jFp : x26 = rfaultPlace) (hm34 : 41 - k17 < n32 + 1) (c36 : ¬ x20 = 0) (p38 : r37 = x22) (v47 : r37 ≠ nI 7) (v48 : r37 ≠ nI 16) (v49 : r37 ≠ nI 17) (v50 : r37 ≠ nI 18) (v51 : r37 ≠ nI 19) (v52 : r37 ≠ nI 31) (p516 : rfaultKindG_513 = (nI 1)) (p517 : rfaultPlaceG_514 = nI k21) : ((nI 0) = nI 1 ∧ (isO (bLoop bt rlength rmostBytes gnu boats 41 gp 0) = true ∧ rfaultKindG_513 = rfaultKind ∧ rfaultPlaceG_514 = rfaultPlace)) ∨ ((nI 0) = nI 0 ∧ (isO (bLoop bt rlength rmostBytes gnu boats 41 gp 0) = false ∧ rfaultKindG_513 = nI (erA (bLoop bt rlength rmostBytes gnu boats 41 gp 0)) ∧ rfaultPlaceG_514 = nI (erB (bLoop bt rlength rmostBytes gnu boats 41 gp 0)))) := by
  have k0 : ¬ tK bt rlength rmostBytes z16 = 0 := fun z => absurd ((RT_k jRT (c := 0) (by decide)).mpr z) (by
    have kk0 := ia_n 0 (by decide)
    have b_rkind := ia_b rkind
    have b_rword := ia_b rword
    have b_rnumber := ia_b rnumber
    have b_rfaultKind := ia_b rfaultKind
    have b_rfaultPlace := ia_b rfaultPlace
    have b_x20 := ia_b x20
    have b_x22 := ia_b x22
    have b_x23 := ia_b x23
    have b_x25 := ia_b x25
    have b_x26 := ia_b x26
    have b_r37 := ia_b r37
    have b_rfaultKindG_513 := ia_b rfaultKindG_513
    have b_rfaultPlaceG_514 := ia_b rfaultPlaceG_514
    have b_rletters := Int64.toInt_lt rletters
    have b_w24 := Int64.toInt_lt w24
    try have k_0 := ia_n 7 (by first | decide | omega)
    try have k_1 := ia_n 16 (by first | decide | omega)
    try have k_2 := ia_n 17 (by first | decide | omega)
    try have k_3 := ia_n 18 (by first | decide | omega)
    try have k_4 := ia_n 19 (by first | decide | omega)
    try have k_5 := ia_n 31 (by first | decide | omega)
    try have k_6 := ia_n 1 (by first | decide | omega)
    try have k_7 := ia_n k21 (by first | decide | omega)
    try have k_8 := ia_n 0 (by first | decide | omega)
    try have k_9 := ia_n (erA (bLoop bt rlength rmostBytes gnu boats 41 gp 0)) (by first | decide | omega)
    try have k_10 := ia_n (erB (bLoop bt rlength rmostBytes gnu boats 41 gp 0)) (by first | decide | omega)
    try simp only [ia_lt, ia_le, ia_eq, ia_m1, ia_0, ia_1, ne_eq, true_and, and_true, false_and, and_false, or_false, false_or, or_true, true_or, not_true_eq_false, not_false_eq_true] at *
    all_goals omega)
  have w3 := RT_w3 jRT
  have hl := bL_1 (ν := gnu) (L := boats) (k := k17) (B := bt) (n := rlength) (m := rmostBytes) (p := z16) (fun z => by
    have b_rkind := ia_b rkind
    have b_rword := ia_b rword
    have b_rnumber := ia_b rnumber
    have b_rfaultKind := ia_b rfaultKind
    have b_rfaultPlace := ia_b rfaultPlace
    have b_x20 := ia_b x20
    have b_x22 := ia_b x22
    have b_x23 := ia_b x23
    have b_x25 := ia_b x25
    have b_x26 := ia_b x26
    have b_r37 := ia_b r37
    have b_rfaultKindG_513 := ia_b rfaultKindG_513
    have b_rfaultPlaceG_514 := ia_b rfaultPlaceG_514
    have b_rletters := Int64.toInt_lt rletters
    have b_w24 := Int64.toInt_lt w24
    try have k_0 := ia_n 7 (by first | decide | omega)
    try have k_1 := ia_n 16 (by first | decide | omega)
    try have k_2 := ia_n 17 (by first | decide | omega)
    try have k_3 := ia_n 18 (by first | decide | omega)
    try have k_4 := ia_n 19 (by first | decide | omega)
    try have k_5 := ia_n 31 (by first | decide | omega)
    try have k_6 := ia_n 1 (by first | decide | omega)
    try have k_7 := ia_n k21 (by first | decide | omega)
    try have k_8 := ia_n 0 (by first | decide | omega)
    try have k_9 := ia_n (erA (bLoop bt rlength rmostBytes gnu boats 41 gp 0)) (by first | decide | omega)
    try have k_10 := ia_n (erB (bLoop bt rlength rmostBytes gnu boats 41 gp 0)) (by first | decide | omega)
    try simp only [ia_lt, ia_le, ia_eq, ia_m1, ia_0, ia_1, ne_eq, true_and, and_true, false_and, and_false, or_false, false_or, or_true, true_or, not_true_eq_false, not_false_eq_true] at *
    all_goals omega)
  have q := bP_err (ν := gnu) (L := boats) k0 (k := k17) (by omega) (by rw [hl]; rfl)
  rw [hl] at q
  rw [jB, q]
  exact Or.inr ⟨rfl, rfl, ‹_›, (Eq.trans (by assumption) (congrArg nI jRT.2.1))⟩
set_option maxRecDepth 20000 in
theorem lf_f_bkRead_53   : 0 ≤ 40 := by
  try simp only [ia_lt, ia_le, ia_eq, ia_m1, ia_0, ia_1, ne_eq, true_and, and_true, false_and, and_false, or_false, false_or, or_true, true_or, not_true_eq_false, not_false_eq_true] at *
  all_goals omega
set_option maxRecDepth 20000 in
theorem lf_f_bkRead_54 (bt : Nat → Nat) (rlength : Nat) (rmostBytes : Nat) (rplace : Nat) (rkind : Int32) (rbegin : Nat) (rword : Int32) (rnumber : Int32) (rletters : Int64) (rtapeF : Nat → Int32) (gp : Nat) (iv_rreader_0 : rlength ≤ 940) (iv_rreader_1 : rplace ≤ rlength) (iv_rreader_2 : rmostBytes ≤ 900) (iv_rreader_3 : rbegin ≤ 940) (hTC : TC bt rtapeF) (hRT : RT bt rlength rmostBytes gp rkind rbegin rplace rword rnumber rletters) : rplace ≤ 940 := by
  have b_rkind := ia_b rkind
  have b_rword := ia_b rword
  have b_rnumber := ia_b rnumber
  have b_rletters := Int64.toInt_lt rletters
  try simp only [ia_lt, ia_le, ia_eq, ia_m1, ia_0, ia_1, ne_eq, true_and, and_true, false_and, and_false, or_false, false_or, or_true, true_or, not_true_eq_false, not_false_eq_true] at *
  all_goals omega
set_option maxRecDepth 20000 in
theorem lf_f_bkRead_55 (bt : Nat → Nat) (rlength : Nat) (rmostBytes : Nat) (rplace : Nat) (rkind : Int32) (rbegin : Nat) (rword : Int32) (rnumber : Int32) (rletters : Int64) (rtapeF : Nat → Int32) (boats : Nat) (boatNamesF : Nat → Int64) (gp : Nat) (gnu : Nat → Nat) (iv_rreader_0 : rlength ≤ 940) (iv_rreader_1 : rplace ≤ rlength) (iv_rreader_2 : rmostBytes ≤ 900) (iv_rreader_3 : rbegin ≤ 940) (hTC : TC bt rtapeF) (iv_a_5 : boats ≤ 6) (hRT : RT bt rlength rmostBytes gp rkind rbegin rplace rword rnumber rletters) (hNL : NL gnu 6 boats boatNamesF) : bLoop bt rlength rmostBytes gnu boats 41 gp 0 = bLoop bt rlength rmostBytes gnu boats (41 - 0) gp 0 := by
  rfl
set_option maxRecDepth 20000 in
theorem lf_f_bkRead_56 (adK : Nat → Nat) (adV : Nat → Nat) (bk : Nat) (blines : Nat) (blineCount : Nat) (blived : Int32) (bwhyWrong : Int32) (bfineLines : Int32) (bdayThen : Int32) (beatenThen : Int32) (blinesF : Nat → Int32) (bt : Nat → Nat) (reader : Nat) (rtape : Nat) (rlength : Nat) (rmostBytes : Nat) (rplace : Nat) (rkind : Int32) (rbegin : Nat) (rword : Int32) (rnumber : Int32) (rletters : Int64) (rfaultKind : Int32) (rfaultPlace : Int32) (rtapeF : Nat → Int32) (a : Nat) (wide : Nat) (high : Nat) (heat : Int32) (cools : Int32) (skinHeat : Int32) (today : Int32) (stirs : Int32) (steps : Int32) (lumps : Nat) (boats : Nat) (thickness : Nat) (lumpNames : Nat) (lumpCells : Nat) (boatNames : Nat) (boatCells : Nat) (loads : Nat) (spoons : Nat) (spoonsLeft : Nat) (depths : Nat) (boatNamesF : Nat → Int64) (gp : Nat) (gnu : Nat → Nat) (iv_bbk_0 : blineCount ≤ 40) (iv_rreader_0 : rlength ≤ 940) (iv_rreader_1 : rplace ≤ rlength) (iv_rreader_2 : rmostBytes ≤ 900) (iv_rreader_3 : rbegin ≤ 940) (hTC : TC bt rtapeF) (iv_a_0 : 2 ≤ wide) (iv_a_1 : wide ≤ 6) (iv_a_2 : 2 ≤ high) (iv_a_3 : high ≤ 6) (iv_a_4 : lumps ≤ 6) (iv_a_5 : boats ≤ 6) (hRT : RT bt rlength rmostBytes gp rkind rbegin rplace rword rnumber rletters) (hNL : NL gnu 6 boats boatNamesF) : rfaultKind = rfaultKind := by
  subst_vars
  first
    | rfl
    | assumption
set_option maxRecDepth 20000 in
theorem lf_f_bkRead_57 (adK : Nat → Nat) (adV : Nat → Nat) (bk : Nat) (blines : Nat) (blineCount : Nat) (blived : Int32) (bwhyWrong : Int32) (bfineLines : Int32) (bdayThen : Int32) (beatenThen : Int32) (blinesF : Nat → Int32) (bt : Nat → Nat) (reader : Nat) (rtape : Nat) (rlength : Nat) (rmostBytes : Nat) (rplace : Nat) (rkind : Int32) (rbegin : Nat) (rword : Int32) (rnumber : Int32) (rletters : Int64) (rfaultKind : Int32) (rfaultPlace : Int32) (rtapeF : Nat → Int32) (a : Nat) (wide : Nat) (high : Nat) (heat : Int32) (cools : Int32) (skinHeat : Int32) (today : Int32) (stirs : Int32) (steps : Int32) (lumps : Nat) (boats : Nat) (thickness : Nat) (lumpNames : Nat) (lumpCells : Nat) (boatNames : Nat) (boatCells : Nat) (loads : Nat) (spoons : Nat) (spoonsLeft : Nat) (depths : Nat) (boatNamesF : Nat → Int64) (gp : Nat) (gnu : Nat → Nat) (iv_bbk_0 : blineCount ≤ 40) (iv_rreader_0 : rlength ≤ 940) (iv_rreader_1 : rplace ≤ rlength) (iv_rreader_2 : rmostBytes ≤ 900) (iv_rreader_3 : rbegin ≤ 940) (hTC : TC bt rtapeF) (iv_a_0 : 2 ≤ wide) (iv_a_1 : wide ≤ 6) (iv_a_2 : 2 ≤ high) (iv_a_3 : high ≤ 6) (iv_a_4 : lumps ≤ 6) (iv_a_5 : boats ≤ 6) (hRT : RT bt rlength rmostBytes gp rkind rbegin rplace rword rnumber rletters) (hNL : NL gnu 6 boats boatNamesF) : rfaultPlace = rfaultPlace := by
  subst_vars
  first
    | rfl
    | assumption
set_option maxHeartbeats 4000000 in
set_option maxRecDepth 100000 in
theorem c_f_bkRead (l : Launch) (dC : Nat → ClassId) (dI : Nat → Nat → Nat) (ky : Nat → ClassId) (sz : Nat) (adK : Nat → Nat) (adV : Nat → Nat) (bk : Nat) (blines : Nat) (blineCount : Nat) (blived : Int32) (bwhyWrong : Int32) (bfineLines : Int32) (bdayThen : Int32) (beatenThen : Int32) (blinesF : Nat → Int32) (bt : Nat → Nat) (reader : Nat) (rtape : Nat) (rlength : Nat) (rmostBytes : Nat) (rplace : Nat) (rkind : Int32) (rbegin : Nat) (rword : Int32) (rnumber : Int32) (rletters : Int64) (rfaultKind : Int32) (rfaultPlace : Int32) (rtapeF : Nat → Int32) (a : Nat) (wide : Nat) (high : Nat) (heat : Int32) (cools : Int32) (skinHeat : Int32) (today : Int32) (stirs : Int32) (steps : Int32) (lumps : Nat) (boats : Nat) (thickness : Nat) (lumpNames : Nat) (lumpCells : Nat) (boatNames : Nat) (boatCells : Nat) (loads : Nat) (spoons : Nat) (spoonsLeft : Nat) (depths : Nat) (boatNamesF : Nat → Int64) (gp : Nat) (gnu : Nat → Nat) (iv_bbk_0 : blineCount ≤ 40) (iv_rreader_0 : rlength ≤ 940) (iv_rreader_1 : rplace ≤ rlength) (iv_rreader_2 : rmostBytes ≤ 900) (iv_rreader_3 : rbegin ≤ 940) (hTC : TC bt rtapeF) (iv_a_0 : 2 ≤ wide) (iv_a_1 : wide ≤ 6) (iv_a_2 : 2 ≤ high) (iv_a_3 : high ≤ 6) (iv_a_4 : lumps ≤ 6) (iv_a_5 : boats ≤ 6) (hRT : RT bt rlength rmostBytes gp rkind rbegin rplace rword rnumber rletters) (hNL : NL gnu 6 boats boatNamesF) : Met l yX0_read wsX0_read ({ frames := 8, cells := 0, slots := 0, locals := 185 }) (PcUE dC dI ky adK adV [.ref bk, .ref reader, .ref a] [(bk, .inr (0, [.ref blines, .int (nI blineCount), .int blived, .int bwhyWrong, .int bfineLines, .int bdayThen, .int beatenThen])), (blines, .inl (ky 0, 160, .inl blinesF)), (reader, .inr (5, [.ref rtape, .int (nI rlength), .int (nI rmostBytes), .int (nI rplace), .int rkind, .int (nI rbegin), .int rword, .int rnumber, .long rletters, .int rfaultKind, .int rfaultPlace])), (rtape, .inl (ky 2, 940, .inl rtapeF)), (a, .inr (7, [.int (nI wide), .int (nI high), .int heat, .int cools, .int skinHeat, .int today, .int stirs, .int steps, .int (nI lumps), .int (nI boats), .ref thickness, .ref lumpNames, .ref lumpCells, .ref boatNames, .ref boatCells, .ref loads, .ref spoons, .ref spoonsLeft, .ref depths])), (boatNames, .inl (ky 1, 6, .inr (.inl boatNamesF)))] sz) (va_Qi (fun (r : Int32) (u : Nat × (Nat → Int32) × Nat × Int32 × Nat × Int32 × Int32 × Int64 × Int32 × Int32) => match u with | (blineCountG, blinesG, rplaceG, rkindG, rbeginG, rwordG, rnumberG, rlettersG, rfaultKindG, rfaultPlaceG) => ((r = nI 1 ∧ (isO (bLoop bt rlength rmostBytes gnu boats 41 gp 0) = true ∧ rfaultKindG = rfaultKind ∧ rfaultPlaceG = rfaultPlace)) ∨ (r = nI 0 ∧ (isO (bLoop bt rlength rmostBytes gnu boats 41 gp 0) = false ∧ rfaultKindG = nI (erA (bLoop bt rlength rmostBytes gnu boats 41 gp 0)) ∧ rfaultPlaceG = nI (erB (bLoop bt rlength rmostBytes gnu boats 41 gp 0))))) ∧ (blineCountG ≤ 40) ∧ (rplaceG ≤ rlength) ∧ (rbeginG ≤ 940)) (BU dC dI ky (fun (u : Nat × (Nat → Int32) × Nat × Int32 × Nat × Int32 × Int32 × Int64 × Int32 × Int32) => match u with | (blineCountG, blinesG, rplaceG, rkindG, rbeginG, rwordG, rnumberG, rlettersG, rfaultKindG, rfaultPlaceG) => [(bk, .inr (0, [.ref blines, .int (nI blineCountG), .int blived, .int bwhyWrong, .int bfineLines, .int bdayThen, .int beatenThen])), (blines, .inl (ky 0, 160, .inl blinesG)), (reader, .inr (5, [.ref rtape, .int (nI rlength), .int (nI rmostBytes), .int (nI rplaceG), .int rkindG, .int (nI rbeginG), .int rwordG, .int rnumberG, .long rlettersG, .int rfaultKindG, .int rfaultPlaceG])), (rtape, .inl (ky 2, 940, .inl rtapeF)), (a, .inr (7, [.int (nI wide), .int (nI high), .int heat, .int cools, .int skinHeat, .int today, .int stirs, .int steps, .int (nI lumps), .int (nI boats), .ref thickness, .ref lumpNames, .ref lumpCells, .ref boatNames, .ref boatCells, .ref loads, .ref spoons, .ref spoonsLeft, .ref depths])), (boatNames, .inl (ky 1, 6, .inr (.inl boatNamesF)))]) (va_A [(bk, .inr (0, [.ref blines, .int (nI blineCount), .int blived, .int bwhyWrong, .int bfineLines, .int bdayThen, .int beatenThen])), (blines, .inl (ky 0, 160, .inl blinesF)), (reader, .inr (5, [.ref rtape, .int (nI rlength), .int (nI rmostBytes), .int (nI rplace), .int rkind, .int (nI rbegin), .int rword, .int rnumber, .long rletters, .int rfaultKind, .int rfaultPlace])), (rtape, .inl (ky 2, 940, .inl rtapeF)), (a, .inr (7, [.int (nI wide), .int (nI high), .int heat, .int cools, .int skinHeat, .int today, .int stirs, .int steps, .int (nI lumps), .int (nI boats), .ref thickness, .ref lumpNames, .ref lumpCells, .ref boatNames, .ref boatCells, .ref loads, .ref spoons, .ref spoonsLeft, .ref depths])), (boatNames, .inl (ky 1, 6, .inr (.inl boatNamesF)))] sz)) (va_A [(bk, .inr (0, [.ref blines, .int (nI blineCount), .int blived, .int bwhyWrong, .int bfineLines, .int bdayThen, .int beatenThen])), (blines, .inl (ky 0, 160, .inl blinesF)), (reader, .inr (5, [.ref rtape, .int (nI rlength), .int (nI rmostBytes), .int (nI rplace), .int rkind, .int (nI rbegin), .int rword, .int rnumber, .long rletters, .int rfaultKind, .int rfaultPlace])), (rtape, .inl (ky 2, 940, .inl rtapeF)), (a, .inr (7, [.int (nI wide), .int (nI high), .int heat, .int cools, .int skinHeat, .int today, .int stirs, .int steps, .int (nI lumps), .int (nI boats), .ref thickness, .ref lumpNames, .ref lumpCells, .ref boatNames, .ref boatCells, .ref loads, .ref spoons, .ref spoonsLeft, .ref depths])), (boatNames, .inl (ky 1, 6, .inr (.inl boatNamesF)))] sz)) 0 0 (va_A [(bk, .inr (0, [.ref blines, .int (nI blineCount), .int blived, .int bwhyWrong, .int bfineLines, .int bdayThen, .int beatenThen])), (blines, .inl (ky 0, 160, .inl blinesF)), (reader, .inr (5, [.ref rtape, .int (nI rlength), .int (nI rmostBytes), .int (nI rplace), .int rkind, .int (nI rbegin), .int rword, .int rnumber, .long rletters, .int rfaultKind, .int rfaultPlace])), (rtape, .inl (ky 2, 940, .inl rtapeF)), (a, .inr (7, [.int (nI wide), .int (nI high), .int heat, .int cools, .int skinHeat, .int today, .int stirs, .int steps, .int (nI lumps), .int (nI boats), .ref thickness, .ref lumpNames, .ref lumpCells, .ref boatNames, .ref boatCells, .ref loads, .ref spoons, .ref spoonsLeft, .ref depths])), (boatNames, .inl (ky 1, 6, .inr (.inl boatNamesF)))] sz) := by
  refine Met.ofW (cc := cX0_read) (maxL := 5) (ret := (some .boolean)) (by decide) rfl ?_
  intro p e s m args below meth c s₁ B hml hv
  obtain ⟨rfl, hsz, hP, hK, hD0, hE⟩ := hv
  have hx := B.exec
  have hb := B.bytes
  have hr := B.returns
  have hts := atoms_spec (ws := wsX0_read) B.pre
  have hown : s.vm.findClass RX0 = some m.cls := findClass_of_methodNamed B.named
  have hlocks := B.notSynchronized
  have hin0 : ∀ w ∈ u_ws RX0 TX0 7, w ∈ wsX0_read := by decide +kernel
  have hin5 : ∀ w ∈ u_ws RX5 TX5 11, w ∈ wsX0_read := by decide +kernel
  subst hsz
  have hD := hD0.self (sz := s.heap.size)
  generalize hAe : va_A [(bk, .inr (0, [.ref blines, .int (nI blineCount), .int blived, .int bwhyWrong, .int bfineLines, .int bdayThen, .int beatenThen])), (blines, .inl (ky 0, 160, .inl blinesF)), (reader, .inr (5, [.ref rtape, .int (nI rlength), .int (nI rmostBytes), .int (nI rplace), .int rkind, .int (nI rbegin), .int rword, .int rnumber, .long rletters, .int rfaultKind, .int rfaultPlace])), (rtape, .inl (ky 2, 940, .inl rtapeF)), (a, .inr (7, [.int (nI wide), .int (nI high), .int heat, .int cools, .int skinHeat, .int today, .int stirs, .int steps, .int (nI lumps), .int (nI boats), .ref thickness, .ref lumpNames, .ref lumpCells, .ref boatNames, .ref boatCells, .ref loads, .ref spoons, .ref spoonsLeft, .ref depths])), (boatNames, .inl (ky 1, 6, .inr (.inl boatNamesF)))] s.heap.size = A at hD hE ⊢
  have hA : ∀ q : Nat, s.heap.size ≤ q → A q := fun q h => by rw [← hAe]; exact Or.inr h
  have hS : va_S A s.heap s.heap [] := va_S.rf
  have hl := lv_entry ([.ref bk, .ref reader, .ref a]) (n := 5) (Nat.le_of_ble_eq_true rfl)
  rw [lg_entry_eq]
  generalize (lg_sl ([.ref bk, .ref reader, .ref a]) ++ List.replicate (5 - (lg_sl ([.ref bk, .ref reader, .ref a])).length) Slot.unset).toArray = ls at hl ⊢
  have hl : lv_has ls 5 [(0, .ref bk), (1, .ref reader), (2, .ref a)] := hl
  refine q_name (fun Q hQ => ?_)
  generalize ([.ref bk, .ref reader, .ref a] : List Value).toArray = args at hts hQ ⊢
  refine lv_aload_n hx hb dX0_read_0 rfl (lv_at hl 0 rfl) ?_
  refine lv_iconst (v := nI 0) hx hb dX0_read_1 (by decide) ?_
  refine va_put (D := (dC, dI)) (ci := 0) (v := .int (nI 0)) (ty := .int) (C := RX0) (T := TX0) (N := 7) hx hb hts hin0 tyX0 tyX0_ok nmX0 hown hK hP hD hS 0 rfl rfl 1 (by decide) (hts (.fieldLink RX0 15 "PorridgeSea$Book" "lineCount" "I") (List.mem_of_getElem? (i := 1) rfl)) (fun _ h9 => h9) rfl (by decide +kernel) rfl rfl (Nat.le_of_ble_eq_true rfl) dX0_read_2 (fun H locs hP hD hS => ?_)
  have hP : va_P (dC, dI) vwCl [(bk, .inr (0, [.ref blines, .int (nI 0), .int blived, .int bwhyWrong, .int bfineLines, .int bdayThen, .int beatenThen])), (blines, .inl (ky 0, 160, .inl blinesF)), (reader, .inr (5, [.ref rtape, .int (nI rlength), .int (nI rmostBytes), .int (nI rplace), .int rkind, .int (nI rbegin), .int rword, .int rnumber, .long rletters, .int rfaultKind, .int rfaultPlace])), (rtape, .inl (ky 2, 940, .inl rtapeF)), (a, .inr (7, [.int (nI wide), .int (nI high), .int heat, .int cools, .int skinHeat, .int today, .int stirs, .int steps, .int (nI lumps), .int (nI boats), .ref thickness, .ref lumpNames, .ref lumpCells, .ref boatNames, .ref boatCells, .ref loads, .ref spoons, .ref spoonsLeft, .ref depths])), (boatNames, .inl (ky 1, 6, .inr (.inl boatNamesF)))] H := hP
  have hD : va_D A [(bk, .inr (0, [.ref blines, .int (nI 0), .int blived, .int bwhyWrong, .int bfineLines, .int bdayThen, .int beatenThen])), (blines, .inl (ky 0, 160, .inl blinesF)), (reader, .inr (5, [.ref rtape, .int (nI rlength), .int (nI rmostBytes), .int (nI rplace), .int rkind, .int (nI rbegin), .int rword, .int rnumber, .long rletters, .int rfaultKind, .int rfaultPlace])), (rtape, .inl (ky 2, 940, .inl rtapeF)), (a, .inr (7, [.int (nI wide), .int (nI high), .int heat, .int cools, .int skinHeat, .int today, .int stirs, .int steps, .int (nI lumps), .int (nI boats), .ref thickness, .ref lumpNames, .ref lumpCells, .ref boatNames, .ref boatCells, .ref loads, .ref spoons, .ref spoonsLeft, .ref depths])), (boatNames, .inl (ky 1, 6, .inr (.inl boatNamesF)))] := hD
  have hL31 : ∀ (n32 : Nat) (k17 : Nat) (f18 : Nat → Int32) (k19 : Nat) (x20 : Int32) (k21 : Nat) (x22 : Int32) (x23 : Int32) (w24 : Int64) (x25 : Int32) (x26 : Int32) (z16 : Nat), (k17 ≤ 40) → (k19 ≤ 940) → (k21 ≤ 940) → (k19 ≤ rlength) → (RT bt rlength rmostBytes z16 x20 k21 k19 x22 x23 w24) → (bLoop bt rlength rmostBytes gnu boats 41 gp 0 = bLoop bt rlength rmostBytes gnu boats (41 - k17) z16 k17) → (x25 = rfaultKind) → (x26 = rfaultPlace) → 41 - k17 < n32 → ∀ (H : Heap) (locs : List Loc) (ls : Array Slot), va_P (dC, dI) vwCl [(bk, .inr (0, [.ref blines, .int (nI k17), .int blived, .int bwhyWrong, .int bfineLines, .int bdayThen, .int beatenThen])), (blines, .inl (ky 0, 160, .inl f18)), (reader, .inr (5, [.ref rtape, .int (nI rlength), .int (nI rmostBytes), .int (nI k19), .int x20, .int (nI k21), .int x22, .int x23, .long w24, .int x25, .int x26])), (rtape, .inl (ky 2, 940, .inl rtapeF)), (a, .inr (7, [.int (nI wide), .int (nI high), .int heat, .int cools, .int skinHeat, .int today, .int stirs, .int steps, .int (nI lumps), .int (nI boats), .ref thickness, .ref lumpNames, .ref lumpCells, .ref boatNames, .ref boatCells, .ref loads, .ref spoons, .ref spoonsLeft, .ref depths])), (boatNames, .inl (ky 1, 6, .inr (.inl boatNamesF)))] H → va_D A [(bk, .inr (0, [.ref blines, .int (nI k17), .int blived, .int bwhyWrong, .int bfineLines, .int bdayThen, .int beatenThen])), (blines, .inl (ky 0, 160, .inl f18)), (reader, .inr (5, [.ref rtape, .int (nI rlength), .int (nI rmostBytes), .int (nI k19), .int x20, .int (nI k21), .int x22, .int x23, .long w24, .int x25, .int x26])), (rtape, .inl (ky 2, 940, .inl rtapeF)), (a, .inr (7, [.int (nI wide), .int (nI high), .int heat, .int cools, .int skinHeat, .int today, .int stirs, .int steps, .int (nI lumps), .int (nI boats), .ref thickness, .ref lumpNames, .ref lumpCells, .ref boatNames, .ref boatCells, .ref loads, .ref spoons, .ref spoonsLeft, .ref depths])), (boatNames, .inl (ky 1, 6, .inr (.inl boatNamesF)))] → va_S A s.heap H locs → lv_has ls 5 [(0, .ref bk), (1, .ref reader), (2, .ref a)] → W p l e (headSpec wsX0_read ({ frames := 8, cells := 0, slots := 0, locals := 185 })).room s m args below meth c H locs 0 0 Q (F0 m 5 ls []) := by
    intro n32
    induction n32 with
    | zero => intro k17 f18 k19 x20 k21 x22 x23 w24 x25 x26 z16 _ _ _ _ _ _ _ _ h9; exact absurd h9 (Nat.not_lt_zero _)
    | succ n32 ih33 =>
      intro k17 f18 k19 x20 k21 x22 x23 w24 x25 x26 z16 j27 j28 j29 j30 jRT jB jFk jFp hm34 H locs ls hP hD hS hl
      refine lv_aload_n hx hb dX0_read_5 rfl (lv_at hl 0 rfl) ?_
      refine va_get (D := (dC, dI)) (ci := 0) (v := .int (nI k17)) (C := RX0) (T := TX0) (N := 7) hx hb hts hin0 hown hK hP 0 rfl rfl 1 (by decide) (hts (.fieldLink RX0 15 "PorridgeSea$Book" "lineCount" "I") (List.mem_of_getElem? (i := 1) rfl)) (fun _ h9 => h9) rfl dX0_read_6 ?_
      refine lv_bipush (v := nI 40) hx hb dX0_read_9 (by decide) ?_
      refine n_icmp_gt (x := k17) (y := 40) (tgt := 115) hx hb (by omega) (by omega) dX0_read_11 (by decide) (fun c35 => by exfalso; omega) (fun c35 => ?_)
      refine lv_aload_n hx hb dX0_read_14 rfl (lv_at hl 1 rfl) ?_
      refine va_get (D := (dC, dI)) (ci := 5) (v := .int x20) (C := RX5) (T := TX5) (N := 11) hx hb hts hin5 hown hK hP 2 rfl rfl 4 (by decide) (hts (.fieldLink RX0 23 "PorridgeSea$Reader" "kind" "I") (List.mem_of_getElem? (i := 2) rfl)) (fun _ h9 => h9) rfl dX0_read_15 ?_
      refine lv_if_eq (tgt := 115) hx hb dX0_read_18 (by decide) (fun c36 => ?_) (fun c36 => ?_)
      · refine lv_iconst (v := nI 1) hx hb dX0_read_115 (by decide) ?_
        rw [hQ]
        exact W.zret (v := nI 1) hx hb hr (by decide) (fun t9 ht9 hW9 => ⟨⟨nI 1, (k17, f18, k19, x20, k21, x22, x23, w24, x25, x26), rfl, ⟨(lf_f_bkRead_1 bt rlength rmostBytes rplace rkind rbegin rword rnumber rletters rfaultKind rfaultPlace rtapeF boats boatNamesF gp gnu k17 k19 x20 k21 x22 x23 w24 x25 x26 z16 n32 iv_rreader_0 iv_rreader_1 iv_rreader_2 iv_rreader_3 hTC iv_a_5 hRT hNL j27 j28 j29 j30 jRT jB jFk jFp hm34 c36), j27, j30, j29⟩, by rw [ht9]; exact hP, va_K.moved hW9.alike hK, hD⟩, hS.F ht9⟩) hS.2.2 dX0_read_116
      · refine lv_aload_n hx hb dX0_read_21 rfl (lv_at hl 1 rfl) ?_
        refine vp_callSi (W.runV (As := []) (rest := []) ⟨hx, hb, hml, hown, hts⟩ (c_f_nextWord l dC dI ky reader rtape rlength rmostBytes k19 x20 k21 x22 x23 w24 x25 x26 iv_rreader_0 j30 iv_rreader_2 j29) (cwV 0 hts gX0_read_X5_nextWord rfl rfl rfl (by decide +kernel) ⟨(Nat.le_of_ble_eq_true rfl), (Nat.le_of_ble_eq_true rfl)⟩) (pre_PV hK hP [2] rfl (ci := 5) (q0 := 2) rfl rfl) rfl rfl hl.1 rfl (lv_room (Nat.le_of_ble_eq_true rfl)) dX0_read_22 ⟨(Nat.le_of_ble_eq_true rfl), (Nat.le_of_ble_eq_true rfl)⟩) (fun r37 p38 => ?_)
        refine vp_callSi (W.runS (As := [.int r37]) (rest := []) ⟨hx, hb, hml, hown, hts⟩ (c_f_sortOf l dC dI ky r37) (va_cwS 1 hts gX0_read_X0_sortOf rfl rfl rfl (by decide +kernel) ⟨(Nat.le_of_ble_eq_true rfl), (Nat.le_of_ble_eq_true rfl)⟩) (pre_PS hK hP [] rfl) rfl rfl hl.1 rfl (lv_room (Nat.le_of_ble_eq_true rfl)) dX0_read_25 ⟨(Nat.le_of_ble_eq_true rfl), (Nat.le_of_ble_eq_true rfl)⟩) (fun r39 p40 => ?_)
        rcases p40 with ⟨rfl, v41⟩ | ⟨rfl, v42⟩ | ⟨rfl, v43⟩ | ⟨rfl, v44⟩ | ⟨rfl, v45⟩ | ⟨rfl, v46⟩ | ⟨rfl, v47, v48, v49, v50, v51, v52⟩
        · refine lv_istore_n (lv' := [(3, .int (nI 0)), (0, .ref bk), (1, .ref reader), (2, .ref a)]) hx hb dX0_read_28 rfl hl (by decide) rfl (fun ls hl => ?_)
          refine lv_iload_n hx hb dX0_read_29 rfl (lv_at hl 0 rfl) ?_
          refine lv_iconst (v := nI 1) hx hb dX0_read_30 (by decide) ?_
          refine lv_icmp_ne (tgt := 45) hx hb dX0_read_31 (by decide) (fun c53 => ?_) (fun c53 => absurd c53 (by decide))
          refine lv_iconst (v := nI 0) hx hb dX0_read_45 (by decide) ?_
          refine lv_istore (lv' := [(4, .int (nI 0)), (3, .int (nI 0)), (0, .ref bk), (1, .ref reader), (2, .ref a)]) hx hb dX0_read_46 hl (by decide) rfl (fun ls hl => ?_)
          refine lv_iload_n hx hb dX0_read_48 rfl (lv_at hl 1 rfl) ?_
          refine lv_iconst (v := (-1 : Int32)) hx hb dX0_read_49 (by decide) ?_
          refine lv_icmp_ne (tgt := 59) hx hb dX0_read_50 (by decide) (fun c54 => ?_) (fun c54 => absurd c54 (by decide))
          refine lv_iload hx hb dX0_read_59 (lv_at hl 0 rfl) ?_
          refine lv_iconst (v := (-1 : Int32)) hx hb dX0_read_61 (by decide) ?_
          refine lv_icmp_ne (tgt := 71) hx hb dX0_read_62 (by decide) (fun c55 => ?_) (fun c55 => absurd c55 (by decide))
          refine lv_aload_n hx hb dX0_read_71 rfl (lv_at hl 2 rfl) ?_
          refine va_get (D := (dC, dI)) (ci := 0) (v := .int (nI k17)) (C := RX0) (T := TX0) (N := 7) hx hb hts hin0 hown hK hP 0 rfl rfl 1 (by decide) (hts (.fieldLink RX0 15 "PorridgeSea$Book" "lineCount" "I") (List.mem_of_getElem? (i := 1) rfl)) (fun _ h9 => h9) rfl dX0_read_72 ?_
          refine lv_bipush (v := nI 40) hx hb dX0_read_75 (by decide) ?_
          refine n_icmp_lt (x := k17) (y := 40) (tgt := 86) hx hb (by omega) (by omega) dX0_read_77 (by decide) (fun c56 => ?_) (fun c56 => ?_)
          · refine lv_aload_n hx hb dX0_read_86 rfl (lv_at hl 3 rfl) ?_
            refine r_call_v (wr := [(bk, .inr (0, [.ref blines, .int (nI k17), .int blived, .int bwhyWrong, .int bfineLines, .int bdayThen, .int beatenThen])), (blines, .inl (ky 0, 160, .inl f18)), (a, .inr (7, [.int (nI wide), .int (nI high), .int heat, .int cools, .int skinHeat, .int today, .int stirs, .int steps, .int (nI lumps), .int (nI boats), .ref thickness, .ref lumpNames, .ref lumpCells, .ref boatNames, .ref boatCells, .ref loads, .ref spoons, .ref spoonsLeft, .ref depths])), (boatNames, .inl (ky 1, 6, .inr (.inl boatNamesF)))]) (va_runV (As := []) (rest := []) ⟨hx, hb, hml, hown, hts⟩ (c_f_adv l dC dI ky H.size adK adV bt reader rtape rlength rmostBytes k19 x20 k21 x22 x23 w24 x25 x26 rtapeF (tT bt rlength rmostBytes z16) iv_rreader_0 j30 iv_rreader_2 j29 hTC jRT.2.2.1) (cwV 0 hts gX0_read_X5_advance rfl rfl rfl (by decide +kernel) ⟨(Nat.le_of_ble_eq_true rfl), (Nat.le_of_ble_eq_true rfl)⟩) (pre_UEV hE hS hA hK hP hD [2, 3] (by decide) rfl (va_recv hK hP (ci := 5) (q0 := 2) rfl rfl)) rfl rfl hl.1 rfl (lv_room (Nat.le_of_ble_eq_true rfl)) dX0_read_87 ⟨(Nat.le_of_ble_eq_true rfl), (Nat.le_of_ble_eq_true rfl)⟩) hP hD hS hA [2, 3] [0, 1, 4, 5] rfl rfl (by decide) (by decide) (fun  u57 H locs p58 hP hD hS => ?_)
            obtain ⟨rplaceG_59, rkindG_60, rbeginG_61, rwordG_62, rnumberG_63, rlettersG_64⟩ := u57
            try dsimp only at p58
            obtain ⟨p65, p66, p67⟩ := p58
            refine W.widen (k := 0) (n := 0) (Nat.le_of_ble_eq_true rfl) (Nat.le_of_ble_eq_true rfl) ?_
            have hP : va_P (dC, dI) vwCl [(bk, .inr (0, [.ref blines, .int (nI k17), .int blived, .int bwhyWrong, .int bfineLines, .int bdayThen, .int beatenThen])), (blines, .inl (ky 0, 160, .inl f18)), (a, .inr (7, [.int (nI wide), .int (nI high), .int heat, .int cools, .int skinHeat, .int today, .int stirs, .int steps, .int (nI lumps), .int (nI boats), .ref thickness, .ref lumpNames, .ref lumpCells, .ref boatNames, .ref boatCells, .ref loads, .ref spoons, .ref spoonsLeft, .ref depths])), (boatNames, .inl (ky 1, 6, .inr (.inl boatNamesF))), (reader, .inr (5, [.ref rtape, .int (nI rlength), .int (nI rmostBytes), .int (nI rplaceG_59), .int rkindG_60, .int (nI rbeginG_61), .int rwordG_62, .int rnumberG_63, .long rlettersG_64, .int x25, .int x26])), (rtape, .inl (ky 2, 940, .inl rtapeF))] H := hP
            have hD : va_D A [(bk, .inr (0, [.ref blines, .int (nI k17), .int blived, .int bwhyWrong, .int bfineLines, .int bdayThen, .int beatenThen])), (blines, .inl (ky 0, 160, .inl f18)), (a, .inr (7, [.int (nI wide), .int (nI high), .int heat, .int cools, .int skinHeat, .int today, .int stirs, .int steps, .int (nI lumps), .int (nI boats), .ref thickness, .ref lumpNames, .ref lumpCells, .ref boatNames, .ref boatCells, .ref loads, .ref spoons, .ref spoonsLeft, .ref depths])), (boatNames, .inl (ky 1, 6, .inr (.inl boatNamesF))), (reader, .inr (5, [.ref rtape, .int (nI rlength), .int (nI rmostBytes), .int (nI rplaceG_59), .int rkindG_60, .int (nI rbeginG_61), .int rwordG_62, .int rnumberG_63, .long rlettersG_64, .int x25, .int x26])), (rtape, .inl (ky 2, 940, .inl rtapeF))] := hD
            refine lv_aload_n hx hb dX0_read_90 rfl (lv_at hl 2 rfl) ?_
            refine lv_aload_n hx hb dX0_read_91 rfl (lv_at hl 3 rfl) ?_
            refine lv_iload_n hx hb dX0_read_92 rfl (lv_at hl 1 rfl) ?_
            refine lv_iload hx hb dX0_read_93 (lv_at hl 0 rfl) ?_
            refine r_call_i (wr := [(a, .inr (7, [.int (nI wide), .int (nI high), .int heat, .int cools, .int skinHeat, .int today, .int stirs, .int steps, .int (nI lumps), .int (nI boats), .ref thickness, .ref lumpNames, .ref lumpCells, .ref boatNames, .ref boatCells, .ref loads, .ref spoons, .ref spoonsLeft, .ref depths])), (boatNames, .inl (ky 1, 6, .inr (.inl boatNamesF)))]) (va_runV (As := [.ref reader, .int (nI 0), .int (nI 0)]) (rest := []) ⟨hx, hb, hml, hown, hts⟩ (c_f_rest0 l dC dI ky H.size adK adV bk blines k17 blived bwhyWrong bfineLines bdayThen beatenThen f18 bt reader rtape rlength rmostBytes rplaceG_59 rkindG_60 rbeginG_61 rwordG_62 rnumberG_63 rlettersG_64 x25 x26 rtapeF (tT bt rlength rmostBytes z16) (nI 0) j27 iv_rreader_0 p65 iv_rreader_2 p66 hTC p67 c56) (cwV 3 hts gX0_read_X0_readRest rfl rfl rfl (by decide +kernel) ⟨(Nat.le_of_ble_eq_true rfl), (Nat.le_of_ble_eq_true rfl)⟩) (pre_UEV hE hS hA hK hP hD [0, 1, 4, 5] (by decide) rfl (va_recv hK hP (ci := 0) (q0 := 0) rfl rfl)) rfl rfl hl.1 rfl (lv_room (Nat.le_of_ble_eq_true rfl)) dX0_read_95 ⟨(Nat.le_of_ble_eq_true rfl), (Nat.le_of_ble_eq_true rfl)⟩) hP hD hS hA [0, 1, 4, 5] [2, 3] rfl rfl (by decide) (by decide) (fun r70 u68 H locs p69 hP hD hS => ?_)
            obtain ⟨blineCountG_71, blinesG_72, rplaceG_73, rkindG_74, rbeginG_75, rwordG_76, rnumberG_77, rlettersG_78, rfaultKindG_79, rfaultPlaceG_80⟩ := u68
            try dsimp only at p69
            obtain ⟨p81, p82, p83, p84⟩ := p69
            refine W.widen (k := 0) (n := 0) (Nat.le_of_ble_eq_true rfl) (Nat.le_of_ble_eq_true rfl) ?_
            have hP : va_P (dC, dI) vwCl [(a, .inr (7, [.int (nI wide), .int (nI high), .int heat, .int cools, .int skinHeat, .int today, .int stirs, .int steps, .int (nI lumps), .int (nI boats), .ref thickness, .ref lumpNames, .ref lumpCells, .ref boatNames, .ref boatCells, .ref loads, .ref spoons, .ref spoonsLeft, .ref depths])), (boatNames, .inl (ky 1, 6, .inr (.inl boatNamesF))), (bk, .inr (0, [.ref blines, .int (nI blineCountG_71), .int blived, .int bwhyWrong, .int bfineLines, .int bdayThen, .int beatenThen])), (blines, .inl (ky 0, 160, .inl blinesG_72)), (reader, .inr (5, [.ref rtape, .int (nI rlength), .int (nI rmostBytes), .int (nI rplaceG_73), .int rkindG_74, .int (nI rbeginG_75), .int rwordG_76, .int rnumberG_77, .long rlettersG_78, .int rfaultKindG_79, .int rfaultPlaceG_80])), (rtape, .inl (ky 2, 940, .inl rtapeF))] H := hP
            have hD : va_D A [(a, .inr (7, [.int (nI wide), .int (nI high), .int heat, .int cools, .int skinHeat, .int today, .int stirs, .int steps, .int (nI lumps), .int (nI boats), .ref thickness, .ref lumpNames, .ref lumpCells, .ref boatNames, .ref boatCells, .ref loads, .ref spoons, .ref spoonsLeft, .ref depths])), (boatNames, .inl (ky 1, 6, .inr (.inl boatNamesF))), (bk, .inr (0, [.ref blines, .int (nI blineCountG_71), .int blived, .int bwhyWrong, .int bfineLines, .int bdayThen, .int beatenThen])), (blines, .inl (ky 0, 160, .inl blinesG_72)), (reader, .inr (5, [.ref rtape, .int (nI rlength), .int (nI rmostBytes), .int (nI rplaceG_73), .int rkindG_74, .int (nI rbeginG_75), .int rwordG_76, .int rnumberG_77, .long rlettersG_78, .int rfaultKindG_79, .int rfaultPlaceG_80])), (rtape, .inl (ky 2, 940, .inl rtapeF))] := hD
            rcases p81 with ⟨rfl, t85, t86, t87, t88, t89⟩ | ⟨rfl, t90, t91, t92⟩
            · refine lv_if_eq (tgt := 110) hx hb dX0_read_98 (by decide) (fun c93 => absurd c93 (by decide)) (fun c93 => ?_)
              refine lv_aload_n hx hb dX0_read_101 rfl (lv_at hl 3 rfl) ?_
              refine lv_bipush (v := nI 59) hx hb dX0_read_102 (by decide) ?_
              refine r_call_i (wr := [(a, .inr (7, [.int (nI wide), .int (nI high), .int heat, .int cools, .int skinHeat, .int today, .int stirs, .int steps, .int (nI lumps), .int (nI boats), .ref thickness, .ref lumpNames, .ref lumpCells, .ref boatNames, .ref boatCells, .ref loads, .ref spoons, .ref spoonsLeft, .ref depths])), (boatNames, .inl (ky 1, 6, .inr (.inl boatNamesF))), (bk, .inr (0, [.ref blines, .int (nI blineCountG_71), .int blived, .int bwhyWrong, .int bfineLines, .int bdayThen, .int beatenThen])), (blines, .inl (ky 0, 160, .inl blinesG_72))]) (va_runV (As := [.int (nI 59)]) (rest := []) ⟨hx, hb, hml, hown, hts⟩ (c_f_takeSign l dC dI ky H.size adK adV bt reader rtape rlength rmostBytes rplaceG_73 rkindG_74 rbeginG_75 rwordG_76 rnumberG_77 rlettersG_78 rfaultKindG_79 rfaultPlaceG_80 rtapeF (okV (bRest bt rlength rmostBytes 7 (tT bt rlength rmostBytes z16))) (nI 59) iv_rreader_0 p83 iv_rreader_2 p84 hTC t86) (cwV 1 hts gX0_read_X5_takeSign rfl rfl rfl (by decide +kernel) ⟨(Nat.le_of_ble_eq_true rfl), (Nat.le_of_ble_eq_true rfl)⟩) (pre_UEV hE hS hA hK hP hD [4, 5] (by decide) rfl (va_recv hK hP (ci := 5) (q0 := 4) rfl rfl)) rfl rfl hl.1 rfl (lv_room (Nat.le_of_ble_eq_true rfl)) dX0_read_104 ⟨(Nat.le_of_ble_eq_true rfl), (Nat.le_of_ble_eq_true rfl)⟩) hP hD hS hA [4, 5] [0, 1, 2, 3] rfl rfl (by decide) (by decide) (fun r96 u94 H locs p95 hP hD hS => ?_)
              obtain ⟨rplaceG_97, rkindG_98, rbeginG_99, rwordG_100, rnumberG_101, rlettersG_102, rfaultKindG_103, rfaultPlaceG_104⟩ := u94
              try dsimp only at p95
              obtain ⟨p105, p106, p107⟩ := p95
              refine W.widen (k := 0) (n := 0) (Nat.le_of_ble_eq_true rfl) (Nat.le_of_ble_eq_true rfl) ?_
              have hP : va_P (dC, dI) vwCl [(a, .inr (7, [.int (nI wide), .int (nI high), .int heat, .int cools, .int skinHeat, .int today, .int stirs, .int steps, .int (nI lumps), .int (nI boats), .ref thickness, .ref lumpNames, .ref lumpCells, .ref boatNames, .ref boatCells, .ref loads, .ref spoons, .ref spoonsLeft, .ref depths])), (boatNames, .inl (ky 1, 6, .inr (.inl boatNamesF))), (bk, .inr (0, [.ref blines, .int (nI blineCountG_71), .int blived, .int bwhyWrong, .int bfineLines, .int bdayThen, .int beatenThen])), (blines, .inl (ky 0, 160, .inl blinesG_72)), (reader, .inr (5, [.ref rtape, .int (nI rlength), .int (nI rmostBytes), .int (nI rplaceG_97), .int rkindG_98, .int (nI rbeginG_99), .int rwordG_100, .int rnumberG_101, .long rlettersG_102, .int rfaultKindG_103, .int rfaultPlaceG_104])), (rtape, .inl (ky 2, 940, .inl rtapeF))] H := hP
              have hD : va_D A [(a, .inr (7, [.int (nI wide), .int (nI high), .int heat, .int cools, .int skinHeat, .int today, .int stirs, .int steps, .int (nI lumps), .int (nI boats), .ref thickness, .ref lumpNames, .ref lumpCells, .ref boatNames, .ref boatCells, .ref loads, .ref spoons, .ref spoonsLeft, .ref depths])), (boatNames, .inl (ky 1, 6, .inr (.inl boatNamesF))), (bk, .inr (0, [.ref blines, .int (nI blineCountG_71), .int blived, .int bwhyWrong, .int bfineLines, .int bdayThen, .int beatenThen])), (blines, .inl (ky 0, 160, .inl blinesG_72)), (reader, .inr (5, [.ref rtape, .int (nI rlength), .int (nI rmostBytes), .int (nI rplaceG_97), .int rkindG_98, .int (nI rbeginG_99), .int rwordG_100, .int rnumberG_101, .long rlettersG_102, .int rfaultKindG_103, .int rfaultPlaceG_104])), (rtape, .inl (ky 2, 940, .inl rtapeF))] := hD
              rcases p105 with ⟨rfl, t108, t109, t110, t111⟩ | ⟨rfl, t112, t113, t114⟩
              · refine lv_if_ne (tgt := 112) hx hb dX0_read_107 (by decide) (fun c115 => ?_) (fun c115 => absurd c115 (by decide))
                refine lv_goto (tgt := 5) hx hb dX0_read_112 (by decide) ?_
                exact ih33 blineCountG_71 blinesG_72 rplaceG_97 rkindG_98 rbeginG_99 rwordG_100 rnumberG_101 rlettersG_102 rfaultKindG_103 rfaultPlaceG_104 (tT bt rlength rmostBytes (okV (bRest bt rlength rmostBytes 7 (tT bt rlength rmostBytes z16)))) p82 (lf_f_bkRead_2 bt rlength rmostBytes rplace rkind rbegin rword rnumber rletters rtapeF boats boatNamesF gp gnu k17 k19 x20 k21 x22 x23 w24 z16 n32 r37 rplaceG_59 rkindG_60 rbeginG_61 rwordG_62 rnumberG_63 rlettersG_64 blineCountG_71 rplaceG_73 rkindG_74 rbeginG_75 rwordG_76 rnumberG_77 rlettersG_78 rplaceG_97 rkindG_98 rbeginG_99 rwordG_100 rnumberG_101 rlettersG_102 iv_rreader_0 iv_rreader_1 iv_rreader_2 iv_rreader_3 hTC iv_a_5 hRT hNL j27 j28 j29 j30 jRT jB hm34 c36 p38 v41 c56 p65 p66 p67 p82 p83 p84 t85 t86 t87 p106 p107 t108 t109) p107 p106 t109 (lf_f_bkRead_3 bt rlength rmostBytes rplace rkind rbegin rword rnumber rletters rtapeF boats boatNamesF gp gnu k17 k19 x20 k21 x22 x23 w24 z16 n32 r37 rplaceG_59 rkindG_60 rbeginG_61 rwordG_62 rnumberG_63 rlettersG_64 blineCountG_71 rplaceG_73 rkindG_74 rbeginG_75 rwordG_76 rnumberG_77 rlettersG_78 rplaceG_97 rkindG_98 rbeginG_99 rwordG_100 rnumberG_101 rlettersG_102 iv_rreader_0 iv_rreader_1 iv_rreader_2 iv_rreader_3 hTC iv_a_5 hRT hNL j27 j28 j29 j30 jRT jB hm34 c36 p38 v41 c56 p65 p66 p67 p82 p83 p84 t85 t86 t87 p106 p107 t108 t109) (lf_f_bkRead_4 adK adV bk blines blineCount blived bwhyWrong bfineLines bdayThen beatenThen blinesF bt reader rtape rlength rmostBytes rplace rkind rbegin rword rnumber rletters rfaultKind rfaultPlace rtapeF a wide high heat cools skinHeat today stirs steps lumps boats thickness lumpNames lumpCells boatNames boatCells loads spoons spoonsLeft depths boatNamesF gp gnu k17 f18 k19 x20 k21 x22 x23 w24 x25 x26 z16 n32 r37 rplaceG_59 rkindG_60 rbeginG_61 rwordG_62 rnumberG_63 rlettersG_64 blineCountG_71 blinesG_72 rplaceG_73 rkindG_74 rbeginG_75 rwordG_76 rnumberG_77 rlettersG_78 rfaultKindG_79 rfaultPlaceG_80 rplaceG_97 rkindG_98 rbeginG_99 rwordG_100 rnumberG_101 rlettersG_102 rfaultKindG_103 rfaultPlaceG_104 iv_bbk_0 iv_rreader_0 iv_rreader_1 iv_rreader_2 iv_rreader_3 hTC iv_a_0 iv_a_1 iv_a_2 iv_a_3 iv_a_4 iv_a_5 hRT hNL j27 j28 j29 j30 jRT jB jFk jFp hm34 c36 p38 v41 c56 p65 p66 p67 p82 p83 p84 t85 t86 t87 t88 t89 p106 p107 t108 t109 t110 t111) (lf_f_bkRead_5 adK adV bk blines blineCount blived bwhyWrong bfineLines bdayThen beatenThen blinesF bt reader rtape rlength rmostBytes rplace rkind rbegin rword rnumber rletters rfaultKind rfaultPlace rtapeF a wide high heat cools skinHeat today stirs steps lumps boats thickness lumpNames lumpCells boatNames boatCells loads spoons spoonsLeft depths boatNamesF gp gnu k17 f18 k19 x20 k21 x22 x23 w24 x25 x26 z16 n32 r37 rplaceG_59 rkindG_60 rbeginG_61 rwordG_62 rnumberG_63 rlettersG_64 blineCountG_71 blinesG_72 rplaceG_73 rkindG_74 rbeginG_75 rwordG_76 rnumberG_77 rlettersG_78 rfaultKindG_79 rfaultPlaceG_80 rplaceG_97 rkindG_98 rbeginG_99 rwordG_100 rnumberG_101 rlettersG_102 rfaultKindG_103 rfaultPlaceG_104 iv_bbk_0 iv_rreader_0 iv_rreader_1 iv_rreader_2 iv_rreader_3 hTC iv_a_0 iv_a_1 iv_a_2 iv_a_3 iv_a_4 iv_a_5 hRT hNL j27 j28 j29 j30 jRT jB jFk jFp hm34 c36 p38 v41 c56 p65 p66 p67 p82 p83 p84 t85 t86 t87 t88 t89 p106 p107 t108 t109 t110 t111) (lf_f_bkRead_6 bt rlength rmostBytes rplace rkind rbegin rword rnumber rletters rtapeF boats boatNamesF gp gnu k17 k19 x20 k21 x22 x23 w24 z16 n32 r37 rplaceG_59 rkindG_60 rbeginG_61 rwordG_62 rnumberG_63 rlettersG_64 blineCountG_71 rplaceG_73 rkindG_74 rbeginG_75 rwordG_76 rnumberG_77 rlettersG_78 rplaceG_97 rkindG_98 rbeginG_99 rwordG_100 rnumberG_101 rlettersG_102 iv_rreader_0 iv_rreader_1 iv_rreader_2 iv_rreader_3 hTC iv_a_5 hRT hNL j27 j28 j29 j30 jRT jB hm34 c36 p38 v41 c56 p65 p66 p67 p82 p83 p84 t85 t86 t87 p106 p107 t108 t109) _ _ _ (hP.sub [2, 3, 4, 5, 0, 1] rfl) (hD.sub [2, 3, 4, 5, 0, 1] (by decide) rfl) hS (lv_sub hl [2, 3, 4] rfl)
              · refine lv_if_ne (tgt := 112) hx hb dX0_read_107 (by decide) (fun c116 => absurd c116 (by decide)) (fun c116 => ?_)
                refine lv_iconst (v := nI 0) hx hb dX0_read_110 (by decide) ?_
                rw [hQ]
                have hP9 := hP.sub (ws' := [(bk, .inr (0, [.ref blines, .int (nI blineCountG_71), .int blived, .int bwhyWrong, .int bfineLines, .int bdayThen, .int beatenThen])), (blines, .inl (ky 0, 160, .inl blinesG_72)), (reader, .inr (5, [.ref rtape, .int (nI rlength), .int (nI rmostBytes), .int (nI rplaceG_97), .int rkindG_98, .int (nI rbeginG_99), .int rwordG_100, .int rnumberG_101, .long rlettersG_102, .int rfaultKindG_103, .int rfaultPlaceG_104])), (rtape, .inl (ky 2, 940, .inl rtapeF)), (a, .inr (7, [.int (nI wide), .int (nI high), .int heat, .int cools, .int skinHeat, .int today, .int stirs, .int steps, .int (nI lumps), .int (nI boats), .ref thickness, .ref lumpNames, .ref lumpCells, .ref boatNames, .ref boatCells, .ref loads, .ref spoons, .ref spoonsLeft, .ref depths])), (boatNames, .inl (ky 1, 6, .inr (.inl boatNamesF)))]) [2, 3, 4, 5, 0, 1] rfl
                have hD9 := hD.sub (ws' := [(bk, .inr (0, [.ref blines, .int (nI blineCountG_71), .int blived, .int bwhyWrong, .int bfineLines, .int bdayThen, .int beatenThen])), (blines, .inl (ky 0, 160, .inl blinesG_72)), (reader, .inr (5, [.ref rtape, .int (nI rlength), .int (nI rmostBytes), .int (nI rplaceG_97), .int rkindG_98, .int (nI rbeginG_99), .int rwordG_100, .int rnumberG_101, .long rlettersG_102, .int rfaultKindG_103, .int rfaultPlaceG_104])), (rtape, .inl (ky 2, 940, .inl rtapeF)), (a, .inr (7, [.int (nI wide), .int (nI high), .int heat, .int cools, .int skinHeat, .int today, .int stirs, .int steps, .int (nI lumps), .int (nI boats), .ref thickness, .ref lumpNames, .ref lumpCells, .ref boatNames, .ref boatCells, .ref loads, .ref spoons, .ref spoonsLeft, .ref depths])), (boatNames, .inl (ky 1, 6, .inr (.inl boatNamesF)))]) [2, 3, 4, 5, 0, 1] (by decide) rfl
                exact W.zret (v := nI 0) hx hb hr (by decide) (fun t9 ht9 hW9 => ⟨⟨nI 0, (blineCountG_71, blinesG_72, rplaceG_97, rkindG_98, rbeginG_99, rwordG_100, rnumberG_101, rlettersG_102, rfaultKindG_103, rfaultPlaceG_104), rfl, ⟨(lf_f_bkRead_7 bt rlength rmostBytes rplace rkind rbegin rword rnumber rletters rfaultKind rfaultPlace rtapeF boats boatNamesF gp gnu k17 k19 x20 k21 x22 x23 w24 x25 x26 z16 n32 r37 rplaceG_59 rkindG_60 rbeginG_61 rwordG_62 rnumberG_63 rlettersG_64 blineCountG_71 rplaceG_73 rkindG_74 rbeginG_75 rwordG_76 rnumberG_77 rlettersG_78 rfaultKindG_79 rfaultPlaceG_80 rplaceG_97 rfaultKindG_103 rfaultPlaceG_104 iv_rreader_0 iv_rreader_1 iv_rreader_2 iv_rreader_3 hTC iv_a_5 hRT hNL j27 j28 j29 j30 jRT jB jFk jFp hm34 c36 p38 v41 c56 p65 p66 p67 p82 p83 p84 t85 t86 t87 t88 t89 p106 t112 t113 t114), p82, p106, p107⟩, by rw [ht9]; exact hP9, va_K.moved hW9.alike hK, hD9⟩, hS.F ht9⟩) hS.2.2 dX0_read_111
            · refine lv_if_eq (tgt := 110) hx hb dX0_read_98 (by decide) (fun c117 => ?_) (fun c117 => absurd (by decide) c117)
              refine lv_iconst (v := nI 0) hx hb dX0_read_110 (by decide) ?_
              rw [hQ]
              have hP9 := hP.sub (ws' := [(bk, .inr (0, [.ref blines, .int (nI blineCountG_71), .int blived, .int bwhyWrong, .int bfineLines, .int bdayThen, .int beatenThen])), (blines, .inl (ky 0, 160, .inl blinesG_72)), (reader, .inr (5, [.ref rtape, .int (nI rlength), .int (nI rmostBytes), .int (nI rplaceG_73), .int rkindG_74, .int (nI rbeginG_75), .int rwordG_76, .int rnumberG_77, .long rlettersG_78, .int rfaultKindG_79, .int rfaultPlaceG_80])), (rtape, .inl (ky 2, 940, .inl rtapeF)), (a, .inr (7, [.int (nI wide), .int (nI high), .int heat, .int cools, .int skinHeat, .int today, .int stirs, .int steps, .int (nI lumps), .int (nI boats), .ref thickness, .ref lumpNames, .ref lumpCells, .ref boatNames, .ref boatCells, .ref loads, .ref spoons, .ref spoonsLeft, .ref depths])), (boatNames, .inl (ky 1, 6, .inr (.inl boatNamesF)))]) [2, 3, 4, 5, 0, 1] rfl
              have hD9 := hD.sub (ws' := [(bk, .inr (0, [.ref blines, .int (nI blineCountG_71), .int blived, .int bwhyWrong, .int bfineLines, .int bdayThen, .int beatenThen])), (blines, .inl (ky 0, 160, .inl blinesG_72)), (reader, .inr (5, [.ref rtape, .int (nI rlength), .int (nI rmostBytes), .int (nI rplaceG_73), .int rkindG_74, .int (nI rbeginG_75), .int rwordG_76, .int rnumberG_77, .long rlettersG_78, .int rfaultKindG_79, .int rfaultPlaceG_80])), (rtape, .inl (ky 2, 940, .inl rtapeF)), (a, .inr (7, [.int (nI wide), .int (nI high), .int heat, .int cools, .int skinHeat, .int today, .int stirs, .int steps, .int (nI lumps), .int (nI boats), .ref thickness, .ref lumpNames, .ref lumpCells, .ref boatNames, .ref boatCells, .ref loads, .ref spoons, .ref spoonsLeft, .ref depths])), (boatNames, .inl (ky 1, 6, .inr (.inl boatNamesF)))]) [2, 3, 4, 5, 0, 1] (by decide) rfl
              exact W.zret (v := nI 0) hx hb hr (by decide) (fun t9 ht9 hW9 => ⟨⟨nI 0, (blineCountG_71, blinesG_72, rplaceG_73, rkindG_74, rbeginG_75, rwordG_76, rnumberG_77, rlettersG_78, rfaultKindG_79, rfaultPlaceG_80), rfl, ⟨(lf_f_bkRead_8 bt rlength rmostBytes rplace rkind rbegin rword rnumber rletters rfaultKind rfaultPlace rtapeF boats boatNamesF gp gnu k17 k19 x20 k21 x22 x23 w24 x25 x26 z16 n32 r37 rplaceG_59 rkindG_60 rbeginG_61 rwordG_62 rnumberG_63 rlettersG_64 rplaceG_73 rfaultKindG_79 rfaultPlaceG_80 iv_rreader_0 iv_rreader_1 iv_rreader_2 iv_rreader_3 hTC iv_a_5 hRT hNL j27 j28 j29 j30 jRT jB jFk jFp hm34 c36 p38 v41 c56 p65 p66 p67 p83 t90 t91 t92), p82, p83, p84⟩, by rw [ht9]; exact hP9, va_K.moved hW9.alike hK, hD9⟩, hS.F ht9⟩) hS.2.2 dX0_read_111
          · refine lv_aload_n hx hb dX0_read_80 rfl (lv_at hl 3 rfl) ?_
            refine lv_iconst (v := nI 4) hx hb dX0_read_81 (by decide) ?_
            refine r_call_i (wr := [(bk, .inr (0, [.ref blines, .int (nI k17), .int blived, .int bwhyWrong, .int bfineLines, .int bdayThen, .int beatenThen])), (blines, .inl (ky 0, 160, .inl f18)), (rtape, .inl (ky 2, 940, .inl rtapeF)), (a, .inr (7, [.int (nI wide), .int (nI high), .int heat, .int cools, .int skinHeat, .int today, .int stirs, .int steps, .int (nI lumps), .int (nI boats), .ref thickness, .ref lumpNames, .ref lumpCells, .ref boatNames, .ref boatCells, .ref loads, .ref spoons, .ref spoonsLeft, .ref depths])), (boatNames, .inl (ky 1, 6, .inr (.inl boatNamesF)))]) (va_runV (As := [.int (nI 4)]) (rest := []) ⟨hx, hb, hml, hown, hts⟩ (c_f_refuse l dC dI ky H.size reader rtape rlength rmostBytes k19 x20 k21 x22 x23 w24 x25 x26 (nI 4) iv_rreader_0 j30 iv_rreader_2 j29) (cwV 1 hts gX0_read_X5_refuse rfl rfl rfl (by decide +kernel) ⟨(Nat.le_of_ble_eq_true rfl), (Nat.le_of_ble_eq_true rfl)⟩) (pre_UV hK hP hD [2] (by decide) rfl (ci := 5) (q0 := 2) rfl rfl) rfl rfl hl.1 rfl (lv_room (Nat.le_of_ble_eq_true rfl)) dX0_read_82 ⟨(Nat.le_of_ble_eq_true rfl), (Nat.le_of_ble_eq_true rfl)⟩) hP hD hS hA [2] [0, 1, 3, 4, 5] rfl rfl (by decide) (by decide) (fun r120 u118 H locs p119 hP hD hS => ?_)
            obtain ⟨rfaultKindG_121, rfaultPlaceG_122⟩ := u118
            try dsimp only at p119
            obtain ⟨p123, p124, p125⟩ := p119
            refine W.widen (k := 0) (n := 0) (Nat.le_of_ble_eq_true rfl) (Nat.le_of_ble_eq_true rfl) ?_
            have hP : va_P (dC, dI) vwCl [(bk, .inr (0, [.ref blines, .int (nI k17), .int blived, .int bwhyWrong, .int bfineLines, .int bdayThen, .int beatenThen])), (blines, .inl (ky 0, 160, .inl f18)), (rtape, .inl (ky 2, 940, .inl rtapeF)), (a, .inr (7, [.int (nI wide), .int (nI high), .int heat, .int cools, .int skinHeat, .int today, .int stirs, .int steps, .int (nI lumps), .int (nI boats), .ref thickness, .ref lumpNames, .ref lumpCells, .ref boatNames, .ref boatCells, .ref loads, .ref spoons, .ref spoonsLeft, .ref depths])), (boatNames, .inl (ky 1, 6, .inr (.inl boatNamesF))), (reader, .inr (5, [.ref rtape, .int (nI rlength), .int (nI rmostBytes), .int (nI k19), .int x20, .int (nI k21), .int x22, .int x23, .long w24, .int rfaultKindG_121, .int rfaultPlaceG_122]))] H := hP
            have hD : va_D A [(bk, .inr (0, [.ref blines, .int (nI k17), .int blived, .int bwhyWrong, .int bfineLines, .int bdayThen, .int beatenThen])), (blines, .inl (ky 0, 160, .inl f18)), (rtape, .inl (ky 2, 940, .inl rtapeF)), (a, .inr (7, [.int (nI wide), .int (nI high), .int heat, .int cools, .int skinHeat, .int today, .int stirs, .int steps, .int (nI lumps), .int (nI boats), .ref thickness, .ref lumpNames, .ref lumpCells, .ref boatNames, .ref boatCells, .ref loads, .ref spoons, .ref spoonsLeft, .ref depths])), (boatNames, .inl (ky 1, 6, .inr (.inl boatNamesF))), (reader, .inr (5, [.ref rtape, .int (nI rlength), .int (nI rmostBytes), .int (nI k19), .int x20, .int (nI k21), .int x22, .int x23, .long w24, .int rfaultKindG_121, .int rfaultPlaceG_122]))] := hD
            subst p123
            rw [hQ]
            have hP9 := hP.sub (ws' := [(bk, .inr (0, [.ref blines, .int (nI k17), .int blived, .int bwhyWrong, .int bfineLines, .int bdayThen, .int beatenThen])), (blines, .inl (ky 0, 160, .inl f18)), (reader, .inr (5, [.ref rtape, .int (nI rlength), .int (nI rmostBytes), .int (nI k19), .int x20, .int (nI k21), .int x22, .int x23, .long w24, .int rfaultKindG_121, .int rfaultPlaceG_122])), (rtape, .inl (ky 2, 940, .inl rtapeF)), (a, .inr (7, [.int (nI wide), .int (nI high), .int heat, .int cools, .int skinHeat, .int today, .int stirs, .int steps, .int (nI lumps), .int (nI boats), .ref thickness, .ref lumpNames, .ref lumpCells, .ref boatNames, .ref boatCells, .ref loads, .ref spoons, .ref spoonsLeft, .ref depths])), (boatNames, .inl (ky 1, 6, .inr (.inl boatNamesF)))]) [0, 1, 5, 2, 3, 4] rfl
            have hD9 := hD.sub (ws' := [(bk, .inr (0, [.ref blines, .int (nI k17), .int blived, .int bwhyWrong, .int bfineLines, .int bdayThen, .int beatenThen])), (blines, .inl (ky 0, 160, .inl f18)), (reader, .inr (5, [.ref rtape, .int (nI rlength), .int (nI rmostBytes), .int (nI k19), .int x20, .int (nI k21), .int x22, .int x23, .long w24, .int rfaultKindG_121, .int rfaultPlaceG_122])), (rtape, .inl (ky 2, 940, .inl rtapeF)), (a, .inr (7, [.int (nI wide), .int (nI high), .int heat, .int cools, .int skinHeat, .int today, .int stirs, .int steps, .int (nI lumps), .int (nI boats), .ref thickness, .ref lumpNames, .ref lumpCells, .ref boatNames, .ref boatCells, .ref loads, .ref spoons, .ref spoonsLeft, .ref depths])), (boatNames, .inl (ky 1, 6, .inr (.inl boatNamesF)))]) [0, 1, 5, 2, 3, 4] (by decide) rfl
            exact W.zret (v := nI 0) hx hb hr (by decide) (fun t9 ht9 hW9 => ⟨⟨nI 0, (k17, f18, k19, x20, k21, x22, x23, w24, rfaultKindG_121, rfaultPlaceG_122), rfl, ⟨(lf_f_bkRead_9 bt rlength rmostBytes rplace rkind rbegin rword rnumber rletters rfaultKind rfaultPlace rtapeF boats boatNamesF gp gnu k17 k19 x20 k21 x22 x23 w24 x25 x26 z16 n32 r37 rfaultKindG_121 rfaultPlaceG_122 iv_rreader_0 iv_rreader_1 iv_rreader_2 iv_rreader_3 hTC iv_a_5 hRT hNL j27 j28 j29 j30 jRT jB jFk jFp hm34 c36 p38 v41 c56 p124 p125), j27, j30, j29⟩, by rw [ht9]; exact hP9, va_K.moved hW9.alike hK, hD9⟩, hS.F ht9⟩) hS.2.2 dX0_read_85
        · refine lv_istore_n (lv' := [(3, .int (nI 1)), (0, .ref bk), (1, .ref reader), (2, .ref a)]) hx hb dX0_read_28 rfl hl (by decide) rfl (fun ls hl => ?_)
          refine lv_iload_n hx hb dX0_read_29 rfl (lv_at hl 0 rfl) ?_
          refine lv_iconst (v := nI 1) hx hb dX0_read_30 (by decide) ?_
          refine lv_icmp_ne (tgt := 45) hx hb dX0_read_31 (by decide) (fun c126 => absurd c126 (by decide)) (fun c126 => ?_)
          refine lv_aload_n hx hb dX0_read_34 rfl (lv_at hl 3 rfl) ?_
          refine lv_aload_n hx hb dX0_read_35 rfl (lv_at hl 2 rfl) ?_
          refine va_get (D := (dC, dI)) (ci := 5) (v := .long w24) (C := RX5) (T := TX5) (N := 11) hx hb hts hin5 hown hK hP 2 rfl rfl 8 (by decide) (hts (.fieldLink RX0 36 "PorridgeSea$Reader" "letters" "J") (List.mem_of_getElem? (i := 3) rfl)) (fun _ h9 => h9) rfl dX0_read_36 ?_
          refine vp_callSi (W.runV (As := [.long w24]) (rest := []) ⟨hx, hb, hml, hown, hts⟩ (c_f_boatNamed l dC dI ky a wide high heat cools skinHeat today stirs steps lumps boats thickness lumpNames lumpCells boatNames boatCells loads spoons spoonsLeft depths boatNamesF w24 iv_a_0 iv_a_1 iv_a_2 iv_a_3 iv_a_4 iv_a_5) (cwV 1 hts gX0_read_X7_boatNamed rfl rfl rfl (by decide +kernel) ⟨(Nat.le_of_ble_eq_true rfl), (Nat.le_of_ble_eq_true rfl)⟩) (pre_PV hK hP [4, 5] rfl (ci := 7) (q0 := 4) rfl rfl) rfl rfl hl.1 rfl (lv_room (Nat.le_of_ble_eq_true rfl)) dX0_read_39 ⟨(Nat.le_of_ble_eq_true rfl), (Nat.le_of_ble_eq_true rfl)⟩) (fun r127 p128 => ?_)
          rcases p128 with ⟨rfl, t133⟩ | ⟨k129, ⟨h131, h132⟩, rfl⟩
          · refine lv_goto (tgt := 46) hx hb dX0_read_42 (by decide) ?_
            refine lv_istore (lv' := [(4, .int (-1 : Int32)), (3, .int (nI 1)), (0, .ref bk), (1, .ref reader), (2, .ref a)]) hx hb dX0_read_46 hl (by decide) rfl (fun ls hl => ?_)
            refine lv_iload_n hx hb dX0_read_48 rfl (lv_at hl 1 rfl) ?_
            refine lv_iconst (v := (-1 : Int32)) hx hb dX0_read_49 (by decide) ?_
            refine lv_icmp_ne (tgt := 59) hx hb dX0_read_50 (by decide) (fun c134 => ?_) (fun c134 => absurd c134 (by decide))
            refine lv_iload hx hb dX0_read_59 (lv_at hl 0 rfl) ?_
            refine lv_iconst (v := (-1 : Int32)) hx hb dX0_read_61 (by decide) ?_
            refine lv_icmp_ne (tgt := 71) hx hb dX0_read_62 (by decide) (fun c135 => absurd c135 (by decide)) (fun c135 => ?_)
            refine lv_aload_n hx hb dX0_read_65 rfl (lv_at hl 3 rfl) ?_
            refine lv_iconst (v := nI 3) hx hb dX0_read_66 (by decide) ?_
            refine r_call_i (wr := [(bk, .inr (0, [.ref blines, .int (nI k17), .int blived, .int bwhyWrong, .int bfineLines, .int bdayThen, .int beatenThen])), (blines, .inl (ky 0, 160, .inl f18)), (rtape, .inl (ky 2, 940, .inl rtapeF)), (a, .inr (7, [.int (nI wide), .int (nI high), .int heat, .int cools, .int skinHeat, .int today, .int stirs, .int steps, .int (nI lumps), .int (nI boats), .ref thickness, .ref lumpNames, .ref lumpCells, .ref boatNames, .ref boatCells, .ref loads, .ref spoons, .ref spoonsLeft, .ref depths])), (boatNames, .inl (ky 1, 6, .inr (.inl boatNamesF)))]) (va_runV (As := [.int (nI 3)]) (rest := []) ⟨hx, hb, hml, hown, hts⟩ (c_f_refuse l dC dI ky H.size reader rtape rlength rmostBytes k19 x20 k21 x22 x23 w24 x25 x26 (nI 3) iv_rreader_0 j30 iv_rreader_2 j29) (cwV 1 hts gX0_read_X5_refuse rfl rfl rfl (by decide +kernel) ⟨(Nat.le_of_ble_eq_true rfl), (Nat.le_of_ble_eq_true rfl)⟩) (pre_UV hK hP hD [2] (by decide) rfl (ci := 5) (q0 := 2) rfl rfl) rfl rfl hl.1 rfl (lv_room (Nat.le_of_ble_eq_true rfl)) dX0_read_67 ⟨(Nat.le_of_ble_eq_true rfl), (Nat.le_of_ble_eq_true rfl)⟩) hP hD hS hA [2] [0, 1, 3, 4, 5] rfl rfl (by decide) (by decide) (fun r138 u136 H locs p137 hP hD hS => ?_)
            obtain ⟨rfaultKindG_139, rfaultPlaceG_140⟩ := u136
            try dsimp only at p137
            obtain ⟨p141, p142, p143⟩ := p137
            refine W.widen (k := 0) (n := 0) (Nat.le_of_ble_eq_true rfl) (Nat.le_of_ble_eq_true rfl) ?_
            have hP : va_P (dC, dI) vwCl [(bk, .inr (0, [.ref blines, .int (nI k17), .int blived, .int bwhyWrong, .int bfineLines, .int bdayThen, .int beatenThen])), (blines, .inl (ky 0, 160, .inl f18)), (rtape, .inl (ky 2, 940, .inl rtapeF)), (a, .inr (7, [.int (nI wide), .int (nI high), .int heat, .int cools, .int skinHeat, .int today, .int stirs, .int steps, .int (nI lumps), .int (nI boats), .ref thickness, .ref lumpNames, .ref lumpCells, .ref boatNames, .ref boatCells, .ref loads, .ref spoons, .ref spoonsLeft, .ref depths])), (boatNames, .inl (ky 1, 6, .inr (.inl boatNamesF))), (reader, .inr (5, [.ref rtape, .int (nI rlength), .int (nI rmostBytes), .int (nI k19), .int x20, .int (nI k21), .int x22, .int x23, .long w24, .int rfaultKindG_139, .int rfaultPlaceG_140]))] H := hP
            have hD : va_D A [(bk, .inr (0, [.ref blines, .int (nI k17), .int blived, .int bwhyWrong, .int bfineLines, .int bdayThen, .int beatenThen])), (blines, .inl (ky 0, 160, .inl f18)), (rtape, .inl (ky 2, 940, .inl rtapeF)), (a, .inr (7, [.int (nI wide), .int (nI high), .int heat, .int cools, .int skinHeat, .int today, .int stirs, .int steps, .int (nI lumps), .int (nI boats), .ref thickness, .ref lumpNames, .ref lumpCells, .ref boatNames, .ref boatCells, .ref loads, .ref spoons, .ref spoonsLeft, .ref depths])), (boatNames, .inl (ky 1, 6, .inr (.inl boatNamesF))), (reader, .inr (5, [.ref rtape, .int (nI rlength), .int (nI rmostBytes), .int (nI k19), .int x20, .int (nI k21), .int x22, .int x23, .long w24, .int rfaultKindG_139, .int rfaultPlaceG_140]))] := hD
            subst p141
            rw [hQ]
            have hP9 := hP.sub (ws' := [(bk, .inr (0, [.ref blines, .int (nI k17), .int blived, .int bwhyWrong, .int bfineLines, .int bdayThen, .int beatenThen])), (blines, .inl (ky 0, 160, .inl f18)), (reader, .inr (5, [.ref rtape, .int (nI rlength), .int (nI rmostBytes), .int (nI k19), .int x20, .int (nI k21), .int x22, .int x23, .long w24, .int rfaultKindG_139, .int rfaultPlaceG_140])), (rtape, .inl (ky 2, 940, .inl rtapeF)), (a, .inr (7, [.int (nI wide), .int (nI high), .int heat, .int cools, .int skinHeat, .int today, .int stirs, .int steps, .int (nI lumps), .int (nI boats), .ref thickness, .ref lumpNames, .ref lumpCells, .ref boatNames, .ref boatCells, .ref loads, .ref spoons, .ref spoonsLeft, .ref depths])), (boatNames, .inl (ky 1, 6, .inr (.inl boatNamesF)))]) [0, 1, 5, 2, 3, 4] rfl
            have hD9 := hD.sub (ws' := [(bk, .inr (0, [.ref blines, .int (nI k17), .int blived, .int bwhyWrong, .int bfineLines, .int bdayThen, .int beatenThen])), (blines, .inl (ky 0, 160, .inl f18)), (reader, .inr (5, [.ref rtape, .int (nI rlength), .int (nI rmostBytes), .int (nI k19), .int x20, .int (nI k21), .int x22, .int x23, .long w24, .int rfaultKindG_139, .int rfaultPlaceG_140])), (rtape, .inl (ky 2, 940, .inl rtapeF)), (a, .inr (7, [.int (nI wide), .int (nI high), .int heat, .int cools, .int skinHeat, .int today, .int stirs, .int steps, .int (nI lumps), .int (nI boats), .ref thickness, .ref lumpNames, .ref lumpCells, .ref boatNames, .ref boatCells, .ref loads, .ref spoons, .ref spoonsLeft, .ref depths])), (boatNames, .inl (ky 1, 6, .inr (.inl boatNamesF)))]) [0, 1, 5, 2, 3, 4] (by decide) rfl
            exact W.zret (v := nI 0) hx hb hr (by decide) (fun t9 ht9 hW9 => ⟨⟨nI 0, (k17, f18, k19, x20, k21, x22, x23, w24, rfaultKindG_139, rfaultPlaceG_140), rfl, ⟨(lf_f_bkRead_10 bt rlength rmostBytes rplace rkind rbegin rword rnumber rletters rfaultKind rfaultPlace rtapeF boats boatNamesF gp gnu k17 k19 x20 k21 x22 x23 w24 x25 x26 z16 n32 r37 rfaultKindG_139 rfaultPlaceG_140 iv_rreader_0 iv_rreader_1 iv_rreader_2 iv_rreader_3 hTC iv_a_5 hRT hNL j27 j28 j29 j30 jRT jB jFk jFp hm34 c36 p38 v42 t133 p142 p143), j27, j30, j29⟩, by rw [ht9]; exact hP9, va_K.moved hW9.alike hK, hD9⟩, hS.F ht9⟩) hS.2.2 dX0_read_70
          · refine lv_goto (tgt := 46) hx hb dX0_read_42 (by decide) ?_
            refine lv_istore (lv' := [(4, .int (nI k129)), (3, .int (nI 1)), (0, .ref bk), (1, .ref reader), (2, .ref a)]) hx hb dX0_read_46 hl (by decide) rfl (fun ls hl => ?_)
            refine lv_iload_n hx hb dX0_read_48 rfl (lv_at hl 1 rfl) ?_
            refine lv_iconst (v := (-1 : Int32)) hx hb dX0_read_49 (by decide) ?_
            refine lv_icmp_ne (tgt := 59) hx hb dX0_read_50 (by decide) (fun c144 => ?_) (fun c144 => absurd c144 (by decide))
            refine lv_iload hx hb dX0_read_59 (lv_at hl 0 rfl) ?_
            refine lv_iconst (v := (-1 : Int32)) hx hb dX0_read_61 (by decide) ?_
            refine lv_icmp_ne (tgt := 71) hx hb dX0_read_62 (by decide) (fun c145 => ?_) (fun c145 => absurd c145 (nI_neg (lf_f_bkRead_11 bt rlength rmostBytes rplace rkind rbegin rword rnumber rletters rtapeF boats boatNamesF gp gnu k17 k19 x20 k21 x22 x23 w24 z16 n32 r37 k129 iv_rreader_0 iv_rreader_1 iv_rreader_2 iv_rreader_3 hTC iv_a_5 hRT hNL j27 j28 j29 j30 jRT jB hm34 c36 p38 v42 h131 h132)))
            refine lv_aload_n hx hb dX0_read_71 rfl (lv_at hl 2 rfl) ?_
            refine va_get (D := (dC, dI)) (ci := 0) (v := .int (nI k17)) (C := RX0) (T := TX0) (N := 7) hx hb hts hin0 hown hK hP 0 rfl rfl 1 (by decide) (hts (.fieldLink RX0 15 "PorridgeSea$Book" "lineCount" "I") (List.mem_of_getElem? (i := 1) rfl)) (fun _ h9 => h9) rfl dX0_read_72 ?_
            refine lv_bipush (v := nI 40) hx hb dX0_read_75 (by decide) ?_
            refine n_icmp_lt (x := k17) (y := 40) (tgt := 86) hx hb (by omega) (by omega) dX0_read_77 (by decide) (fun c146 => ?_) (fun c146 => ?_)
            · refine lv_aload_n hx hb dX0_read_86 rfl (lv_at hl 3 rfl) ?_
              refine r_call_v (wr := [(bk, .inr (0, [.ref blines, .int (nI k17), .int blived, .int bwhyWrong, .int bfineLines, .int bdayThen, .int beatenThen])), (blines, .inl (ky 0, 160, .inl f18)), (a, .inr (7, [.int (nI wide), .int (nI high), .int heat, .int cools, .int skinHeat, .int today, .int stirs, .int steps, .int (nI lumps), .int (nI boats), .ref thickness, .ref lumpNames, .ref lumpCells, .ref boatNames, .ref boatCells, .ref loads, .ref spoons, .ref spoonsLeft, .ref depths])), (boatNames, .inl (ky 1, 6, .inr (.inl boatNamesF)))]) (va_runV (As := []) (rest := []) ⟨hx, hb, hml, hown, hts⟩ (c_f_adv l dC dI ky H.size adK adV bt reader rtape rlength rmostBytes k19 x20 k21 x22 x23 w24 x25 x26 rtapeF (tT bt rlength rmostBytes z16) iv_rreader_0 j30 iv_rreader_2 j29 hTC jRT.2.2.1) (cwV 0 hts gX0_read_X5_advance rfl rfl rfl (by decide +kernel) ⟨(Nat.le_of_ble_eq_true rfl), (Nat.le_of_ble_eq_true rfl)⟩) (pre_UEV hE hS hA hK hP hD [2, 3] (by decide) rfl (va_recv hK hP (ci := 5) (q0 := 2) rfl rfl)) rfl rfl hl.1 rfl (lv_room (Nat.le_of_ble_eq_true rfl)) dX0_read_87 ⟨(Nat.le_of_ble_eq_true rfl), (Nat.le_of_ble_eq_true rfl)⟩) hP hD hS hA [2, 3] [0, 1, 4, 5] rfl rfl (by decide) (by decide) (fun  u147 H locs p148 hP hD hS => ?_)
              obtain ⟨rplaceG_149, rkindG_150, rbeginG_151, rwordG_152, rnumberG_153, rlettersG_154⟩ := u147
              try dsimp only at p148
              obtain ⟨p155, p156, p157⟩ := p148
              refine W.widen (k := 0) (n := 0) (Nat.le_of_ble_eq_true rfl) (Nat.le_of_ble_eq_true rfl) ?_
              have hP : va_P (dC, dI) vwCl [(bk, .inr (0, [.ref blines, .int (nI k17), .int blived, .int bwhyWrong, .int bfineLines, .int bdayThen, .int beatenThen])), (blines, .inl (ky 0, 160, .inl f18)), (a, .inr (7, [.int (nI wide), .int (nI high), .int heat, .int cools, .int skinHeat, .int today, .int stirs, .int steps, .int (nI lumps), .int (nI boats), .ref thickness, .ref lumpNames, .ref lumpCells, .ref boatNames, .ref boatCells, .ref loads, .ref spoons, .ref spoonsLeft, .ref depths])), (boatNames, .inl (ky 1, 6, .inr (.inl boatNamesF))), (reader, .inr (5, [.ref rtape, .int (nI rlength), .int (nI rmostBytes), .int (nI rplaceG_149), .int rkindG_150, .int (nI rbeginG_151), .int rwordG_152, .int rnumberG_153, .long rlettersG_154, .int x25, .int x26])), (rtape, .inl (ky 2, 940, .inl rtapeF))] H := hP
              have hD : va_D A [(bk, .inr (0, [.ref blines, .int (nI k17), .int blived, .int bwhyWrong, .int bfineLines, .int bdayThen, .int beatenThen])), (blines, .inl (ky 0, 160, .inl f18)), (a, .inr (7, [.int (nI wide), .int (nI high), .int heat, .int cools, .int skinHeat, .int today, .int stirs, .int steps, .int (nI lumps), .int (nI boats), .ref thickness, .ref lumpNames, .ref lumpCells, .ref boatNames, .ref boatCells, .ref loads, .ref spoons, .ref spoonsLeft, .ref depths])), (boatNames, .inl (ky 1, 6, .inr (.inl boatNamesF))), (reader, .inr (5, [.ref rtape, .int (nI rlength), .int (nI rmostBytes), .int (nI rplaceG_149), .int rkindG_150, .int (nI rbeginG_151), .int rwordG_152, .int rnumberG_153, .long rlettersG_154, .int x25, .int x26])), (rtape, .inl (ky 2, 940, .inl rtapeF))] := hD
              refine lv_aload_n hx hb dX0_read_90 rfl (lv_at hl 2 rfl) ?_
              refine lv_aload_n hx hb dX0_read_91 rfl (lv_at hl 3 rfl) ?_
              refine lv_iload_n hx hb dX0_read_92 rfl (lv_at hl 1 rfl) ?_
              refine lv_iload hx hb dX0_read_93 (lv_at hl 0 rfl) ?_
              refine r_call_i (wr := [(a, .inr (7, [.int (nI wide), .int (nI high), .int heat, .int cools, .int skinHeat, .int today, .int stirs, .int steps, .int (nI lumps), .int (nI boats), .ref thickness, .ref lumpNames, .ref lumpCells, .ref boatNames, .ref boatCells, .ref loads, .ref spoons, .ref spoonsLeft, .ref depths])), (boatNames, .inl (ky 1, 6, .inr (.inl boatNamesF)))]) (va_runV (As := [.ref reader, .int (nI 1), .int (nI k129)]) (rest := []) ⟨hx, hb, hml, hown, hts⟩ (c_f_rest1 l dC dI ky H.size adK adV bk blines k17 blived bwhyWrong bfineLines bdayThen beatenThen f18 bt reader rtape rlength rmostBytes rplaceG_149 rkindG_150 rbeginG_151 rwordG_152 rnumberG_153 rlettersG_154 x25 x26 rtapeF (tT bt rlength rmostBytes z16) (nI k129) j27 iv_rreader_0 p155 iv_rreader_2 p156 hTC p157 c146) (cwV 3 hts gX0_read_X0_readRest rfl rfl rfl (by decide +kernel) ⟨(Nat.le_of_ble_eq_true rfl), (Nat.le_of_ble_eq_true rfl)⟩) (pre_UEV hE hS hA hK hP hD [0, 1, 4, 5] (by decide) rfl (va_recv hK hP (ci := 0) (q0 := 0) rfl rfl)) rfl rfl hl.1 rfl (lv_room (Nat.le_of_ble_eq_true rfl)) dX0_read_95 ⟨(Nat.le_of_ble_eq_true rfl), (Nat.le_of_ble_eq_true rfl)⟩) hP hD hS hA [0, 1, 4, 5] [2, 3] rfl rfl (by decide) (by decide) (fun r160 u158 H locs p159 hP hD hS => ?_)
              obtain ⟨blineCountG_161, blinesG_162, rplaceG_163, rkindG_164, rbeginG_165, rwordG_166, rnumberG_167, rlettersG_168, rfaultKindG_169, rfaultPlaceG_170⟩ := u158
              try dsimp only at p159
              obtain ⟨p171, p172, p173, p174⟩ := p159
              refine W.widen (k := 0) (n := 0) (Nat.le_of_ble_eq_true rfl) (Nat.le_of_ble_eq_true rfl) ?_
              have hP : va_P (dC, dI) vwCl [(a, .inr (7, [.int (nI wide), .int (nI high), .int heat, .int cools, .int skinHeat, .int today, .int stirs, .int steps, .int (nI lumps), .int (nI boats), .ref thickness, .ref lumpNames, .ref lumpCells, .ref boatNames, .ref boatCells, .ref loads, .ref spoons, .ref spoonsLeft, .ref depths])), (boatNames, .inl (ky 1, 6, .inr (.inl boatNamesF))), (bk, .inr (0, [.ref blines, .int (nI blineCountG_161), .int blived, .int bwhyWrong, .int bfineLines, .int bdayThen, .int beatenThen])), (blines, .inl (ky 0, 160, .inl blinesG_162)), (reader, .inr (5, [.ref rtape, .int (nI rlength), .int (nI rmostBytes), .int (nI rplaceG_163), .int rkindG_164, .int (nI rbeginG_165), .int rwordG_166, .int rnumberG_167, .long rlettersG_168, .int rfaultKindG_169, .int rfaultPlaceG_170])), (rtape, .inl (ky 2, 940, .inl rtapeF))] H := hP
              have hD : va_D A [(a, .inr (7, [.int (nI wide), .int (nI high), .int heat, .int cools, .int skinHeat, .int today, .int stirs, .int steps, .int (nI lumps), .int (nI boats), .ref thickness, .ref lumpNames, .ref lumpCells, .ref boatNames, .ref boatCells, .ref loads, .ref spoons, .ref spoonsLeft, .ref depths])), (boatNames, .inl (ky 1, 6, .inr (.inl boatNamesF))), (bk, .inr (0, [.ref blines, .int (nI blineCountG_161), .int blived, .int bwhyWrong, .int bfineLines, .int bdayThen, .int beatenThen])), (blines, .inl (ky 0, 160, .inl blinesG_162)), (reader, .inr (5, [.ref rtape, .int (nI rlength), .int (nI rmostBytes), .int (nI rplaceG_163), .int rkindG_164, .int (nI rbeginG_165), .int rwordG_166, .int rnumberG_167, .long rlettersG_168, .int rfaultKindG_169, .int rfaultPlaceG_170])), (rtape, .inl (ky 2, 940, .inl rtapeF))] := hD
              rcases p171 with ⟨rfl, t175, t176, t177, t178, t179⟩ | ⟨rfl, t180, t181, t182⟩
              · refine lv_if_eq (tgt := 110) hx hb dX0_read_98 (by decide) (fun c183 => absurd c183 (by decide)) (fun c183 => ?_)
                refine lv_aload_n hx hb dX0_read_101 rfl (lv_at hl 3 rfl) ?_
                refine lv_bipush (v := nI 59) hx hb dX0_read_102 (by decide) ?_
                refine r_call_i (wr := [(a, .inr (7, [.int (nI wide), .int (nI high), .int heat, .int cools, .int skinHeat, .int today, .int stirs, .int steps, .int (nI lumps), .int (nI boats), .ref thickness, .ref lumpNames, .ref lumpCells, .ref boatNames, .ref boatCells, .ref loads, .ref spoons, .ref spoonsLeft, .ref depths])), (boatNames, .inl (ky 1, 6, .inr (.inl boatNamesF))), (bk, .inr (0, [.ref blines, .int (nI blineCountG_161), .int blived, .int bwhyWrong, .int bfineLines, .int bdayThen, .int beatenThen])), (blines, .inl (ky 0, 160, .inl blinesG_162))]) (va_runV (As := [.int (nI 59)]) (rest := []) ⟨hx, hb, hml, hown, hts⟩ (c_f_takeSign l dC dI ky H.size adK adV bt reader rtape rlength rmostBytes rplaceG_163 rkindG_164 rbeginG_165 rwordG_166 rnumberG_167 rlettersG_168 rfaultKindG_169 rfaultPlaceG_170 rtapeF (okV (bRest bt rlength rmostBytes 31 (tT bt rlength rmostBytes z16))) (nI 59) iv_rreader_0 p173 iv_rreader_2 p174 hTC t176) (cwV 1 hts gX0_read_X5_takeSign rfl rfl rfl (by decide +kernel) ⟨(Nat.le_of_ble_eq_true rfl), (Nat.le_of_ble_eq_true rfl)⟩) (pre_UEV hE hS hA hK hP hD [4, 5] (by decide) rfl (va_recv hK hP (ci := 5) (q0 := 4) rfl rfl)) rfl rfl hl.1 rfl (lv_room (Nat.le_of_ble_eq_true rfl)) dX0_read_104 ⟨(Nat.le_of_ble_eq_true rfl), (Nat.le_of_ble_eq_true rfl)⟩) hP hD hS hA [4, 5] [0, 1, 2, 3] rfl rfl (by decide) (by decide) (fun r186 u184 H locs p185 hP hD hS => ?_)
                obtain ⟨rplaceG_187, rkindG_188, rbeginG_189, rwordG_190, rnumberG_191, rlettersG_192, rfaultKindG_193, rfaultPlaceG_194⟩ := u184
                try dsimp only at p185
                obtain ⟨p195, p196, p197⟩ := p185
                refine W.widen (k := 0) (n := 0) (Nat.le_of_ble_eq_true rfl) (Nat.le_of_ble_eq_true rfl) ?_
                have hP : va_P (dC, dI) vwCl [(a, .inr (7, [.int (nI wide), .int (nI high), .int heat, .int cools, .int skinHeat, .int today, .int stirs, .int steps, .int (nI lumps), .int (nI boats), .ref thickness, .ref lumpNames, .ref lumpCells, .ref boatNames, .ref boatCells, .ref loads, .ref spoons, .ref spoonsLeft, .ref depths])), (boatNames, .inl (ky 1, 6, .inr (.inl boatNamesF))), (bk, .inr (0, [.ref blines, .int (nI blineCountG_161), .int blived, .int bwhyWrong, .int bfineLines, .int bdayThen, .int beatenThen])), (blines, .inl (ky 0, 160, .inl blinesG_162)), (reader, .inr (5, [.ref rtape, .int (nI rlength), .int (nI rmostBytes), .int (nI rplaceG_187), .int rkindG_188, .int (nI rbeginG_189), .int rwordG_190, .int rnumberG_191, .long rlettersG_192, .int rfaultKindG_193, .int rfaultPlaceG_194])), (rtape, .inl (ky 2, 940, .inl rtapeF))] H := hP
                have hD : va_D A [(a, .inr (7, [.int (nI wide), .int (nI high), .int heat, .int cools, .int skinHeat, .int today, .int stirs, .int steps, .int (nI lumps), .int (nI boats), .ref thickness, .ref lumpNames, .ref lumpCells, .ref boatNames, .ref boatCells, .ref loads, .ref spoons, .ref spoonsLeft, .ref depths])), (boatNames, .inl (ky 1, 6, .inr (.inl boatNamesF))), (bk, .inr (0, [.ref blines, .int (nI blineCountG_161), .int blived, .int bwhyWrong, .int bfineLines, .int bdayThen, .int beatenThen])), (blines, .inl (ky 0, 160, .inl blinesG_162)), (reader, .inr (5, [.ref rtape, .int (nI rlength), .int (nI rmostBytes), .int (nI rplaceG_187), .int rkindG_188, .int (nI rbeginG_189), .int rwordG_190, .int rnumberG_191, .long rlettersG_192, .int rfaultKindG_193, .int rfaultPlaceG_194])), (rtape, .inl (ky 2, 940, .inl rtapeF))] := hD
                rcases p195 with ⟨rfl, t198, t199, t200, t201⟩ | ⟨rfl, t202, t203, t204⟩
                · refine lv_if_ne (tgt := 112) hx hb dX0_read_107 (by decide) (fun c205 => ?_) (fun c205 => absurd c205 (by decide))
                  refine lv_goto (tgt := 5) hx hb dX0_read_112 (by decide) ?_
                  exact ih33 blineCountG_161 blinesG_162 rplaceG_187 rkindG_188 rbeginG_189 rwordG_190 rnumberG_191 rlettersG_192 rfaultKindG_193 rfaultPlaceG_194 (tT bt rlength rmostBytes (okV (bRest bt rlength rmostBytes 31 (tT bt rlength rmostBytes z16)))) p172 (lf_f_bkRead_12 bt rlength rmostBytes rplace rkind rbegin rword rnumber rletters rtapeF boats boatNamesF gp gnu k17 k19 x20 k21 x22 x23 w24 z16 n32 r37 k129 rplaceG_149 rkindG_150 rbeginG_151 rwordG_152 rnumberG_153 rlettersG_154 blineCountG_161 rplaceG_163 rkindG_164 rbeginG_165 rwordG_166 rnumberG_167 rlettersG_168 rplaceG_187 rkindG_188 rbeginG_189 rwordG_190 rnumberG_191 rlettersG_192 iv_rreader_0 iv_rreader_1 iv_rreader_2 iv_rreader_3 hTC iv_a_5 hRT hNL j27 j28 j29 j30 jRT jB hm34 c36 p38 v42 h131 h132 c146 p155 p156 p157 p172 p173 p174 t175 t176 t177 p196 p197 t198 t199) p197 p196 t199 (lf_f_bkRead_13 bt rlength rmostBytes rplace rkind rbegin rword rnumber rletters rtapeF boats boatNamesF gp gnu k17 k19 x20 k21 x22 x23 w24 z16 n32 r37 k129 rplaceG_149 rkindG_150 rbeginG_151 rwordG_152 rnumberG_153 rlettersG_154 blineCountG_161 rplaceG_163 rkindG_164 rbeginG_165 rwordG_166 rnumberG_167 rlettersG_168 rplaceG_187 rkindG_188 rbeginG_189 rwordG_190 rnumberG_191 rlettersG_192 iv_rreader_0 iv_rreader_1 iv_rreader_2 iv_rreader_3 hTC iv_a_5 hRT hNL j27 j28 j29 j30 jRT jB hm34 c36 p38 v42 h131 h132 c146 p155 p156 p157 p172 p173 p174 t175 t176 t177 p196 p197 t198 t199) (lf_f_bkRead_14 adK adV bk blines blineCount blived bwhyWrong bfineLines bdayThen beatenThen blinesF bt reader rtape rlength rmostBytes rplace rkind rbegin rword rnumber rletters rfaultKind rfaultPlace rtapeF a wide high heat cools skinHeat today stirs steps lumps boats thickness lumpNames lumpCells boatNames boatCells loads spoons spoonsLeft depths boatNamesF gp gnu k17 f18 k19 x20 k21 x22 x23 w24 x25 x26 z16 n32 r37 k129 rplaceG_149 rkindG_150 rbeginG_151 rwordG_152 rnumberG_153 rlettersG_154 blineCountG_161 blinesG_162 rplaceG_163 rkindG_164 rbeginG_165 rwordG_166 rnumberG_167 rlettersG_168 rfaultKindG_169 rfaultPlaceG_170 rplaceG_187 rkindG_188 rbeginG_189 rwordG_190 rnumberG_191 rlettersG_192 rfaultKindG_193 rfaultPlaceG_194 iv_bbk_0 iv_rreader_0 iv_rreader_1 iv_rreader_2 iv_rreader_3 hTC iv_a_0 iv_a_1 iv_a_2 iv_a_3 iv_a_4 iv_a_5 hRT hNL j27 j28 j29 j30 jRT jB jFk jFp hm34 c36 p38 v42 h131 h132 c146 p155 p156 p157 p172 p173 p174 t175 t176 t177 t178 t179 p196 p197 t198 t199 t200 t201) (lf_f_bkRead_15 adK adV bk blines blineCount blived bwhyWrong bfineLines bdayThen beatenThen blinesF bt reader rtape rlength rmostBytes rplace rkind rbegin rword rnumber rletters rfaultKind rfaultPlace rtapeF a wide high heat cools skinHeat today stirs steps lumps boats thickness lumpNames lumpCells boatNames boatCells loads spoons spoonsLeft depths boatNamesF gp gnu k17 f18 k19 x20 k21 x22 x23 w24 x25 x26 z16 n32 r37 k129 rplaceG_149 rkindG_150 rbeginG_151 rwordG_152 rnumberG_153 rlettersG_154 blineCountG_161 blinesG_162 rplaceG_163 rkindG_164 rbeginG_165 rwordG_166 rnumberG_167 rlettersG_168 rfaultKindG_169 rfaultPlaceG_170 rplaceG_187 rkindG_188 rbeginG_189 rwordG_190 rnumberG_191 rlettersG_192 rfaultKindG_193 rfaultPlaceG_194 iv_bbk_0 iv_rreader_0 iv_rreader_1 iv_rreader_2 iv_rreader_3 hTC iv_a_0 iv_a_1 iv_a_2 iv_a_3 iv_a_4 iv_a_5 hRT hNL j27 j28 j29 j30 jRT jB jFk jFp hm34 c36 p38 v42 h131 h132 c146 p155 p156 p157 p172 p173 p174 t175 t176 t177 t178 t179 p196 p197 t198 t199 t200 t201) (lf_f_bkRead_16 bt rlength rmostBytes rplace rkind rbegin rword rnumber rletters rtapeF boats boatNamesF gp gnu k17 k19 x20 k21 x22 x23 w24 z16 n32 r37 k129 rplaceG_149 rkindG_150 rbeginG_151 rwordG_152 rnumberG_153 rlettersG_154 blineCountG_161 rplaceG_163 rkindG_164 rbeginG_165 rwordG_166 rnumberG_167 rlettersG_168 rplaceG_187 rkindG_188 rbeginG_189 rwordG_190 rnumberG_191 rlettersG_192 iv_rreader_0 iv_rreader_1 iv_rreader_2 iv_rreader_3 hTC iv_a_5 hRT hNL j27 j28 j29 j30 jRT jB hm34 c36 p38 v42 h131 h132 c146 p155 p156 p157 p172 p173 p174 t175 t176 t177 p196 p197 t198 t199) _ _ _ (hP.sub [2, 3, 4, 5, 0, 1] rfl) (hD.sub [2, 3, 4, 5, 0, 1] (by decide) rfl) hS (lv_sub hl [2, 3, 4] rfl)
                · refine lv_if_ne (tgt := 112) hx hb dX0_read_107 (by decide) (fun c206 => absurd c206 (by decide)) (fun c206 => ?_)
                  refine lv_iconst (v := nI 0) hx hb dX0_read_110 (by decide) ?_
                  rw [hQ]
                  have hP9 := hP.sub (ws' := [(bk, .inr (0, [.ref blines, .int (nI blineCountG_161), .int blived, .int bwhyWrong, .int bfineLines, .int bdayThen, .int beatenThen])), (blines, .inl (ky 0, 160, .inl blinesG_162)), (reader, .inr (5, [.ref rtape, .int (nI rlength), .int (nI rmostBytes), .int (nI rplaceG_187), .int rkindG_188, .int (nI rbeginG_189), .int rwordG_190, .int rnumberG_191, .long rlettersG_192, .int rfaultKindG_193, .int rfaultPlaceG_194])), (rtape, .inl (ky 2, 940, .inl rtapeF)), (a, .inr (7, [.int (nI wide), .int (nI high), .int heat, .int cools, .int skinHeat, .int today, .int stirs, .int steps, .int (nI lumps), .int (nI boats), .ref thickness, .ref lumpNames, .ref lumpCells, .ref boatNames, .ref boatCells, .ref loads, .ref spoons, .ref spoonsLeft, .ref depths])), (boatNames, .inl (ky 1, 6, .inr (.inl boatNamesF)))]) [2, 3, 4, 5, 0, 1] rfl
                  have hD9 := hD.sub (ws' := [(bk, .inr (0, [.ref blines, .int (nI blineCountG_161), .int blived, .int bwhyWrong, .int bfineLines, .int bdayThen, .int beatenThen])), (blines, .inl (ky 0, 160, .inl blinesG_162)), (reader, .inr (5, [.ref rtape, .int (nI rlength), .int (nI rmostBytes), .int (nI rplaceG_187), .int rkindG_188, .int (nI rbeginG_189), .int rwordG_190, .int rnumberG_191, .long rlettersG_192, .int rfaultKindG_193, .int rfaultPlaceG_194])), (rtape, .inl (ky 2, 940, .inl rtapeF)), (a, .inr (7, [.int (nI wide), .int (nI high), .int heat, .int cools, .int skinHeat, .int today, .int stirs, .int steps, .int (nI lumps), .int (nI boats), .ref thickness, .ref lumpNames, .ref lumpCells, .ref boatNames, .ref boatCells, .ref loads, .ref spoons, .ref spoonsLeft, .ref depths])), (boatNames, .inl (ky 1, 6, .inr (.inl boatNamesF)))]) [2, 3, 4, 5, 0, 1] (by decide) rfl
                  exact W.zret (v := nI 0) hx hb hr (by decide) (fun t9 ht9 hW9 => ⟨⟨nI 0, (blineCountG_161, blinesG_162, rplaceG_187, rkindG_188, rbeginG_189, rwordG_190, rnumberG_191, rlettersG_192, rfaultKindG_193, rfaultPlaceG_194), rfl, ⟨(lf_f_bkRead_17 bt rlength rmostBytes rplace rkind rbegin rword rnumber rletters rfaultKind rfaultPlace rtapeF boats boatNamesF gp gnu k17 k19 x20 k21 x22 x23 w24 x25 x26 z16 n32 r37 k129 rplaceG_149 rkindG_150 rbeginG_151 rwordG_152 rnumberG_153 rlettersG_154 blineCountG_161 rplaceG_163 rkindG_164 rbeginG_165 rwordG_166 rnumberG_167 rlettersG_168 rfaultKindG_169 rfaultPlaceG_170 rplaceG_187 rfaultKindG_193 rfaultPlaceG_194 iv_rreader_0 iv_rreader_1 iv_rreader_2 iv_rreader_3 hTC iv_a_5 hRT hNL j27 j28 j29 j30 jRT jB jFk jFp hm34 c36 p38 v42 h131 h132 c146 p155 p156 p157 p172 p173 p174 t175 t176 t177 t178 t179 p196 t202 t203 t204), p172, p196, p197⟩, by rw [ht9]; exact hP9, va_K.moved hW9.alike hK, hD9⟩, hS.F ht9⟩) hS.2.2 dX0_read_111
              · refine lv_if_eq (tgt := 110) hx hb dX0_read_98 (by decide) (fun c207 => ?_) (fun c207 => absurd (by decide) c207)
                refine lv_iconst (v := nI 0) hx hb dX0_read_110 (by decide) ?_
                rw [hQ]
                have hP9 := hP.sub (ws' := [(bk, .inr (0, [.ref blines, .int (nI blineCountG_161), .int blived, .int bwhyWrong, .int bfineLines, .int bdayThen, .int beatenThen])), (blines, .inl (ky 0, 160, .inl blinesG_162)), (reader, .inr (5, [.ref rtape, .int (nI rlength), .int (nI rmostBytes), .int (nI rplaceG_163), .int rkindG_164, .int (nI rbeginG_165), .int rwordG_166, .int rnumberG_167, .long rlettersG_168, .int rfaultKindG_169, .int rfaultPlaceG_170])), (rtape, .inl (ky 2, 940, .inl rtapeF)), (a, .inr (7, [.int (nI wide), .int (nI high), .int heat, .int cools, .int skinHeat, .int today, .int stirs, .int steps, .int (nI lumps), .int (nI boats), .ref thickness, .ref lumpNames, .ref lumpCells, .ref boatNames, .ref boatCells, .ref loads, .ref spoons, .ref spoonsLeft, .ref depths])), (boatNames, .inl (ky 1, 6, .inr (.inl boatNamesF)))]) [2, 3, 4, 5, 0, 1] rfl
                have hD9 := hD.sub (ws' := [(bk, .inr (0, [.ref blines, .int (nI blineCountG_161), .int blived, .int bwhyWrong, .int bfineLines, .int bdayThen, .int beatenThen])), (blines, .inl (ky 0, 160, .inl blinesG_162)), (reader, .inr (5, [.ref rtape, .int (nI rlength), .int (nI rmostBytes), .int (nI rplaceG_163), .int rkindG_164, .int (nI rbeginG_165), .int rwordG_166, .int rnumberG_167, .long rlettersG_168, .int rfaultKindG_169, .int rfaultPlaceG_170])), (rtape, .inl (ky 2, 940, .inl rtapeF)), (a, .inr (7, [.int (nI wide), .int (nI high), .int heat, .int cools, .int skinHeat, .int today, .int stirs, .int steps, .int (nI lumps), .int (nI boats), .ref thickness, .ref lumpNames, .ref lumpCells, .ref boatNames, .ref boatCells, .ref loads, .ref spoons, .ref spoonsLeft, .ref depths])), (boatNames, .inl (ky 1, 6, .inr (.inl boatNamesF)))]) [2, 3, 4, 5, 0, 1] (by decide) rfl
                exact W.zret (v := nI 0) hx hb hr (by decide) (fun t9 ht9 hW9 => ⟨⟨nI 0, (blineCountG_161, blinesG_162, rplaceG_163, rkindG_164, rbeginG_165, rwordG_166, rnumberG_167, rlettersG_168, rfaultKindG_169, rfaultPlaceG_170), rfl, ⟨(lf_f_bkRead_18 bt rlength rmostBytes rplace rkind rbegin rword rnumber rletters rfaultKind rfaultPlace rtapeF boats boatNamesF gp gnu k17 k19 x20 k21 x22 x23 w24 x25 x26 z16 n32 r37 k129 rplaceG_149 rkindG_150 rbeginG_151 rwordG_152 rnumberG_153 rlettersG_154 rplaceG_163 rfaultKindG_169 rfaultPlaceG_170 iv_rreader_0 iv_rreader_1 iv_rreader_2 iv_rreader_3 hTC iv_a_5 hRT hNL j27 j28 j29 j30 jRT jB jFk jFp hm34 c36 p38 v42 h131 h132 c146 p155 p156 p157 p173 t180 t181 t182), p172, p173, p174⟩, by rw [ht9]; exact hP9, va_K.moved hW9.alike hK, hD9⟩, hS.F ht9⟩) hS.2.2 dX0_read_111
            · refine lv_aload_n hx hb dX0_read_80 rfl (lv_at hl 3 rfl) ?_
              refine lv_iconst (v := nI 4) hx hb dX0_read_81 (by decide) ?_
              refine r_call_i (wr := [(bk, .inr (0, [.ref blines, .int (nI k17), .int blived, .int bwhyWrong, .int bfineLines, .int bdayThen, .int beatenThen])), (blines, .inl (ky 0, 160, .inl f18)), (rtape, .inl (ky 2, 940, .inl rtapeF)), (a, .inr (7, [.int (nI wide), .int (nI high), .int heat, .int cools, .int skinHeat, .int today, .int stirs, .int steps, .int (nI lumps), .int (nI boats), .ref thickness, .ref lumpNames, .ref lumpCells, .ref boatNames, .ref boatCells, .ref loads, .ref spoons, .ref spoonsLeft, .ref depths])), (boatNames, .inl (ky 1, 6, .inr (.inl boatNamesF)))]) (va_runV (As := [.int (nI 4)]) (rest := []) ⟨hx, hb, hml, hown, hts⟩ (c_f_refuse l dC dI ky H.size reader rtape rlength rmostBytes k19 x20 k21 x22 x23 w24 x25 x26 (nI 4) iv_rreader_0 j30 iv_rreader_2 j29) (cwV 1 hts gX0_read_X5_refuse rfl rfl rfl (by decide +kernel) ⟨(Nat.le_of_ble_eq_true rfl), (Nat.le_of_ble_eq_true rfl)⟩) (pre_UV hK hP hD [2] (by decide) rfl (ci := 5) (q0 := 2) rfl rfl) rfl rfl hl.1 rfl (lv_room (Nat.le_of_ble_eq_true rfl)) dX0_read_82 ⟨(Nat.le_of_ble_eq_true rfl), (Nat.le_of_ble_eq_true rfl)⟩) hP hD hS hA [2] [0, 1, 3, 4, 5] rfl rfl (by decide) (by decide) (fun r210 u208 H locs p209 hP hD hS => ?_)
              obtain ⟨rfaultKindG_211, rfaultPlaceG_212⟩ := u208
              try dsimp only at p209
              obtain ⟨p213, p214, p215⟩ := p209
              refine W.widen (k := 0) (n := 0) (Nat.le_of_ble_eq_true rfl) (Nat.le_of_ble_eq_true rfl) ?_
              have hP : va_P (dC, dI) vwCl [(bk, .inr (0, [.ref blines, .int (nI k17), .int blived, .int bwhyWrong, .int bfineLines, .int bdayThen, .int beatenThen])), (blines, .inl (ky 0, 160, .inl f18)), (rtape, .inl (ky 2, 940, .inl rtapeF)), (a, .inr (7, [.int (nI wide), .int (nI high), .int heat, .int cools, .int skinHeat, .int today, .int stirs, .int steps, .int (nI lumps), .int (nI boats), .ref thickness, .ref lumpNames, .ref lumpCells, .ref boatNames, .ref boatCells, .ref loads, .ref spoons, .ref spoonsLeft, .ref depths])), (boatNames, .inl (ky 1, 6, .inr (.inl boatNamesF))), (reader, .inr (5, [.ref rtape, .int (nI rlength), .int (nI rmostBytes), .int (nI k19), .int x20, .int (nI k21), .int x22, .int x23, .long w24, .int rfaultKindG_211, .int rfaultPlaceG_212]))] H := hP
              have hD : va_D A [(bk, .inr (0, [.ref blines, .int (nI k17), .int blived, .int bwhyWrong, .int bfineLines, .int bdayThen, .int beatenThen])), (blines, .inl (ky 0, 160, .inl f18)), (rtape, .inl (ky 2, 940, .inl rtapeF)), (a, .inr (7, [.int (nI wide), .int (nI high), .int heat, .int cools, .int skinHeat, .int today, .int stirs, .int steps, .int (nI lumps), .int (nI boats), .ref thickness, .ref lumpNames, .ref lumpCells, .ref boatNames, .ref boatCells, .ref loads, .ref spoons, .ref spoonsLeft, .ref depths])), (boatNames, .inl (ky 1, 6, .inr (.inl boatNamesF))), (reader, .inr (5, [.ref rtape, .int (nI rlength), .int (nI rmostBytes), .int (nI k19), .int x20, .int (nI k21), .int x22, .int x23, .long w24, .int rfaultKindG_211, .int rfaultPlaceG_212]))] := hD
              subst p213
              rw [hQ]
              have hP9 := hP.sub (ws' := [(bk, .inr (0, [.ref blines, .int (nI k17), .int blived, .int bwhyWrong, .int bfineLines, .int bdayThen, .int beatenThen])), (blines, .inl (ky 0, 160, .inl f18)), (reader, .inr (5, [.ref rtape, .int (nI rlength), .int (nI rmostBytes), .int (nI k19), .int x20, .int (nI k21), .int x22, .int x23, .long w24, .int rfaultKindG_211, .int rfaultPlaceG_212])), (rtape, .inl (ky 2, 940, .inl rtapeF)), (a, .inr (7, [.int (nI wide), .int (nI high), .int heat, .int cools, .int skinHeat, .int today, .int stirs, .int steps, .int (nI lumps), .int (nI boats), .ref thickness, .ref lumpNames, .ref lumpCells, .ref boatNames, .ref boatCells, .ref loads, .ref spoons, .ref spoonsLeft, .ref depths])), (boatNames, .inl (ky 1, 6, .inr (.inl boatNamesF)))]) [0, 1, 5, 2, 3, 4] rfl
              have hD9 := hD.sub (ws' := [(bk, .inr (0, [.ref blines, .int (nI k17), .int blived, .int bwhyWrong, .int bfineLines, .int bdayThen, .int beatenThen])), (blines, .inl (ky 0, 160, .inl f18)), (reader, .inr (5, [.ref rtape, .int (nI rlength), .int (nI rmostBytes), .int (nI k19), .int x20, .int (nI k21), .int x22, .int x23, .long w24, .int rfaultKindG_211, .int rfaultPlaceG_212])), (rtape, .inl (ky 2, 940, .inl rtapeF)), (a, .inr (7, [.int (nI wide), .int (nI high), .int heat, .int cools, .int skinHeat, .int today, .int stirs, .int steps, .int (nI lumps), .int (nI boats), .ref thickness, .ref lumpNames, .ref lumpCells, .ref boatNames, .ref boatCells, .ref loads, .ref spoons, .ref spoonsLeft, .ref depths])), (boatNames, .inl (ky 1, 6, .inr (.inl boatNamesF)))]) [0, 1, 5, 2, 3, 4] (by decide) rfl
              exact W.zret (v := nI 0) hx hb hr (by decide) (fun t9 ht9 hW9 => ⟨⟨nI 0, (k17, f18, k19, x20, k21, x22, x23, w24, rfaultKindG_211, rfaultPlaceG_212), rfl, ⟨(lf_f_bkRead_19 bt rlength rmostBytes rplace rkind rbegin rword rnumber rletters rfaultKind rfaultPlace rtapeF boats boatNamesF gp gnu k17 k19 x20 k21 x22 x23 w24 x25 x26 z16 n32 r37 k129 rfaultKindG_211 rfaultPlaceG_212 iv_rreader_0 iv_rreader_1 iv_rreader_2 iv_rreader_3 hTC iv_a_5 hRT hNL j27 j28 j29 j30 jRT jB jFk jFp hm34 c36 p38 v42 h131 h132 c146 p214 p215), j27, j30, j29⟩, by rw [ht9]; exact hP9, va_K.moved hW9.alike hK, hD9⟩, hS.F ht9⟩) hS.2.2 dX0_read_85
        · refine lv_istore_n (lv' := [(3, .int (nI 2)), (0, .ref bk), (1, .ref reader), (2, .ref a)]) hx hb dX0_read_28 rfl hl (by decide) rfl (fun ls hl => ?_)
          refine lv_iload_n hx hb dX0_read_29 rfl (lv_at hl 0 rfl) ?_
          refine lv_iconst (v := nI 1) hx hb dX0_read_30 (by decide) ?_
          refine lv_icmp_ne (tgt := 45) hx hb dX0_read_31 (by decide) (fun c216 => ?_) (fun c216 => absurd c216 (by decide))
          refine lv_iconst (v := nI 0) hx hb dX0_read_45 (by decide) ?_
          refine lv_istore (lv' := [(4, .int (nI 0)), (3, .int (nI 2)), (0, .ref bk), (1, .ref reader), (2, .ref a)]) hx hb dX0_read_46 hl (by decide) rfl (fun ls hl => ?_)
          refine lv_iload_n hx hb dX0_read_48 rfl (lv_at hl 1 rfl) ?_
          refine lv_iconst (v := (-1 : Int32)) hx hb dX0_read_49 (by decide) ?_
          refine lv_icmp_ne (tgt := 59) hx hb dX0_read_50 (by decide) (fun c217 => ?_) (fun c217 => absurd c217 (by decide))
          refine lv_iload hx hb dX0_read_59 (lv_at hl 0 rfl) ?_
          refine lv_iconst (v := (-1 : Int32)) hx hb dX0_read_61 (by decide) ?_
          refine lv_icmp_ne (tgt := 71) hx hb dX0_read_62 (by decide) (fun c218 => ?_) (fun c218 => absurd c218 (by decide))
          refine lv_aload_n hx hb dX0_read_71 rfl (lv_at hl 2 rfl) ?_
          refine va_get (D := (dC, dI)) (ci := 0) (v := .int (nI k17)) (C := RX0) (T := TX0) (N := 7) hx hb hts hin0 hown hK hP 0 rfl rfl 1 (by decide) (hts (.fieldLink RX0 15 "PorridgeSea$Book" "lineCount" "I") (List.mem_of_getElem? (i := 1) rfl)) (fun _ h9 => h9) rfl dX0_read_72 ?_
          refine lv_bipush (v := nI 40) hx hb dX0_read_75 (by decide) ?_
          refine n_icmp_lt (x := k17) (y := 40) (tgt := 86) hx hb (by omega) (by omega) dX0_read_77 (by decide) (fun c219 => ?_) (fun c219 => ?_)
          · refine lv_aload_n hx hb dX0_read_86 rfl (lv_at hl 3 rfl) ?_
            refine r_call_v (wr := [(bk, .inr (0, [.ref blines, .int (nI k17), .int blived, .int bwhyWrong, .int bfineLines, .int bdayThen, .int beatenThen])), (blines, .inl (ky 0, 160, .inl f18)), (a, .inr (7, [.int (nI wide), .int (nI high), .int heat, .int cools, .int skinHeat, .int today, .int stirs, .int steps, .int (nI lumps), .int (nI boats), .ref thickness, .ref lumpNames, .ref lumpCells, .ref boatNames, .ref boatCells, .ref loads, .ref spoons, .ref spoonsLeft, .ref depths])), (boatNames, .inl (ky 1, 6, .inr (.inl boatNamesF)))]) (va_runV (As := []) (rest := []) ⟨hx, hb, hml, hown, hts⟩ (c_f_adv l dC dI ky H.size adK adV bt reader rtape rlength rmostBytes k19 x20 k21 x22 x23 w24 x25 x26 rtapeF (tT bt rlength rmostBytes z16) iv_rreader_0 j30 iv_rreader_2 j29 hTC jRT.2.2.1) (cwV 0 hts gX0_read_X5_advance rfl rfl rfl (by decide +kernel) ⟨(Nat.le_of_ble_eq_true rfl), (Nat.le_of_ble_eq_true rfl)⟩) (pre_UEV hE hS hA hK hP hD [2, 3] (by decide) rfl (va_recv hK hP (ci := 5) (q0 := 2) rfl rfl)) rfl rfl hl.1 rfl (lv_room (Nat.le_of_ble_eq_true rfl)) dX0_read_87 ⟨(Nat.le_of_ble_eq_true rfl), (Nat.le_of_ble_eq_true rfl)⟩) hP hD hS hA [2, 3] [0, 1, 4, 5] rfl rfl (by decide) (by decide) (fun  u220 H locs p221 hP hD hS => ?_)
            obtain ⟨rplaceG_222, rkindG_223, rbeginG_224, rwordG_225, rnumberG_226, rlettersG_227⟩ := u220
            try dsimp only at p221
            obtain ⟨p228, p229, p230⟩ := p221
            refine W.widen (k := 0) (n := 0) (Nat.le_of_ble_eq_true rfl) (Nat.le_of_ble_eq_true rfl) ?_
            have hP : va_P (dC, dI) vwCl [(bk, .inr (0, [.ref blines, .int (nI k17), .int blived, .int bwhyWrong, .int bfineLines, .int bdayThen, .int beatenThen])), (blines, .inl (ky 0, 160, .inl f18)), (a, .inr (7, [.int (nI wide), .int (nI high), .int heat, .int cools, .int skinHeat, .int today, .int stirs, .int steps, .int (nI lumps), .int (nI boats), .ref thickness, .ref lumpNames, .ref lumpCells, .ref boatNames, .ref boatCells, .ref loads, .ref spoons, .ref spoonsLeft, .ref depths])), (boatNames, .inl (ky 1, 6, .inr (.inl boatNamesF))), (reader, .inr (5, [.ref rtape, .int (nI rlength), .int (nI rmostBytes), .int (nI rplaceG_222), .int rkindG_223, .int (nI rbeginG_224), .int rwordG_225, .int rnumberG_226, .long rlettersG_227, .int x25, .int x26])), (rtape, .inl (ky 2, 940, .inl rtapeF))] H := hP
            have hD : va_D A [(bk, .inr (0, [.ref blines, .int (nI k17), .int blived, .int bwhyWrong, .int bfineLines, .int bdayThen, .int beatenThen])), (blines, .inl (ky 0, 160, .inl f18)), (a, .inr (7, [.int (nI wide), .int (nI high), .int heat, .int cools, .int skinHeat, .int today, .int stirs, .int steps, .int (nI lumps), .int (nI boats), .ref thickness, .ref lumpNames, .ref lumpCells, .ref boatNames, .ref boatCells, .ref loads, .ref spoons, .ref spoonsLeft, .ref depths])), (boatNames, .inl (ky 1, 6, .inr (.inl boatNamesF))), (reader, .inr (5, [.ref rtape, .int (nI rlength), .int (nI rmostBytes), .int (nI rplaceG_222), .int rkindG_223, .int (nI rbeginG_224), .int rwordG_225, .int rnumberG_226, .long rlettersG_227, .int x25, .int x26])), (rtape, .inl (ky 2, 940, .inl rtapeF))] := hD
            refine lv_aload_n hx hb dX0_read_90 rfl (lv_at hl 2 rfl) ?_
            refine lv_aload_n hx hb dX0_read_91 rfl (lv_at hl 3 rfl) ?_
            refine lv_iload_n hx hb dX0_read_92 rfl (lv_at hl 1 rfl) ?_
            refine lv_iload hx hb dX0_read_93 (lv_at hl 0 rfl) ?_
            refine r_call_i (wr := [(a, .inr (7, [.int (nI wide), .int (nI high), .int heat, .int cools, .int skinHeat, .int today, .int stirs, .int steps, .int (nI lumps), .int (nI boats), .ref thickness, .ref lumpNames, .ref lumpCells, .ref boatNames, .ref boatCells, .ref loads, .ref spoons, .ref spoonsLeft, .ref depths])), (boatNames, .inl (ky 1, 6, .inr (.inl boatNamesF)))]) (va_runV (As := [.ref reader, .int (nI 2), .int (nI 0)]) (rest := []) ⟨hx, hb, hml, hown, hts⟩ (c_f_rest2 l dC dI ky H.size adK adV bk blines k17 blived bwhyWrong bfineLines bdayThen beatenThen f18 bt reader rtape rlength rmostBytes rplaceG_222 rkindG_223 rbeginG_224 rwordG_225 rnumberG_226 rlettersG_227 x25 x26 rtapeF (tT bt rlength rmostBytes z16) (nI 0) j27 iv_rreader_0 p228 iv_rreader_2 p229 hTC p230 c219) (cwV 3 hts gX0_read_X0_readRest rfl rfl rfl (by decide +kernel) ⟨(Nat.le_of_ble_eq_true rfl), (Nat.le_of_ble_eq_true rfl)⟩) (pre_UEV hE hS hA hK hP hD [0, 1, 4, 5] (by decide) rfl (va_recv hK hP (ci := 0) (q0 := 0) rfl rfl)) rfl rfl hl.1 rfl (lv_room (Nat.le_of_ble_eq_true rfl)) dX0_read_95 ⟨(Nat.le_of_ble_eq_true rfl), (Nat.le_of_ble_eq_true rfl)⟩) hP hD hS hA [0, 1, 4, 5] [2, 3] rfl rfl (by decide) (by decide) (fun r233 u231 H locs p232 hP hD hS => ?_)
            obtain ⟨blineCountG_234, blinesG_235, rplaceG_236, rkindG_237, rbeginG_238, rwordG_239, rnumberG_240, rlettersG_241, rfaultKindG_242, rfaultPlaceG_243⟩ := u231
            try dsimp only at p232
            obtain ⟨p244, p245, p246, p247⟩ := p232
            refine W.widen (k := 0) (n := 0) (Nat.le_of_ble_eq_true rfl) (Nat.le_of_ble_eq_true rfl) ?_
            have hP : va_P (dC, dI) vwCl [(a, .inr (7, [.int (nI wide), .int (nI high), .int heat, .int cools, .int skinHeat, .int today, .int stirs, .int steps, .int (nI lumps), .int (nI boats), .ref thickness, .ref lumpNames, .ref lumpCells, .ref boatNames, .ref boatCells, .ref loads, .ref spoons, .ref spoonsLeft, .ref depths])), (boatNames, .inl (ky 1, 6, .inr (.inl boatNamesF))), (bk, .inr (0, [.ref blines, .int (nI blineCountG_234), .int blived, .int bwhyWrong, .int bfineLines, .int bdayThen, .int beatenThen])), (blines, .inl (ky 0, 160, .inl blinesG_235)), (reader, .inr (5, [.ref rtape, .int (nI rlength), .int (nI rmostBytes), .int (nI rplaceG_236), .int rkindG_237, .int (nI rbeginG_238), .int rwordG_239, .int rnumberG_240, .long rlettersG_241, .int rfaultKindG_242, .int rfaultPlaceG_243])), (rtape, .inl (ky 2, 940, .inl rtapeF))] H := hP
            have hD : va_D A [(a, .inr (7, [.int (nI wide), .int (nI high), .int heat, .int cools, .int skinHeat, .int today, .int stirs, .int steps, .int (nI lumps), .int (nI boats), .ref thickness, .ref lumpNames, .ref lumpCells, .ref boatNames, .ref boatCells, .ref loads, .ref spoons, .ref spoonsLeft, .ref depths])), (boatNames, .inl (ky 1, 6, .inr (.inl boatNamesF))), (bk, .inr (0, [.ref blines, .int (nI blineCountG_234), .int blived, .int bwhyWrong, .int bfineLines, .int bdayThen, .int beatenThen])), (blines, .inl (ky 0, 160, .inl blinesG_235)), (reader, .inr (5, [.ref rtape, .int (nI rlength), .int (nI rmostBytes), .int (nI rplaceG_236), .int rkindG_237, .int (nI rbeginG_238), .int rwordG_239, .int rnumberG_240, .long rlettersG_241, .int rfaultKindG_242, .int rfaultPlaceG_243])), (rtape, .inl (ky 2, 940, .inl rtapeF))] := hD
            rcases p244 with ⟨rfl, t248, t249, t250, t251, t252⟩ | ⟨rfl, t253, t254, t255⟩
            · refine lv_if_eq (tgt := 110) hx hb dX0_read_98 (by decide) (fun c256 => absurd c256 (by decide)) (fun c256 => ?_)
              refine lv_aload_n hx hb dX0_read_101 rfl (lv_at hl 3 rfl) ?_
              refine lv_bipush (v := nI 59) hx hb dX0_read_102 (by decide) ?_
              refine r_call_i (wr := [(a, .inr (7, [.int (nI wide), .int (nI high), .int heat, .int cools, .int skinHeat, .int today, .int stirs, .int steps, .int (nI lumps), .int (nI boats), .ref thickness, .ref lumpNames, .ref lumpCells, .ref boatNames, .ref boatCells, .ref loads, .ref spoons, .ref spoonsLeft, .ref depths])), (boatNames, .inl (ky 1, 6, .inr (.inl boatNamesF))), (bk, .inr (0, [.ref blines, .int (nI blineCountG_234), .int blived, .int bwhyWrong, .int bfineLines, .int bdayThen, .int beatenThen])), (blines, .inl (ky 0, 160, .inl blinesG_235))]) (va_runV (As := [.int (nI 59)]) (rest := []) ⟨hx, hb, hml, hown, hts⟩ (c_f_takeSign l dC dI ky H.size adK adV bt reader rtape rlength rmostBytes rplaceG_236 rkindG_237 rbeginG_238 rwordG_239 rnumberG_240 rlettersG_241 rfaultKindG_242 rfaultPlaceG_243 rtapeF (okV (bRest bt rlength rmostBytes 16 (tT bt rlength rmostBytes z16))) (nI 59) iv_rreader_0 p246 iv_rreader_2 p247 hTC t249) (cwV 1 hts gX0_read_X5_takeSign rfl rfl rfl (by decide +kernel) ⟨(Nat.le_of_ble_eq_true rfl), (Nat.le_of_ble_eq_true rfl)⟩) (pre_UEV hE hS hA hK hP hD [4, 5] (by decide) rfl (va_recv hK hP (ci := 5) (q0 := 4) rfl rfl)) rfl rfl hl.1 rfl (lv_room (Nat.le_of_ble_eq_true rfl)) dX0_read_104 ⟨(Nat.le_of_ble_eq_true rfl), (Nat.le_of_ble_eq_true rfl)⟩) hP hD hS hA [4, 5] [0, 1, 2, 3] rfl rfl (by decide) (by decide) (fun r259 u257 H locs p258 hP hD hS => ?_)
              obtain ⟨rplaceG_260, rkindG_261, rbeginG_262, rwordG_263, rnumberG_264, rlettersG_265, rfaultKindG_266, rfaultPlaceG_267⟩ := u257
              try dsimp only at p258
              obtain ⟨p268, p269, p270⟩ := p258
              refine W.widen (k := 0) (n := 0) (Nat.le_of_ble_eq_true rfl) (Nat.le_of_ble_eq_true rfl) ?_
              have hP : va_P (dC, dI) vwCl [(a, .inr (7, [.int (nI wide), .int (nI high), .int heat, .int cools, .int skinHeat, .int today, .int stirs, .int steps, .int (nI lumps), .int (nI boats), .ref thickness, .ref lumpNames, .ref lumpCells, .ref boatNames, .ref boatCells, .ref loads, .ref spoons, .ref spoonsLeft, .ref depths])), (boatNames, .inl (ky 1, 6, .inr (.inl boatNamesF))), (bk, .inr (0, [.ref blines, .int (nI blineCountG_234), .int blived, .int bwhyWrong, .int bfineLines, .int bdayThen, .int beatenThen])), (blines, .inl (ky 0, 160, .inl blinesG_235)), (reader, .inr (5, [.ref rtape, .int (nI rlength), .int (nI rmostBytes), .int (nI rplaceG_260), .int rkindG_261, .int (nI rbeginG_262), .int rwordG_263, .int rnumberG_264, .long rlettersG_265, .int rfaultKindG_266, .int rfaultPlaceG_267])), (rtape, .inl (ky 2, 940, .inl rtapeF))] H := hP
              have hD : va_D A [(a, .inr (7, [.int (nI wide), .int (nI high), .int heat, .int cools, .int skinHeat, .int today, .int stirs, .int steps, .int (nI lumps), .int (nI boats), .ref thickness, .ref lumpNames, .ref lumpCells, .ref boatNames, .ref boatCells, .ref loads, .ref spoons, .ref spoonsLeft, .ref depths])), (boatNames, .inl (ky 1, 6, .inr (.inl boatNamesF))), (bk, .inr (0, [.ref blines, .int (nI blineCountG_234), .int blived, .int bwhyWrong, .int bfineLines, .int bdayThen, .int beatenThen])), (blines, .inl (ky 0, 160, .inl blinesG_235)), (reader, .inr (5, [.ref rtape, .int (nI rlength), .int (nI rmostBytes), .int (nI rplaceG_260), .int rkindG_261, .int (nI rbeginG_262), .int rwordG_263, .int rnumberG_264, .long rlettersG_265, .int rfaultKindG_266, .int rfaultPlaceG_267])), (rtape, .inl (ky 2, 940, .inl rtapeF))] := hD
              rcases p268 with ⟨rfl, t271, t272, t273, t274⟩ | ⟨rfl, t275, t276, t277⟩
              · refine lv_if_ne (tgt := 112) hx hb dX0_read_107 (by decide) (fun c278 => ?_) (fun c278 => absurd c278 (by decide))
                refine lv_goto (tgt := 5) hx hb dX0_read_112 (by decide) ?_
                exact ih33 blineCountG_234 blinesG_235 rplaceG_260 rkindG_261 rbeginG_262 rwordG_263 rnumberG_264 rlettersG_265 rfaultKindG_266 rfaultPlaceG_267 (tT bt rlength rmostBytes (okV (bRest bt rlength rmostBytes 16 (tT bt rlength rmostBytes z16)))) p245 (lf_f_bkRead_20 bt rlength rmostBytes rplace rkind rbegin rword rnumber rletters rtapeF boats boatNamesF gp gnu k17 k19 x20 k21 x22 x23 w24 z16 n32 r37 rplaceG_222 rkindG_223 rbeginG_224 rwordG_225 rnumberG_226 rlettersG_227 blineCountG_234 rplaceG_236 rkindG_237 rbeginG_238 rwordG_239 rnumberG_240 rlettersG_241 rplaceG_260 rkindG_261 rbeginG_262 rwordG_263 rnumberG_264 rlettersG_265 iv_rreader_0 iv_rreader_1 iv_rreader_2 iv_rreader_3 hTC iv_a_5 hRT hNL j27 j28 j29 j30 jRT jB hm34 c36 p38 v43 c219 p228 p229 p230 p245 p246 p247 t248 t249 t250 p269 p270 t271 t272) p270 p269 t272 (lf_f_bkRead_21 bt rlength rmostBytes rplace rkind rbegin rword rnumber rletters rtapeF boats boatNamesF gp gnu k17 k19 x20 k21 x22 x23 w24 z16 n32 r37 rplaceG_222 rkindG_223 rbeginG_224 rwordG_225 rnumberG_226 rlettersG_227 blineCountG_234 rplaceG_236 rkindG_237 rbeginG_238 rwordG_239 rnumberG_240 rlettersG_241 rplaceG_260 rkindG_261 rbeginG_262 rwordG_263 rnumberG_264 rlettersG_265 iv_rreader_0 iv_rreader_1 iv_rreader_2 iv_rreader_3 hTC iv_a_5 hRT hNL j27 j28 j29 j30 jRT jB hm34 c36 p38 v43 c219 p228 p229 p230 p245 p246 p247 t248 t249 t250 p269 p270 t271 t272) (lf_f_bkRead_22 adK adV bk blines blineCount blived bwhyWrong bfineLines bdayThen beatenThen blinesF bt reader rtape rlength rmostBytes rplace rkind rbegin rword rnumber rletters rfaultKind rfaultPlace rtapeF a wide high heat cools skinHeat today stirs steps lumps boats thickness lumpNames lumpCells boatNames boatCells loads spoons spoonsLeft depths boatNamesF gp gnu k17 f18 k19 x20 k21 x22 x23 w24 x25 x26 z16 n32 r37 rplaceG_222 rkindG_223 rbeginG_224 rwordG_225 rnumberG_226 rlettersG_227 blineCountG_234 blinesG_235 rplaceG_236 rkindG_237 rbeginG_238 rwordG_239 rnumberG_240 rlettersG_241 rfaultKindG_242 rfaultPlaceG_243 rplaceG_260 rkindG_261 rbeginG_262 rwordG_263 rnumberG_264 rlettersG_265 rfaultKindG_266 rfaultPlaceG_267 iv_bbk_0 iv_rreader_0 iv_rreader_1 iv_rreader_2 iv_rreader_3 hTC iv_a_0 iv_a_1 iv_a_2 iv_a_3 iv_a_4 iv_a_5 hRT hNL j27 j28 j29 j30 jRT jB jFk jFp hm34 c36 p38 v43 c219 p228 p229 p230 p245 p246 p247 t248 t249 t250 t251 t252 p269 p270 t271 t272 t273 t274) (lf_f_bkRead_23 adK adV bk blines blineCount blived bwhyWrong bfineLines bdayThen beatenThen blinesF bt reader rtape rlength rmostBytes rplace rkind rbegin rword rnumber rletters rfaultKind rfaultPlace rtapeF a wide high heat cools skinHeat today stirs steps lumps boats thickness lumpNames lumpCells boatNames boatCells loads spoons spoonsLeft depths boatNamesF gp gnu k17 f18 k19 x20 k21 x22 x23 w24 x25 x26 z16 n32 r37 rplaceG_222 rkindG_223 rbeginG_224 rwordG_225 rnumberG_226 rlettersG_227 blineCountG_234 blinesG_235 rplaceG_236 rkindG_237 rbeginG_238 rwordG_239 rnumberG_240 rlettersG_241 rfaultKindG_242 rfaultPlaceG_243 rplaceG_260 rkindG_261 rbeginG_262 rwordG_263 rnumberG_264 rlettersG_265 rfaultKindG_266 rfaultPlaceG_267 iv_bbk_0 iv_rreader_0 iv_rreader_1 iv_rreader_2 iv_rreader_3 hTC iv_a_0 iv_a_1 iv_a_2 iv_a_3 iv_a_4 iv_a_5 hRT hNL j27 j28 j29 j30 jRT jB jFk jFp hm34 c36 p38 v43 c219 p228 p229 p230 p245 p246 p247 t248 t249 t250 t251 t252 p269 p270 t271 t272 t273 t274) (lf_f_bkRead_24 bt rlength rmostBytes rplace rkind rbegin rword rnumber rletters rtapeF boats boatNamesF gp gnu k17 k19 x20 k21 x22 x23 w24 z16 n32 r37 rplaceG_222 rkindG_223 rbeginG_224 rwordG_225 rnumberG_226 rlettersG_227 blineCountG_234 rplaceG_236 rkindG_237 rbeginG_238 rwordG_239 rnumberG_240 rlettersG_241 rplaceG_260 rkindG_261 rbeginG_262 rwordG_263 rnumberG_264 rlettersG_265 iv_rreader_0 iv_rreader_1 iv_rreader_2 iv_rreader_3 hTC iv_a_5 hRT hNL j27 j28 j29 j30 jRT jB hm34 c36 p38 v43 c219 p228 p229 p230 p245 p246 p247 t248 t249 t250 p269 p270 t271 t272) _ _ _ (hP.sub [2, 3, 4, 5, 0, 1] rfl) (hD.sub [2, 3, 4, 5, 0, 1] (by decide) rfl) hS (lv_sub hl [2, 3, 4] rfl)
              · refine lv_if_ne (tgt := 112) hx hb dX0_read_107 (by decide) (fun c279 => absurd c279 (by decide)) (fun c279 => ?_)
                refine lv_iconst (v := nI 0) hx hb dX0_read_110 (by decide) ?_
                rw [hQ]
                have hP9 := hP.sub (ws' := [(bk, .inr (0, [.ref blines, .int (nI blineCountG_234), .int blived, .int bwhyWrong, .int bfineLines, .int bdayThen, .int beatenThen])), (blines, .inl (ky 0, 160, .inl blinesG_235)), (reader, .inr (5, [.ref rtape, .int (nI rlength), .int (nI rmostBytes), .int (nI rplaceG_260), .int rkindG_261, .int (nI rbeginG_262), .int rwordG_263, .int rnumberG_264, .long rlettersG_265, .int rfaultKindG_266, .int rfaultPlaceG_267])), (rtape, .inl (ky 2, 940, .inl rtapeF)), (a, .inr (7, [.int (nI wide), .int (nI high), .int heat, .int cools, .int skinHeat, .int today, .int stirs, .int steps, .int (nI lumps), .int (nI boats), .ref thickness, .ref lumpNames, .ref lumpCells, .ref boatNames, .ref boatCells, .ref loads, .ref spoons, .ref spoonsLeft, .ref depths])), (boatNames, .inl (ky 1, 6, .inr (.inl boatNamesF)))]) [2, 3, 4, 5, 0, 1] rfl
                have hD9 := hD.sub (ws' := [(bk, .inr (0, [.ref blines, .int (nI blineCountG_234), .int blived, .int bwhyWrong, .int bfineLines, .int bdayThen, .int beatenThen])), (blines, .inl (ky 0, 160, .inl blinesG_235)), (reader, .inr (5, [.ref rtape, .int (nI rlength), .int (nI rmostBytes), .int (nI rplaceG_260), .int rkindG_261, .int (nI rbeginG_262), .int rwordG_263, .int rnumberG_264, .long rlettersG_265, .int rfaultKindG_266, .int rfaultPlaceG_267])), (rtape, .inl (ky 2, 940, .inl rtapeF)), (a, .inr (7, [.int (nI wide), .int (nI high), .int heat, .int cools, .int skinHeat, .int today, .int stirs, .int steps, .int (nI lumps), .int (nI boats), .ref thickness, .ref lumpNames, .ref lumpCells, .ref boatNames, .ref boatCells, .ref loads, .ref spoons, .ref spoonsLeft, .ref depths])), (boatNames, .inl (ky 1, 6, .inr (.inl boatNamesF)))]) [2, 3, 4, 5, 0, 1] (by decide) rfl
                exact W.zret (v := nI 0) hx hb hr (by decide) (fun t9 ht9 hW9 => ⟨⟨nI 0, (blineCountG_234, blinesG_235, rplaceG_260, rkindG_261, rbeginG_262, rwordG_263, rnumberG_264, rlettersG_265, rfaultKindG_266, rfaultPlaceG_267), rfl, ⟨(lf_f_bkRead_25 bt rlength rmostBytes rplace rkind rbegin rword rnumber rletters rfaultKind rfaultPlace rtapeF boats boatNamesF gp gnu k17 k19 x20 k21 x22 x23 w24 x25 x26 z16 n32 r37 rplaceG_222 rkindG_223 rbeginG_224 rwordG_225 rnumberG_226 rlettersG_227 blineCountG_234 rplaceG_236 rkindG_237 rbeginG_238 rwordG_239 rnumberG_240 rlettersG_241 rfaultKindG_242 rfaultPlaceG_243 rplaceG_260 rfaultKindG_266 rfaultPlaceG_267 iv_rreader_0 iv_rreader_1 iv_rreader_2 iv_rreader_3 hTC iv_a_5 hRT hNL j27 j28 j29 j30 jRT jB jFk jFp hm34 c36 p38 v43 c219 p228 p229 p230 p245 p246 p247 t248 t249 t250 t251 t252 p269 t275 t276 t277), p245, p269, p270⟩, by rw [ht9]; exact hP9, va_K.moved hW9.alike hK, hD9⟩, hS.F ht9⟩) hS.2.2 dX0_read_111
            · refine lv_if_eq (tgt := 110) hx hb dX0_read_98 (by decide) (fun c280 => ?_) (fun c280 => absurd (by decide) c280)
              refine lv_iconst (v := nI 0) hx hb dX0_read_110 (by decide) ?_
              rw [hQ]
              have hP9 := hP.sub (ws' := [(bk, .inr (0, [.ref blines, .int (nI blineCountG_234), .int blived, .int bwhyWrong, .int bfineLines, .int bdayThen, .int beatenThen])), (blines, .inl (ky 0, 160, .inl blinesG_235)), (reader, .inr (5, [.ref rtape, .int (nI rlength), .int (nI rmostBytes), .int (nI rplaceG_236), .int rkindG_237, .int (nI rbeginG_238), .int rwordG_239, .int rnumberG_240, .long rlettersG_241, .int rfaultKindG_242, .int rfaultPlaceG_243])), (rtape, .inl (ky 2, 940, .inl rtapeF)), (a, .inr (7, [.int (nI wide), .int (nI high), .int heat, .int cools, .int skinHeat, .int today, .int stirs, .int steps, .int (nI lumps), .int (nI boats), .ref thickness, .ref lumpNames, .ref lumpCells, .ref boatNames, .ref boatCells, .ref loads, .ref spoons, .ref spoonsLeft, .ref depths])), (boatNames, .inl (ky 1, 6, .inr (.inl boatNamesF)))]) [2, 3, 4, 5, 0, 1] rfl
              have hD9 := hD.sub (ws' := [(bk, .inr (0, [.ref blines, .int (nI blineCountG_234), .int blived, .int bwhyWrong, .int bfineLines, .int bdayThen, .int beatenThen])), (blines, .inl (ky 0, 160, .inl blinesG_235)), (reader, .inr (5, [.ref rtape, .int (nI rlength), .int (nI rmostBytes), .int (nI rplaceG_236), .int rkindG_237, .int (nI rbeginG_238), .int rwordG_239, .int rnumberG_240, .long rlettersG_241, .int rfaultKindG_242, .int rfaultPlaceG_243])), (rtape, .inl (ky 2, 940, .inl rtapeF)), (a, .inr (7, [.int (nI wide), .int (nI high), .int heat, .int cools, .int skinHeat, .int today, .int stirs, .int steps, .int (nI lumps), .int (nI boats), .ref thickness, .ref lumpNames, .ref lumpCells, .ref boatNames, .ref boatCells, .ref loads, .ref spoons, .ref spoonsLeft, .ref depths])), (boatNames, .inl (ky 1, 6, .inr (.inl boatNamesF)))]) [2, 3, 4, 5, 0, 1] (by decide) rfl
              exact W.zret (v := nI 0) hx hb hr (by decide) (fun t9 ht9 hW9 => ⟨⟨nI 0, (blineCountG_234, blinesG_235, rplaceG_236, rkindG_237, rbeginG_238, rwordG_239, rnumberG_240, rlettersG_241, rfaultKindG_242, rfaultPlaceG_243), rfl, ⟨(lf_f_bkRead_26 bt rlength rmostBytes rplace rkind rbegin rword rnumber rletters rfaultKind rfaultPlace rtapeF boats boatNamesF gp gnu k17 k19 x20 k21 x22 x23 w24 x25 x26 z16 n32 r37 rplaceG_222 rkindG_223 rbeginG_224 rwordG_225 rnumberG_226 rlettersG_227 rplaceG_236 rfaultKindG_242 rfaultPlaceG_243 iv_rreader_0 iv_rreader_1 iv_rreader_2 iv_rreader_3 hTC iv_a_5 hRT hNL j27 j28 j29 j30 jRT jB jFk jFp hm34 c36 p38 v43 c219 p228 p229 p230 p246 t253 t254 t255), p245, p246, p247⟩, by rw [ht9]; exact hP9, va_K.moved hW9.alike hK, hD9⟩, hS.F ht9⟩) hS.2.2 dX0_read_111
          · refine lv_aload_n hx hb dX0_read_80 rfl (lv_at hl 3 rfl) ?_
            refine lv_iconst (v := nI 4) hx hb dX0_read_81 (by decide) ?_
            refine r_call_i (wr := [(bk, .inr (0, [.ref blines, .int (nI k17), .int blived, .int bwhyWrong, .int bfineLines, .int bdayThen, .int beatenThen])), (blines, .inl (ky 0, 160, .inl f18)), (rtape, .inl (ky 2, 940, .inl rtapeF)), (a, .inr (7, [.int (nI wide), .int (nI high), .int heat, .int cools, .int skinHeat, .int today, .int stirs, .int steps, .int (nI lumps), .int (nI boats), .ref thickness, .ref lumpNames, .ref lumpCells, .ref boatNames, .ref boatCells, .ref loads, .ref spoons, .ref spoonsLeft, .ref depths])), (boatNames, .inl (ky 1, 6, .inr (.inl boatNamesF)))]) (va_runV (As := [.int (nI 4)]) (rest := []) ⟨hx, hb, hml, hown, hts⟩ (c_f_refuse l dC dI ky H.size reader rtape rlength rmostBytes k19 x20 k21 x22 x23 w24 x25 x26 (nI 4) iv_rreader_0 j30 iv_rreader_2 j29) (cwV 1 hts gX0_read_X5_refuse rfl rfl rfl (by decide +kernel) ⟨(Nat.le_of_ble_eq_true rfl), (Nat.le_of_ble_eq_true rfl)⟩) (pre_UV hK hP hD [2] (by decide) rfl (ci := 5) (q0 := 2) rfl rfl) rfl rfl hl.1 rfl (lv_room (Nat.le_of_ble_eq_true rfl)) dX0_read_82 ⟨(Nat.le_of_ble_eq_true rfl), (Nat.le_of_ble_eq_true rfl)⟩) hP hD hS hA [2] [0, 1, 3, 4, 5] rfl rfl (by decide) (by decide) (fun r283 u281 H locs p282 hP hD hS => ?_)
            obtain ⟨rfaultKindG_284, rfaultPlaceG_285⟩ := u281
            try dsimp only at p282
            obtain ⟨p286, p287, p288⟩ := p282
            refine W.widen (k := 0) (n := 0) (Nat.le_of_ble_eq_true rfl) (Nat.le_of_ble_eq_true rfl) ?_
            have hP : va_P (dC, dI) vwCl [(bk, .inr (0, [.ref blines, .int (nI k17), .int blived, .int bwhyWrong, .int bfineLines, .int bdayThen, .int beatenThen])), (blines, .inl (ky 0, 160, .inl f18)), (rtape, .inl (ky 2, 940, .inl rtapeF)), (a, .inr (7, [.int (nI wide), .int (nI high), .int heat, .int cools, .int skinHeat, .int today, .int stirs, .int steps, .int (nI lumps), .int (nI boats), .ref thickness, .ref lumpNames, .ref lumpCells, .ref boatNames, .ref boatCells, .ref loads, .ref spoons, .ref spoonsLeft, .ref depths])), (boatNames, .inl (ky 1, 6, .inr (.inl boatNamesF))), (reader, .inr (5, [.ref rtape, .int (nI rlength), .int (nI rmostBytes), .int (nI k19), .int x20, .int (nI k21), .int x22, .int x23, .long w24, .int rfaultKindG_284, .int rfaultPlaceG_285]))] H := hP
            have hD : va_D A [(bk, .inr (0, [.ref blines, .int (nI k17), .int blived, .int bwhyWrong, .int bfineLines, .int bdayThen, .int beatenThen])), (blines, .inl (ky 0, 160, .inl f18)), (rtape, .inl (ky 2, 940, .inl rtapeF)), (a, .inr (7, [.int (nI wide), .int (nI high), .int heat, .int cools, .int skinHeat, .int today, .int stirs, .int steps, .int (nI lumps), .int (nI boats), .ref thickness, .ref lumpNames, .ref lumpCells, .ref boatNames, .ref boatCells, .ref loads, .ref spoons, .ref spoonsLeft, .ref depths])), (boatNames, .inl (ky 1, 6, .inr (.inl boatNamesF))), (reader, .inr (5, [.ref rtape, .int (nI rlength), .int (nI rmostBytes), .int (nI k19), .int x20, .int (nI k21), .int x22, .int x23, .long w24, .int rfaultKindG_284, .int rfaultPlaceG_285]))] := hD
            subst p286
            rw [hQ]
            have hP9 := hP.sub (ws' := [(bk, .inr (0, [.ref blines, .int (nI k17), .int blived, .int bwhyWrong, .int bfineLines, .int bdayThen, .int beatenThen])), (blines, .inl (ky 0, 160, .inl f18)), (reader, .inr (5, [.ref rtape, .int (nI rlength), .int (nI rmostBytes), .int (nI k19), .int x20, .int (nI k21), .int x22, .int x23, .long w24, .int rfaultKindG_284, .int rfaultPlaceG_285])), (rtape, .inl (ky 2, 940, .inl rtapeF)), (a, .inr (7, [.int (nI wide), .int (nI high), .int heat, .int cools, .int skinHeat, .int today, .int stirs, .int steps, .int (nI lumps), .int (nI boats), .ref thickness, .ref lumpNames, .ref lumpCells, .ref boatNames, .ref boatCells, .ref loads, .ref spoons, .ref spoonsLeft, .ref depths])), (boatNames, .inl (ky 1, 6, .inr (.inl boatNamesF)))]) [0, 1, 5, 2, 3, 4] rfl
            have hD9 := hD.sub (ws' := [(bk, .inr (0, [.ref blines, .int (nI k17), .int blived, .int bwhyWrong, .int bfineLines, .int bdayThen, .int beatenThen])), (blines, .inl (ky 0, 160, .inl f18)), (reader, .inr (5, [.ref rtape, .int (nI rlength), .int (nI rmostBytes), .int (nI k19), .int x20, .int (nI k21), .int x22, .int x23, .long w24, .int rfaultKindG_284, .int rfaultPlaceG_285])), (rtape, .inl (ky 2, 940, .inl rtapeF)), (a, .inr (7, [.int (nI wide), .int (nI high), .int heat, .int cools, .int skinHeat, .int today, .int stirs, .int steps, .int (nI lumps), .int (nI boats), .ref thickness, .ref lumpNames, .ref lumpCells, .ref boatNames, .ref boatCells, .ref loads, .ref spoons, .ref spoonsLeft, .ref depths])), (boatNames, .inl (ky 1, 6, .inr (.inl boatNamesF)))]) [0, 1, 5, 2, 3, 4] (by decide) rfl
            exact W.zret (v := nI 0) hx hb hr (by decide) (fun t9 ht9 hW9 => ⟨⟨nI 0, (k17, f18, k19, x20, k21, x22, x23, w24, rfaultKindG_284, rfaultPlaceG_285), rfl, ⟨(lf_f_bkRead_27 bt rlength rmostBytes rplace rkind rbegin rword rnumber rletters rfaultKind rfaultPlace rtapeF boats boatNamesF gp gnu k17 k19 x20 k21 x22 x23 w24 x25 x26 z16 n32 r37 rfaultKindG_284 rfaultPlaceG_285 iv_rreader_0 iv_rreader_1 iv_rreader_2 iv_rreader_3 hTC iv_a_5 hRT hNL j27 j28 j29 j30 jRT jB jFk jFp hm34 c36 p38 v43 c219 p287 p288), j27, j30, j29⟩, by rw [ht9]; exact hP9, va_K.moved hW9.alike hK, hD9⟩, hS.F ht9⟩) hS.2.2 dX0_read_85
        · refine lv_istore_n (lv' := [(3, .int (nI 3)), (0, .ref bk), (1, .ref reader), (2, .ref a)]) hx hb dX0_read_28 rfl hl (by decide) rfl (fun ls hl => ?_)
          refine lv_iload_n hx hb dX0_read_29 rfl (lv_at hl 0 rfl) ?_
          refine lv_iconst (v := nI 1) hx hb dX0_read_30 (by decide) ?_
          refine lv_icmp_ne (tgt := 45) hx hb dX0_read_31 (by decide) (fun c289 => ?_) (fun c289 => absurd c289 (by decide))
          refine lv_iconst (v := nI 0) hx hb dX0_read_45 (by decide) ?_
          refine lv_istore (lv' := [(4, .int (nI 0)), (3, .int (nI 3)), (0, .ref bk), (1, .ref reader), (2, .ref a)]) hx hb dX0_read_46 hl (by decide) rfl (fun ls hl => ?_)
          refine lv_iload_n hx hb dX0_read_48 rfl (lv_at hl 1 rfl) ?_
          refine lv_iconst (v := (-1 : Int32)) hx hb dX0_read_49 (by decide) ?_
          refine lv_icmp_ne (tgt := 59) hx hb dX0_read_50 (by decide) (fun c290 => ?_) (fun c290 => absurd c290 (by decide))
          refine lv_iload hx hb dX0_read_59 (lv_at hl 0 rfl) ?_
          refine lv_iconst (v := (-1 : Int32)) hx hb dX0_read_61 (by decide) ?_
          refine lv_icmp_ne (tgt := 71) hx hb dX0_read_62 (by decide) (fun c291 => ?_) (fun c291 => absurd c291 (by decide))
          refine lv_aload_n hx hb dX0_read_71 rfl (lv_at hl 2 rfl) ?_
          refine va_get (D := (dC, dI)) (ci := 0) (v := .int (nI k17)) (C := RX0) (T := TX0) (N := 7) hx hb hts hin0 hown hK hP 0 rfl rfl 1 (by decide) (hts (.fieldLink RX0 15 "PorridgeSea$Book" "lineCount" "I") (List.mem_of_getElem? (i := 1) rfl)) (fun _ h9 => h9) rfl dX0_read_72 ?_
          refine lv_bipush (v := nI 40) hx hb dX0_read_75 (by decide) ?_
          refine n_icmp_lt (x := k17) (y := 40) (tgt := 86) hx hb (by omega) (by omega) dX0_read_77 (by decide) (fun c292 => ?_) (fun c292 => ?_)
          · refine lv_aload_n hx hb dX0_read_86 rfl (lv_at hl 3 rfl) ?_
            refine r_call_v (wr := [(bk, .inr (0, [.ref blines, .int (nI k17), .int blived, .int bwhyWrong, .int bfineLines, .int bdayThen, .int beatenThen])), (blines, .inl (ky 0, 160, .inl f18)), (a, .inr (7, [.int (nI wide), .int (nI high), .int heat, .int cools, .int skinHeat, .int today, .int stirs, .int steps, .int (nI lumps), .int (nI boats), .ref thickness, .ref lumpNames, .ref lumpCells, .ref boatNames, .ref boatCells, .ref loads, .ref spoons, .ref spoonsLeft, .ref depths])), (boatNames, .inl (ky 1, 6, .inr (.inl boatNamesF)))]) (va_runV (As := []) (rest := []) ⟨hx, hb, hml, hown, hts⟩ (c_f_adv l dC dI ky H.size adK adV bt reader rtape rlength rmostBytes k19 x20 k21 x22 x23 w24 x25 x26 rtapeF (tT bt rlength rmostBytes z16) iv_rreader_0 j30 iv_rreader_2 j29 hTC jRT.2.2.1) (cwV 0 hts gX0_read_X5_advance rfl rfl rfl (by decide +kernel) ⟨(Nat.le_of_ble_eq_true rfl), (Nat.le_of_ble_eq_true rfl)⟩) (pre_UEV hE hS hA hK hP hD [2, 3] (by decide) rfl (va_recv hK hP (ci := 5) (q0 := 2) rfl rfl)) rfl rfl hl.1 rfl (lv_room (Nat.le_of_ble_eq_true rfl)) dX0_read_87 ⟨(Nat.le_of_ble_eq_true rfl), (Nat.le_of_ble_eq_true rfl)⟩) hP hD hS hA [2, 3] [0, 1, 4, 5] rfl rfl (by decide) (by decide) (fun  u293 H locs p294 hP hD hS => ?_)
            obtain ⟨rplaceG_295, rkindG_296, rbeginG_297, rwordG_298, rnumberG_299, rlettersG_300⟩ := u293
            try dsimp only at p294
            obtain ⟨p301, p302, p303⟩ := p294
            refine W.widen (k := 0) (n := 0) (Nat.le_of_ble_eq_true rfl) (Nat.le_of_ble_eq_true rfl) ?_
            have hP : va_P (dC, dI) vwCl [(bk, .inr (0, [.ref blines, .int (nI k17), .int blived, .int bwhyWrong, .int bfineLines, .int bdayThen, .int beatenThen])), (blines, .inl (ky 0, 160, .inl f18)), (a, .inr (7, [.int (nI wide), .int (nI high), .int heat, .int cools, .int skinHeat, .int today, .int stirs, .int steps, .int (nI lumps), .int (nI boats), .ref thickness, .ref lumpNames, .ref lumpCells, .ref boatNames, .ref boatCells, .ref loads, .ref spoons, .ref spoonsLeft, .ref depths])), (boatNames, .inl (ky 1, 6, .inr (.inl boatNamesF))), (reader, .inr (5, [.ref rtape, .int (nI rlength), .int (nI rmostBytes), .int (nI rplaceG_295), .int rkindG_296, .int (nI rbeginG_297), .int rwordG_298, .int rnumberG_299, .long rlettersG_300, .int x25, .int x26])), (rtape, .inl (ky 2, 940, .inl rtapeF))] H := hP
            have hD : va_D A [(bk, .inr (0, [.ref blines, .int (nI k17), .int blived, .int bwhyWrong, .int bfineLines, .int bdayThen, .int beatenThen])), (blines, .inl (ky 0, 160, .inl f18)), (a, .inr (7, [.int (nI wide), .int (nI high), .int heat, .int cools, .int skinHeat, .int today, .int stirs, .int steps, .int (nI lumps), .int (nI boats), .ref thickness, .ref lumpNames, .ref lumpCells, .ref boatNames, .ref boatCells, .ref loads, .ref spoons, .ref spoonsLeft, .ref depths])), (boatNames, .inl (ky 1, 6, .inr (.inl boatNamesF))), (reader, .inr (5, [.ref rtape, .int (nI rlength), .int (nI rmostBytes), .int (nI rplaceG_295), .int rkindG_296, .int (nI rbeginG_297), .int rwordG_298, .int rnumberG_299, .long rlettersG_300, .int x25, .int x26])), (rtape, .inl (ky 2, 940, .inl rtapeF))] := hD
            refine lv_aload_n hx hb dX0_read_90 rfl (lv_at hl 2 rfl) ?_
            refine lv_aload_n hx hb dX0_read_91 rfl (lv_at hl 3 rfl) ?_
            refine lv_iload_n hx hb dX0_read_92 rfl (lv_at hl 1 rfl) ?_
            refine lv_iload hx hb dX0_read_93 (lv_at hl 0 rfl) ?_
            refine r_call_i (wr := [(a, .inr (7, [.int (nI wide), .int (nI high), .int heat, .int cools, .int skinHeat, .int today, .int stirs, .int steps, .int (nI lumps), .int (nI boats), .ref thickness, .ref lumpNames, .ref lumpCells, .ref boatNames, .ref boatCells, .ref loads, .ref spoons, .ref spoonsLeft, .ref depths])), (boatNames, .inl (ky 1, 6, .inr (.inl boatNamesF)))]) (va_runV (As := [.ref reader, .int (nI 3), .int (nI 0)]) (rest := []) ⟨hx, hb, hml, hown, hts⟩ (c_f_rest3 l dC dI ky H.size adK adV bk blines k17 blived bwhyWrong bfineLines bdayThen beatenThen f18 bt reader rtape rlength rmostBytes rplaceG_295 rkindG_296 rbeginG_297 rwordG_298 rnumberG_299 rlettersG_300 x25 x26 rtapeF (tT bt rlength rmostBytes z16) (nI 0) j27 iv_rreader_0 p301 iv_rreader_2 p302 hTC p303 c292) (cwV 3 hts gX0_read_X0_readRest rfl rfl rfl (by decide +kernel) ⟨(Nat.le_of_ble_eq_true rfl), (Nat.le_of_ble_eq_true rfl)⟩) (pre_UEV hE hS hA hK hP hD [0, 1, 4, 5] (by decide) rfl (va_recv hK hP (ci := 0) (q0 := 0) rfl rfl)) rfl rfl hl.1 rfl (lv_room (Nat.le_of_ble_eq_true rfl)) dX0_read_95 ⟨(Nat.le_of_ble_eq_true rfl), (Nat.le_of_ble_eq_true rfl)⟩) hP hD hS hA [0, 1, 4, 5] [2, 3] rfl rfl (by decide) (by decide) (fun r306 u304 H locs p305 hP hD hS => ?_)
            obtain ⟨blineCountG_307, blinesG_308, rplaceG_309, rkindG_310, rbeginG_311, rwordG_312, rnumberG_313, rlettersG_314, rfaultKindG_315, rfaultPlaceG_316⟩ := u304
            try dsimp only at p305
            obtain ⟨p317, p318, p319, p320⟩ := p305
            refine W.widen (k := 0) (n := 0) (Nat.le_of_ble_eq_true rfl) (Nat.le_of_ble_eq_true rfl) ?_
            have hP : va_P (dC, dI) vwCl [(a, .inr (7, [.int (nI wide), .int (nI high), .int heat, .int cools, .int skinHeat, .int today, .int stirs, .int steps, .int (nI lumps), .int (nI boats), .ref thickness, .ref lumpNames, .ref lumpCells, .ref boatNames, .ref boatCells, .ref loads, .ref spoons, .ref spoonsLeft, .ref depths])), (boatNames, .inl (ky 1, 6, .inr (.inl boatNamesF))), (bk, .inr (0, [.ref blines, .int (nI blineCountG_307), .int blived, .int bwhyWrong, .int bfineLines, .int bdayThen, .int beatenThen])), (blines, .inl (ky 0, 160, .inl blinesG_308)), (reader, .inr (5, [.ref rtape, .int (nI rlength), .int (nI rmostBytes), .int (nI rplaceG_309), .int rkindG_310, .int (nI rbeginG_311), .int rwordG_312, .int rnumberG_313, .long rlettersG_314, .int rfaultKindG_315, .int rfaultPlaceG_316])), (rtape, .inl (ky 2, 940, .inl rtapeF))] H := hP
            have hD : va_D A [(a, .inr (7, [.int (nI wide), .int (nI high), .int heat, .int cools, .int skinHeat, .int today, .int stirs, .int steps, .int (nI lumps), .int (nI boats), .ref thickness, .ref lumpNames, .ref lumpCells, .ref boatNames, .ref boatCells, .ref loads, .ref spoons, .ref spoonsLeft, .ref depths])), (boatNames, .inl (ky 1, 6, .inr (.inl boatNamesF))), (bk, .inr (0, [.ref blines, .int (nI blineCountG_307), .int blived, .int bwhyWrong, .int bfineLines, .int bdayThen, .int beatenThen])), (blines, .inl (ky 0, 160, .inl blinesG_308)), (reader, .inr (5, [.ref rtape, .int (nI rlength), .int (nI rmostBytes), .int (nI rplaceG_309), .int rkindG_310, .int (nI rbeginG_311), .int rwordG_312, .int rnumberG_313, .long rlettersG_314, .int rfaultKindG_315, .int rfaultPlaceG_316])), (rtape, .inl (ky 2, 940, .inl rtapeF))] := hD
            rcases p317 with ⟨rfl, t321, t322, t323, t324, t325⟩ | ⟨rfl, t326, t327, t328⟩
            · refine lv_if_eq (tgt := 110) hx hb dX0_read_98 (by decide) (fun c329 => absurd c329 (by decide)) (fun c329 => ?_)
              refine lv_aload_n hx hb dX0_read_101 rfl (lv_at hl 3 rfl) ?_
              refine lv_bipush (v := nI 59) hx hb dX0_read_102 (by decide) ?_
              refine r_call_i (wr := [(a, .inr (7, [.int (nI wide), .int (nI high), .int heat, .int cools, .int skinHeat, .int today, .int stirs, .int steps, .int (nI lumps), .int (nI boats), .ref thickness, .ref lumpNames, .ref lumpCells, .ref boatNames, .ref boatCells, .ref loads, .ref spoons, .ref spoonsLeft, .ref depths])), (boatNames, .inl (ky 1, 6, .inr (.inl boatNamesF))), (bk, .inr (0, [.ref blines, .int (nI blineCountG_307), .int blived, .int bwhyWrong, .int bfineLines, .int bdayThen, .int beatenThen])), (blines, .inl (ky 0, 160, .inl blinesG_308))]) (va_runV (As := [.int (nI 59)]) (rest := []) ⟨hx, hb, hml, hown, hts⟩ (c_f_takeSign l dC dI ky H.size adK adV bt reader rtape rlength rmostBytes rplaceG_309 rkindG_310 rbeginG_311 rwordG_312 rnumberG_313 rlettersG_314 rfaultKindG_315 rfaultPlaceG_316 rtapeF (okV (bRest bt rlength rmostBytes 17 (tT bt rlength rmostBytes z16))) (nI 59) iv_rreader_0 p319 iv_rreader_2 p320 hTC t322) (cwV 1 hts gX0_read_X5_takeSign rfl rfl rfl (by decide +kernel) ⟨(Nat.le_of_ble_eq_true rfl), (Nat.le_of_ble_eq_true rfl)⟩) (pre_UEV hE hS hA hK hP hD [4, 5] (by decide) rfl (va_recv hK hP (ci := 5) (q0 := 4) rfl rfl)) rfl rfl hl.1 rfl (lv_room (Nat.le_of_ble_eq_true rfl)) dX0_read_104 ⟨(Nat.le_of_ble_eq_true rfl), (Nat.le_of_ble_eq_true rfl)⟩) hP hD hS hA [4, 5] [0, 1, 2, 3] rfl rfl (by decide) (by decide) (fun r332 u330 H locs p331 hP hD hS => ?_)
              obtain ⟨rplaceG_333, rkindG_334, rbeginG_335, rwordG_336, rnumberG_337, rlettersG_338, rfaultKindG_339, rfaultPlaceG_340⟩ := u330
              try dsimp only at p331
              obtain ⟨p341, p342, p343⟩ := p331
              refine W.widen (k := 0) (n := 0) (Nat.le_of_ble_eq_true rfl) (Nat.le_of_ble_eq_true rfl) ?_
              have hP : va_P (dC, dI) vwCl [(a, .inr (7, [.int (nI wide), .int (nI high), .int heat, .int cools, .int skinHeat, .int today, .int stirs, .int steps, .int (nI lumps), .int (nI boats), .ref thickness, .ref lumpNames, .ref lumpCells, .ref boatNames, .ref boatCells, .ref loads, .ref spoons, .ref spoonsLeft, .ref depths])), (boatNames, .inl (ky 1, 6, .inr (.inl boatNamesF))), (bk, .inr (0, [.ref blines, .int (nI blineCountG_307), .int blived, .int bwhyWrong, .int bfineLines, .int bdayThen, .int beatenThen])), (blines, .inl (ky 0, 160, .inl blinesG_308)), (reader, .inr (5, [.ref rtape, .int (nI rlength), .int (nI rmostBytes), .int (nI rplaceG_333), .int rkindG_334, .int (nI rbeginG_335), .int rwordG_336, .int rnumberG_337, .long rlettersG_338, .int rfaultKindG_339, .int rfaultPlaceG_340])), (rtape, .inl (ky 2, 940, .inl rtapeF))] H := hP
              have hD : va_D A [(a, .inr (7, [.int (nI wide), .int (nI high), .int heat, .int cools, .int skinHeat, .int today, .int stirs, .int steps, .int (nI lumps), .int (nI boats), .ref thickness, .ref lumpNames, .ref lumpCells, .ref boatNames, .ref boatCells, .ref loads, .ref spoons, .ref spoonsLeft, .ref depths])), (boatNames, .inl (ky 1, 6, .inr (.inl boatNamesF))), (bk, .inr (0, [.ref blines, .int (nI blineCountG_307), .int blived, .int bwhyWrong, .int bfineLines, .int bdayThen, .int beatenThen])), (blines, .inl (ky 0, 160, .inl blinesG_308)), (reader, .inr (5, [.ref rtape, .int (nI rlength), .int (nI rmostBytes), .int (nI rplaceG_333), .int rkindG_334, .int (nI rbeginG_335), .int rwordG_336, .int rnumberG_337, .long rlettersG_338, .int rfaultKindG_339, .int rfaultPlaceG_340])), (rtape, .inl (ky 2, 940, .inl rtapeF))] := hD
              rcases p341 with ⟨rfl, t344, t345, t346, t347⟩ | ⟨rfl, t348, t349, t350⟩
              · refine lv_if_ne (tgt := 112) hx hb dX0_read_107 (by decide) (fun c351 => ?_) (fun c351 => absurd c351 (by decide))
                refine lv_goto (tgt := 5) hx hb dX0_read_112 (by decide) ?_
                exact ih33 blineCountG_307 blinesG_308 rplaceG_333 rkindG_334 rbeginG_335 rwordG_336 rnumberG_337 rlettersG_338 rfaultKindG_339 rfaultPlaceG_340 (tT bt rlength rmostBytes (okV (bRest bt rlength rmostBytes 17 (tT bt rlength rmostBytes z16)))) p318 (lf_f_bkRead_28 bt rlength rmostBytes rplace rkind rbegin rword rnumber rletters rtapeF boats boatNamesF gp gnu k17 k19 x20 k21 x22 x23 w24 z16 n32 r37 rplaceG_295 rkindG_296 rbeginG_297 rwordG_298 rnumberG_299 rlettersG_300 blineCountG_307 rplaceG_309 rkindG_310 rbeginG_311 rwordG_312 rnumberG_313 rlettersG_314 rplaceG_333 rkindG_334 rbeginG_335 rwordG_336 rnumberG_337 rlettersG_338 iv_rreader_0 iv_rreader_1 iv_rreader_2 iv_rreader_3 hTC iv_a_5 hRT hNL j27 j28 j29 j30 jRT jB hm34 c36 p38 v44 c292 p301 p302 p303 p318 p319 p320 t321 t322 t323 p342 p343 t344 t345) p343 p342 t345 (lf_f_bkRead_29 bt rlength rmostBytes rplace rkind rbegin rword rnumber rletters rtapeF boats boatNamesF gp gnu k17 k19 x20 k21 x22 x23 w24 z16 n32 r37 rplaceG_295 rkindG_296 rbeginG_297 rwordG_298 rnumberG_299 rlettersG_300 blineCountG_307 rplaceG_309 rkindG_310 rbeginG_311 rwordG_312 rnumberG_313 rlettersG_314 rplaceG_333 rkindG_334 rbeginG_335 rwordG_336 rnumberG_337 rlettersG_338 iv_rreader_0 iv_rreader_1 iv_rreader_2 iv_rreader_3 hTC iv_a_5 hRT hNL j27 j28 j29 j30 jRT jB hm34 c36 p38 v44 c292 p301 p302 p303 p318 p319 p320 t321 t322 t323 p342 p343 t344 t345) (lf_f_bkRead_30 adK adV bk blines blineCount blived bwhyWrong bfineLines bdayThen beatenThen blinesF bt reader rtape rlength rmostBytes rplace rkind rbegin rword rnumber rletters rfaultKind rfaultPlace rtapeF a wide high heat cools skinHeat today stirs steps lumps boats thickness lumpNames lumpCells boatNames boatCells loads spoons spoonsLeft depths boatNamesF gp gnu k17 f18 k19 x20 k21 x22 x23 w24 x25 x26 z16 n32 r37 rplaceG_295 rkindG_296 rbeginG_297 rwordG_298 rnumberG_299 rlettersG_300 blineCountG_307 blinesG_308 rplaceG_309 rkindG_310 rbeginG_311 rwordG_312 rnumberG_313 rlettersG_314 rfaultKindG_315 rfaultPlaceG_316 rplaceG_333 rkindG_334 rbeginG_335 rwordG_336 rnumberG_337 rlettersG_338 rfaultKindG_339 rfaultPlaceG_340 iv_bbk_0 iv_rreader_0 iv_rreader_1 iv_rreader_2 iv_rreader_3 hTC iv_a_0 iv_a_1 iv_a_2 iv_a_3 iv_a_4 iv_a_5 hRT hNL j27 j28 j29 j30 jRT jB jFk jFp hm34 c36 p38 v44 c292 p301 p302 p303 p318 p319 p320 t321 t322 t323 t324 t325 p342 p343 t344 t345 t346 t347) (lf_f_bkRead_31 adK adV bk blines blineCount blived bwhyWrong bfineLines bdayThen beatenThen blinesF bt reader rtape rlength rmostBytes rplace rkind rbegin rword rnumber rletters rfaultKind rfaultPlace rtapeF a wide high heat cools skinHeat today stirs steps lumps boats thickness lumpNames lumpCells boatNames boatCells loads spoons spoonsLeft depths boatNamesF gp gnu k17 f18 k19 x20 k21 x22 x23 w24 x25 x26 z16 n32 r37 rplaceG_295 rkindG_296 rbeginG_297 rwordG_298 rnumberG_299 rlettersG_300 blineCountG_307 blinesG_308 rplaceG_309 rkindG_310 rbeginG_311 rwordG_312 rnumberG_313 rlettersG_314 rfaultKindG_315 rfaultPlaceG_316 rplaceG_333 rkindG_334 rbeginG_335 rwordG_336 rnumberG_337 rlettersG_338 rfaultKindG_339 rfaultPlaceG_340 iv_bbk_0 iv_rreader_0 iv_rreader_1 iv_rreader_2 iv_rreader_3 hTC iv_a_0 iv_a_1 iv_a_2 iv_a_3 iv_a_4 iv_a_5 hRT hNL j27 j28 j29 j30 jRT jB jFk jFp hm34 c36 p38 v44 c292 p301 p302 p303 p318 p319 p320 t321 t322 t323 t324 t325 p342 p343 t344 t345 t346 t347) (lf_f_bkRead_32 bt rlength rmostBytes rplace rkind rbegin rword rnumber rletters rtapeF boats boatNamesF gp gnu k17 k19 x20 k21 x22 x23 w24 z16 n32 r37 rplaceG_295 rkindG_296 rbeginG_297 rwordG_298 rnumberG_299 rlettersG_300 blineCountG_307 rplaceG_309 rkindG_310 rbeginG_311 rwordG_312 rnumberG_313 rlettersG_314 rplaceG_333 rkindG_334 rbeginG_335 rwordG_336 rnumberG_337 rlettersG_338 iv_rreader_0 iv_rreader_1 iv_rreader_2 iv_rreader_3 hTC iv_a_5 hRT hNL j27 j28 j29 j30 jRT jB hm34 c36 p38 v44 c292 p301 p302 p303 p318 p319 p320 t321 t322 t323 p342 p343 t344 t345) _ _ _ (hP.sub [2, 3, 4, 5, 0, 1] rfl) (hD.sub [2, 3, 4, 5, 0, 1] (by decide) rfl) hS (lv_sub hl [2, 3, 4] rfl)
              · refine lv_if_ne (tgt := 112) hx hb dX0_read_107 (by decide) (fun c352 => absurd c352 (by decide)) (fun c352 => ?_)
                refine lv_iconst (v := nI 0) hx hb dX0_read_110 (by decide) ?_
                rw [hQ]
                have hP9 := hP.sub (ws' := [(bk, .inr (0, [.ref blines, .int (nI blineCountG_307), .int blived, .int bwhyWrong, .int bfineLines, .int bdayThen, .int beatenThen])), (blines, .inl (ky 0, 160, .inl blinesG_308)), (reader, .inr (5, [.ref rtape, .int (nI rlength), .int (nI rmostBytes), .int (nI rplaceG_333), .int rkindG_334, .int (nI rbeginG_335), .int rwordG_336, .int rnumberG_337, .long rlettersG_338, .int rfaultKindG_339, .int rfaultPlaceG_340])), (rtape, .inl (ky 2, 940, .inl rtapeF)), (a, .inr (7, [.int (nI wide), .int (nI high), .int heat, .int cools, .int skinHeat, .int today, .int stirs, .int steps, .int (nI lumps), .int (nI boats), .ref thickness, .ref lumpNames, .ref lumpCells, .ref boatNames, .ref boatCells, .ref loads, .ref spoons, .ref spoonsLeft, .ref depths])), (boatNames, .inl (ky 1, 6, .inr (.inl boatNamesF)))]) [2, 3, 4, 5, 0, 1] rfl
                have hD9 := hD.sub (ws' := [(bk, .inr (0, [.ref blines, .int (nI blineCountG_307), .int blived, .int bwhyWrong, .int bfineLines, .int bdayThen, .int beatenThen])), (blines, .inl (ky 0, 160, .inl blinesG_308)), (reader, .inr (5, [.ref rtape, .int (nI rlength), .int (nI rmostBytes), .int (nI rplaceG_333), .int rkindG_334, .int (nI rbeginG_335), .int rwordG_336, .int rnumberG_337, .long rlettersG_338, .int rfaultKindG_339, .int rfaultPlaceG_340])), (rtape, .inl (ky 2, 940, .inl rtapeF)), (a, .inr (7, [.int (nI wide), .int (nI high), .int heat, .int cools, .int skinHeat, .int today, .int stirs, .int steps, .int (nI lumps), .int (nI boats), .ref thickness, .ref lumpNames, .ref lumpCells, .ref boatNames, .ref boatCells, .ref loads, .ref spoons, .ref spoonsLeft, .ref depths])), (boatNames, .inl (ky 1, 6, .inr (.inl boatNamesF)))]) [2, 3, 4, 5, 0, 1] (by decide) rfl
                exact W.zret (v := nI 0) hx hb hr (by decide) (fun t9 ht9 hW9 => ⟨⟨nI 0, (blineCountG_307, blinesG_308, rplaceG_333, rkindG_334, rbeginG_335, rwordG_336, rnumberG_337, rlettersG_338, rfaultKindG_339, rfaultPlaceG_340), rfl, ⟨(lf_f_bkRead_33 bt rlength rmostBytes rplace rkind rbegin rword rnumber rletters rfaultKind rfaultPlace rtapeF boats boatNamesF gp gnu k17 k19 x20 k21 x22 x23 w24 x25 x26 z16 n32 r37 rplaceG_295 rkindG_296 rbeginG_297 rwordG_298 rnumberG_299 rlettersG_300 blineCountG_307 rplaceG_309 rkindG_310 rbeginG_311 rwordG_312 rnumberG_313 rlettersG_314 rfaultKindG_315 rfaultPlaceG_316 rplaceG_333 rfaultKindG_339 rfaultPlaceG_340 iv_rreader_0 iv_rreader_1 iv_rreader_2 iv_rreader_3 hTC iv_a_5 hRT hNL j27 j28 j29 j30 jRT jB jFk jFp hm34 c36 p38 v44 c292 p301 p302 p303 p318 p319 p320 t321 t322 t323 t324 t325 p342 t348 t349 t350), p318, p342, p343⟩, by rw [ht9]; exact hP9, va_K.moved hW9.alike hK, hD9⟩, hS.F ht9⟩) hS.2.2 dX0_read_111
            · refine lv_if_eq (tgt := 110) hx hb dX0_read_98 (by decide) (fun c353 => ?_) (fun c353 => absurd (by decide) c353)
              refine lv_iconst (v := nI 0) hx hb dX0_read_110 (by decide) ?_
              rw [hQ]
              have hP9 := hP.sub (ws' := [(bk, .inr (0, [.ref blines, .int (nI blineCountG_307), .int blived, .int bwhyWrong, .int bfineLines, .int bdayThen, .int beatenThen])), (blines, .inl (ky 0, 160, .inl blinesG_308)), (reader, .inr (5, [.ref rtape, .int (nI rlength), .int (nI rmostBytes), .int (nI rplaceG_309), .int rkindG_310, .int (nI rbeginG_311), .int rwordG_312, .int rnumberG_313, .long rlettersG_314, .int rfaultKindG_315, .int rfaultPlaceG_316])), (rtape, .inl (ky 2, 940, .inl rtapeF)), (a, .inr (7, [.int (nI wide), .int (nI high), .int heat, .int cools, .int skinHeat, .int today, .int stirs, .int steps, .int (nI lumps), .int (nI boats), .ref thickness, .ref lumpNames, .ref lumpCells, .ref boatNames, .ref boatCells, .ref loads, .ref spoons, .ref spoonsLeft, .ref depths])), (boatNames, .inl (ky 1, 6, .inr (.inl boatNamesF)))]) [2, 3, 4, 5, 0, 1] rfl
              have hD9 := hD.sub (ws' := [(bk, .inr (0, [.ref blines, .int (nI blineCountG_307), .int blived, .int bwhyWrong, .int bfineLines, .int bdayThen, .int beatenThen])), (blines, .inl (ky 0, 160, .inl blinesG_308)), (reader, .inr (5, [.ref rtape, .int (nI rlength), .int (nI rmostBytes), .int (nI rplaceG_309), .int rkindG_310, .int (nI rbeginG_311), .int rwordG_312, .int rnumberG_313, .long rlettersG_314, .int rfaultKindG_315, .int rfaultPlaceG_316])), (rtape, .inl (ky 2, 940, .inl rtapeF)), (a, .inr (7, [.int (nI wide), .int (nI high), .int heat, .int cools, .int skinHeat, .int today, .int stirs, .int steps, .int (nI lumps), .int (nI boats), .ref thickness, .ref lumpNames, .ref lumpCells, .ref boatNames, .ref boatCells, .ref loads, .ref spoons, .ref spoonsLeft, .ref depths])), (boatNames, .inl (ky 1, 6, .inr (.inl boatNamesF)))]) [2, 3, 4, 5, 0, 1] (by decide) rfl
              exact W.zret (v := nI 0) hx hb hr (by decide) (fun t9 ht9 hW9 => ⟨⟨nI 0, (blineCountG_307, blinesG_308, rplaceG_309, rkindG_310, rbeginG_311, rwordG_312, rnumberG_313, rlettersG_314, rfaultKindG_315, rfaultPlaceG_316), rfl, ⟨(lf_f_bkRead_34 bt rlength rmostBytes rplace rkind rbegin rword rnumber rletters rfaultKind rfaultPlace rtapeF boats boatNamesF gp gnu k17 k19 x20 k21 x22 x23 w24 x25 x26 z16 n32 r37 rplaceG_295 rkindG_296 rbeginG_297 rwordG_298 rnumberG_299 rlettersG_300 rplaceG_309 rfaultKindG_315 rfaultPlaceG_316 iv_rreader_0 iv_rreader_1 iv_rreader_2 iv_rreader_3 hTC iv_a_5 hRT hNL j27 j28 j29 j30 jRT jB jFk jFp hm34 c36 p38 v44 c292 p301 p302 p303 p319 t326 t327 t328), p318, p319, p320⟩, by rw [ht9]; exact hP9, va_K.moved hW9.alike hK, hD9⟩, hS.F ht9⟩) hS.2.2 dX0_read_111
          · refine lv_aload_n hx hb dX0_read_80 rfl (lv_at hl 3 rfl) ?_
            refine lv_iconst (v := nI 4) hx hb dX0_read_81 (by decide) ?_
            refine r_call_i (wr := [(bk, .inr (0, [.ref blines, .int (nI k17), .int blived, .int bwhyWrong, .int bfineLines, .int bdayThen, .int beatenThen])), (blines, .inl (ky 0, 160, .inl f18)), (rtape, .inl (ky 2, 940, .inl rtapeF)), (a, .inr (7, [.int (nI wide), .int (nI high), .int heat, .int cools, .int skinHeat, .int today, .int stirs, .int steps, .int (nI lumps), .int (nI boats), .ref thickness, .ref lumpNames, .ref lumpCells, .ref boatNames, .ref boatCells, .ref loads, .ref spoons, .ref spoonsLeft, .ref depths])), (boatNames, .inl (ky 1, 6, .inr (.inl boatNamesF)))]) (va_runV (As := [.int (nI 4)]) (rest := []) ⟨hx, hb, hml, hown, hts⟩ (c_f_refuse l dC dI ky H.size reader rtape rlength rmostBytes k19 x20 k21 x22 x23 w24 x25 x26 (nI 4) iv_rreader_0 j30 iv_rreader_2 j29) (cwV 1 hts gX0_read_X5_refuse rfl rfl rfl (by decide +kernel) ⟨(Nat.le_of_ble_eq_true rfl), (Nat.le_of_ble_eq_true rfl)⟩) (pre_UV hK hP hD [2] (by decide) rfl (ci := 5) (q0 := 2) rfl rfl) rfl rfl hl.1 rfl (lv_room (Nat.le_of_ble_eq_true rfl)) dX0_read_82 ⟨(Nat.le_of_ble_eq_true rfl), (Nat.le_of_ble_eq_true rfl)⟩) hP hD hS hA [2] [0, 1, 3, 4, 5] rfl rfl (by decide) (by decide) (fun r356 u354 H locs p355 hP hD hS => ?_)
            obtain ⟨rfaultKindG_357, rfaultPlaceG_358⟩ := u354
            try dsimp only at p355
            obtain ⟨p359, p360, p361⟩ := p355
            refine W.widen (k := 0) (n := 0) (Nat.le_of_ble_eq_true rfl) (Nat.le_of_ble_eq_true rfl) ?_
            have hP : va_P (dC, dI) vwCl [(bk, .inr (0, [.ref blines, .int (nI k17), .int blived, .int bwhyWrong, .int bfineLines, .int bdayThen, .int beatenThen])), (blines, .inl (ky 0, 160, .inl f18)), (rtape, .inl (ky 2, 940, .inl rtapeF)), (a, .inr (7, [.int (nI wide), .int (nI high), .int heat, .int cools, .int skinHeat, .int today, .int stirs, .int steps, .int (nI lumps), .int (nI boats), .ref thickness, .ref lumpNames, .ref lumpCells, .ref boatNames, .ref boatCells, .ref loads, .ref spoons, .ref spoonsLeft, .ref depths])), (boatNames, .inl (ky 1, 6, .inr (.inl boatNamesF))), (reader, .inr (5, [.ref rtape, .int (nI rlength), .int (nI rmostBytes), .int (nI k19), .int x20, .int (nI k21), .int x22, .int x23, .long w24, .int rfaultKindG_357, .int rfaultPlaceG_358]))] H := hP
            have hD : va_D A [(bk, .inr (0, [.ref blines, .int (nI k17), .int blived, .int bwhyWrong, .int bfineLines, .int bdayThen, .int beatenThen])), (blines, .inl (ky 0, 160, .inl f18)), (rtape, .inl (ky 2, 940, .inl rtapeF)), (a, .inr (7, [.int (nI wide), .int (nI high), .int heat, .int cools, .int skinHeat, .int today, .int stirs, .int steps, .int (nI lumps), .int (nI boats), .ref thickness, .ref lumpNames, .ref lumpCells, .ref boatNames, .ref boatCells, .ref loads, .ref spoons, .ref spoonsLeft, .ref depths])), (boatNames, .inl (ky 1, 6, .inr (.inl boatNamesF))), (reader, .inr (5, [.ref rtape, .int (nI rlength), .int (nI rmostBytes), .int (nI k19), .int x20, .int (nI k21), .int x22, .int x23, .long w24, .int rfaultKindG_357, .int rfaultPlaceG_358]))] := hD
            subst p359
            rw [hQ]
            have hP9 := hP.sub (ws' := [(bk, .inr (0, [.ref blines, .int (nI k17), .int blived, .int bwhyWrong, .int bfineLines, .int bdayThen, .int beatenThen])), (blines, .inl (ky 0, 160, .inl f18)), (reader, .inr (5, [.ref rtape, .int (nI rlength), .int (nI rmostBytes), .int (nI k19), .int x20, .int (nI k21), .int x22, .int x23, .long w24, .int rfaultKindG_357, .int rfaultPlaceG_358])), (rtape, .inl (ky 2, 940, .inl rtapeF)), (a, .inr (7, [.int (nI wide), .int (nI high), .int heat, .int cools, .int skinHeat, .int today, .int stirs, .int steps, .int (nI lumps), .int (nI boats), .ref thickness, .ref lumpNames, .ref lumpCells, .ref boatNames, .ref boatCells, .ref loads, .ref spoons, .ref spoonsLeft, .ref depths])), (boatNames, .inl (ky 1, 6, .inr (.inl boatNamesF)))]) [0, 1, 5, 2, 3, 4] rfl
            have hD9 := hD.sub (ws' := [(bk, .inr (0, [.ref blines, .int (nI k17), .int blived, .int bwhyWrong, .int bfineLines, .int bdayThen, .int beatenThen])), (blines, .inl (ky 0, 160, .inl f18)), (reader, .inr (5, [.ref rtape, .int (nI rlength), .int (nI rmostBytes), .int (nI k19), .int x20, .int (nI k21), .int x22, .int x23, .long w24, .int rfaultKindG_357, .int rfaultPlaceG_358])), (rtape, .inl (ky 2, 940, .inl rtapeF)), (a, .inr (7, [.int (nI wide), .int (nI high), .int heat, .int cools, .int skinHeat, .int today, .int stirs, .int steps, .int (nI lumps), .int (nI boats), .ref thickness, .ref lumpNames, .ref lumpCells, .ref boatNames, .ref boatCells, .ref loads, .ref spoons, .ref spoonsLeft, .ref depths])), (boatNames, .inl (ky 1, 6, .inr (.inl boatNamesF)))]) [0, 1, 5, 2, 3, 4] (by decide) rfl
            exact W.zret (v := nI 0) hx hb hr (by decide) (fun t9 ht9 hW9 => ⟨⟨nI 0, (k17, f18, k19, x20, k21, x22, x23, w24, rfaultKindG_357, rfaultPlaceG_358), rfl, ⟨(lf_f_bkRead_35 bt rlength rmostBytes rplace rkind rbegin rword rnumber rletters rfaultKind rfaultPlace rtapeF boats boatNamesF gp gnu k17 k19 x20 k21 x22 x23 w24 x25 x26 z16 n32 r37 rfaultKindG_357 rfaultPlaceG_358 iv_rreader_0 iv_rreader_1 iv_rreader_2 iv_rreader_3 hTC iv_a_5 hRT hNL j27 j28 j29 j30 jRT jB jFk jFp hm34 c36 p38 v44 c292 p360 p361), j27, j30, j29⟩, by rw [ht9]; exact hP9, va_K.moved hW9.alike hK, hD9⟩, hS.F ht9⟩) hS.2.2 dX0_read_85
        · refine lv_istore_n (lv' := [(3, .int (nI 4)), (0, .ref bk), (1, .ref reader), (2, .ref a)]) hx hb dX0_read_28 rfl hl (by decide) rfl (fun ls hl => ?_)
          refine lv_iload_n hx hb dX0_read_29 rfl (lv_at hl 0 rfl) ?_
          refine lv_iconst (v := nI 1) hx hb dX0_read_30 (by decide) ?_
          refine lv_icmp_ne (tgt := 45) hx hb dX0_read_31 (by decide) (fun c362 => ?_) (fun c362 => absurd c362 (by decide))
          refine lv_iconst (v := nI 0) hx hb dX0_read_45 (by decide) ?_
          refine lv_istore (lv' := [(4, .int (nI 0)), (3, .int (nI 4)), (0, .ref bk), (1, .ref reader), (2, .ref a)]) hx hb dX0_read_46 hl (by decide) rfl (fun ls hl => ?_)
          refine lv_iload_n hx hb dX0_read_48 rfl (lv_at hl 1 rfl) ?_
          refine lv_iconst (v := (-1 : Int32)) hx hb dX0_read_49 (by decide) ?_
          refine lv_icmp_ne (tgt := 59) hx hb dX0_read_50 (by decide) (fun c363 => ?_) (fun c363 => absurd c363 (by decide))
          refine lv_iload hx hb dX0_read_59 (lv_at hl 0 rfl) ?_
          refine lv_iconst (v := (-1 : Int32)) hx hb dX0_read_61 (by decide) ?_
          refine lv_icmp_ne (tgt := 71) hx hb dX0_read_62 (by decide) (fun c364 => ?_) (fun c364 => absurd c364 (by decide))
          refine lv_aload_n hx hb dX0_read_71 rfl (lv_at hl 2 rfl) ?_
          refine va_get (D := (dC, dI)) (ci := 0) (v := .int (nI k17)) (C := RX0) (T := TX0) (N := 7) hx hb hts hin0 hown hK hP 0 rfl rfl 1 (by decide) (hts (.fieldLink RX0 15 "PorridgeSea$Book" "lineCount" "I") (List.mem_of_getElem? (i := 1) rfl)) (fun _ h9 => h9) rfl dX0_read_72 ?_
          refine lv_bipush (v := nI 40) hx hb dX0_read_75 (by decide) ?_
          refine n_icmp_lt (x := k17) (y := 40) (tgt := 86) hx hb (by omega) (by omega) dX0_read_77 (by decide) (fun c365 => ?_) (fun c365 => ?_)
          · refine lv_aload_n hx hb dX0_read_86 rfl (lv_at hl 3 rfl) ?_
            refine r_call_v (wr := [(bk, .inr (0, [.ref blines, .int (nI k17), .int blived, .int bwhyWrong, .int bfineLines, .int bdayThen, .int beatenThen])), (blines, .inl (ky 0, 160, .inl f18)), (a, .inr (7, [.int (nI wide), .int (nI high), .int heat, .int cools, .int skinHeat, .int today, .int stirs, .int steps, .int (nI lumps), .int (nI boats), .ref thickness, .ref lumpNames, .ref lumpCells, .ref boatNames, .ref boatCells, .ref loads, .ref spoons, .ref spoonsLeft, .ref depths])), (boatNames, .inl (ky 1, 6, .inr (.inl boatNamesF)))]) (va_runV (As := []) (rest := []) ⟨hx, hb, hml, hown, hts⟩ (c_f_adv l dC dI ky H.size adK adV bt reader rtape rlength rmostBytes k19 x20 k21 x22 x23 w24 x25 x26 rtapeF (tT bt rlength rmostBytes z16) iv_rreader_0 j30 iv_rreader_2 j29 hTC jRT.2.2.1) (cwV 0 hts gX0_read_X5_advance rfl rfl rfl (by decide +kernel) ⟨(Nat.le_of_ble_eq_true rfl), (Nat.le_of_ble_eq_true rfl)⟩) (pre_UEV hE hS hA hK hP hD [2, 3] (by decide) rfl (va_recv hK hP (ci := 5) (q0 := 2) rfl rfl)) rfl rfl hl.1 rfl (lv_room (Nat.le_of_ble_eq_true rfl)) dX0_read_87 ⟨(Nat.le_of_ble_eq_true rfl), (Nat.le_of_ble_eq_true rfl)⟩) hP hD hS hA [2, 3] [0, 1, 4, 5] rfl rfl (by decide) (by decide) (fun  u366 H locs p367 hP hD hS => ?_)
            obtain ⟨rplaceG_368, rkindG_369, rbeginG_370, rwordG_371, rnumberG_372, rlettersG_373⟩ := u366
            try dsimp only at p367
            obtain ⟨p374, p375, p376⟩ := p367
            refine W.widen (k := 0) (n := 0) (Nat.le_of_ble_eq_true rfl) (Nat.le_of_ble_eq_true rfl) ?_
            have hP : va_P (dC, dI) vwCl [(bk, .inr (0, [.ref blines, .int (nI k17), .int blived, .int bwhyWrong, .int bfineLines, .int bdayThen, .int beatenThen])), (blines, .inl (ky 0, 160, .inl f18)), (a, .inr (7, [.int (nI wide), .int (nI high), .int heat, .int cools, .int skinHeat, .int today, .int stirs, .int steps, .int (nI lumps), .int (nI boats), .ref thickness, .ref lumpNames, .ref lumpCells, .ref boatNames, .ref boatCells, .ref loads, .ref spoons, .ref spoonsLeft, .ref depths])), (boatNames, .inl (ky 1, 6, .inr (.inl boatNamesF))), (reader, .inr (5, [.ref rtape, .int (nI rlength), .int (nI rmostBytes), .int (nI rplaceG_368), .int rkindG_369, .int (nI rbeginG_370), .int rwordG_371, .int rnumberG_372, .long rlettersG_373, .int x25, .int x26])), (rtape, .inl (ky 2, 940, .inl rtapeF))] H := hP
            have hD : va_D A [(bk, .inr (0, [.ref blines, .int (nI k17), .int blived, .int bwhyWrong, .int bfineLines, .int bdayThen, .int beatenThen])), (blines, .inl (ky 0, 160, .inl f18)), (a, .inr (7, [.int (nI wide), .int (nI high), .int heat, .int cools, .int skinHeat, .int today, .int stirs, .int steps, .int (nI lumps), .int (nI boats), .ref thickness, .ref lumpNames, .ref lumpCells, .ref boatNames, .ref boatCells, .ref loads, .ref spoons, .ref spoonsLeft, .ref depths])), (boatNames, .inl (ky 1, 6, .inr (.inl boatNamesF))), (reader, .inr (5, [.ref rtape, .int (nI rlength), .int (nI rmostBytes), .int (nI rplaceG_368), .int rkindG_369, .int (nI rbeginG_370), .int rwordG_371, .int rnumberG_372, .long rlettersG_373, .int x25, .int x26])), (rtape, .inl (ky 2, 940, .inl rtapeF))] := hD
            refine lv_aload_n hx hb dX0_read_90 rfl (lv_at hl 2 rfl) ?_
            refine lv_aload_n hx hb dX0_read_91 rfl (lv_at hl 3 rfl) ?_
            refine lv_iload_n hx hb dX0_read_92 rfl (lv_at hl 1 rfl) ?_
            refine lv_iload hx hb dX0_read_93 (lv_at hl 0 rfl) ?_
            refine r_call_i (wr := [(a, .inr (7, [.int (nI wide), .int (nI high), .int heat, .int cools, .int skinHeat, .int today, .int stirs, .int steps, .int (nI lumps), .int (nI boats), .ref thickness, .ref lumpNames, .ref lumpCells, .ref boatNames, .ref boatCells, .ref loads, .ref spoons, .ref spoonsLeft, .ref depths])), (boatNames, .inl (ky 1, 6, .inr (.inl boatNamesF)))]) (va_runV (As := [.ref reader, .int (nI 4), .int (nI 0)]) (rest := []) ⟨hx, hb, hml, hown, hts⟩ (c_f_rest4 l dC dI ky H.size adK adV bk blines k17 blived bwhyWrong bfineLines bdayThen beatenThen f18 bt reader rtape rlength rmostBytes rplaceG_368 rkindG_369 rbeginG_370 rwordG_371 rnumberG_372 rlettersG_373 x25 x26 rtapeF (tT bt rlength rmostBytes z16) (nI 0) j27 iv_rreader_0 p374 iv_rreader_2 p375 hTC p376 c365) (cwV 3 hts gX0_read_X0_readRest rfl rfl rfl (by decide +kernel) ⟨(Nat.le_of_ble_eq_true rfl), (Nat.le_of_ble_eq_true rfl)⟩) (pre_UEV hE hS hA hK hP hD [0, 1, 4, 5] (by decide) rfl (va_recv hK hP (ci := 0) (q0 := 0) rfl rfl)) rfl rfl hl.1 rfl (lv_room (Nat.le_of_ble_eq_true rfl)) dX0_read_95 ⟨(Nat.le_of_ble_eq_true rfl), (Nat.le_of_ble_eq_true rfl)⟩) hP hD hS hA [0, 1, 4, 5] [2, 3] rfl rfl (by decide) (by decide) (fun r379 u377 H locs p378 hP hD hS => ?_)
            obtain ⟨blineCountG_380, blinesG_381, rplaceG_382, rkindG_383, rbeginG_384, rwordG_385, rnumberG_386, rlettersG_387, rfaultKindG_388, rfaultPlaceG_389⟩ := u377
            try dsimp only at p378
            obtain ⟨p390, p391, p392, p393⟩ := p378
            refine W.widen (k := 0) (n := 0) (Nat.le_of_ble_eq_true rfl) (Nat.le_of_ble_eq_true rfl) ?_
            have hP : va_P (dC, dI) vwCl [(a, .inr (7, [.int (nI wide), .int (nI high), .int heat, .int cools, .int skinHeat, .int today, .int stirs, .int steps, .int (nI lumps), .int (nI boats), .ref thickness, .ref lumpNames, .ref lumpCells, .ref boatNames, .ref boatCells, .ref loads, .ref spoons, .ref spoonsLeft, .ref depths])), (boatNames, .inl (ky 1, 6, .inr (.inl boatNamesF))), (bk, .inr (0, [.ref blines, .int (nI blineCountG_380), .int blived, .int bwhyWrong, .int bfineLines, .int bdayThen, .int beatenThen])), (blines, .inl (ky 0, 160, .inl blinesG_381)), (reader, .inr (5, [.ref rtape, .int (nI rlength), .int (nI rmostBytes), .int (nI rplaceG_382), .int rkindG_383, .int (nI rbeginG_384), .int rwordG_385, .int rnumberG_386, .long rlettersG_387, .int rfaultKindG_388, .int rfaultPlaceG_389])), (rtape, .inl (ky 2, 940, .inl rtapeF))] H := hP
            have hD : va_D A [(a, .inr (7, [.int (nI wide), .int (nI high), .int heat, .int cools, .int skinHeat, .int today, .int stirs, .int steps, .int (nI lumps), .int (nI boats), .ref thickness, .ref lumpNames, .ref lumpCells, .ref boatNames, .ref boatCells, .ref loads, .ref spoons, .ref spoonsLeft, .ref depths])), (boatNames, .inl (ky 1, 6, .inr (.inl boatNamesF))), (bk, .inr (0, [.ref blines, .int (nI blineCountG_380), .int blived, .int bwhyWrong, .int bfineLines, .int bdayThen, .int beatenThen])), (blines, .inl (ky 0, 160, .inl blinesG_381)), (reader, .inr (5, [.ref rtape, .int (nI rlength), .int (nI rmostBytes), .int (nI rplaceG_382), .int rkindG_383, .int (nI rbeginG_384), .int rwordG_385, .int rnumberG_386, .long rlettersG_387, .int rfaultKindG_388, .int rfaultPlaceG_389])), (rtape, .inl (ky 2, 940, .inl rtapeF))] := hD
            rcases p390 with ⟨rfl, t394, t395, t396, t397, t398⟩ | ⟨rfl, t399, t400, t401⟩
            · refine lv_if_eq (tgt := 110) hx hb dX0_read_98 (by decide) (fun c402 => absurd c402 (by decide)) (fun c402 => ?_)
              refine lv_aload_n hx hb dX0_read_101 rfl (lv_at hl 3 rfl) ?_
              refine lv_bipush (v := nI 59) hx hb dX0_read_102 (by decide) ?_
              refine r_call_i (wr := [(a, .inr (7, [.int (nI wide), .int (nI high), .int heat, .int cools, .int skinHeat, .int today, .int stirs, .int steps, .int (nI lumps), .int (nI boats), .ref thickness, .ref lumpNames, .ref lumpCells, .ref boatNames, .ref boatCells, .ref loads, .ref spoons, .ref spoonsLeft, .ref depths])), (boatNames, .inl (ky 1, 6, .inr (.inl boatNamesF))), (bk, .inr (0, [.ref blines, .int (nI blineCountG_380), .int blived, .int bwhyWrong, .int bfineLines, .int bdayThen, .int beatenThen])), (blines, .inl (ky 0, 160, .inl blinesG_381))]) (va_runV (As := [.int (nI 59)]) (rest := []) ⟨hx, hb, hml, hown, hts⟩ (c_f_takeSign l dC dI ky H.size adK adV bt reader rtape rlength rmostBytes rplaceG_382 rkindG_383 rbeginG_384 rwordG_385 rnumberG_386 rlettersG_387 rfaultKindG_388 rfaultPlaceG_389 rtapeF (okV (bRest bt rlength rmostBytes 18 (tT bt rlength rmostBytes z16))) (nI 59) iv_rreader_0 p392 iv_rreader_2 p393 hTC t395) (cwV 1 hts gX0_read_X5_takeSign rfl rfl rfl (by decide +kernel) ⟨(Nat.le_of_ble_eq_true rfl), (Nat.le_of_ble_eq_true rfl)⟩) (pre_UEV hE hS hA hK hP hD [4, 5] (by decide) rfl (va_recv hK hP (ci := 5) (q0 := 4) rfl rfl)) rfl rfl hl.1 rfl (lv_room (Nat.le_of_ble_eq_true rfl)) dX0_read_104 ⟨(Nat.le_of_ble_eq_true rfl), (Nat.le_of_ble_eq_true rfl)⟩) hP hD hS hA [4, 5] [0, 1, 2, 3] rfl rfl (by decide) (by decide) (fun r405 u403 H locs p404 hP hD hS => ?_)
              obtain ⟨rplaceG_406, rkindG_407, rbeginG_408, rwordG_409, rnumberG_410, rlettersG_411, rfaultKindG_412, rfaultPlaceG_413⟩ := u403
              try dsimp only at p404
              obtain ⟨p414, p415, p416⟩ := p404
              refine W.widen (k := 0) (n := 0) (Nat.le_of_ble_eq_true rfl) (Nat.le_of_ble_eq_true rfl) ?_
              have hP : va_P (dC, dI) vwCl [(a, .inr (7, [.int (nI wide), .int (nI high), .int heat, .int cools, .int skinHeat, .int today, .int stirs, .int steps, .int (nI lumps), .int (nI boats), .ref thickness, .ref lumpNames, .ref lumpCells, .ref boatNames, .ref boatCells, .ref loads, .ref spoons, .ref spoonsLeft, .ref depths])), (boatNames, .inl (ky 1, 6, .inr (.inl boatNamesF))), (bk, .inr (0, [.ref blines, .int (nI blineCountG_380), .int blived, .int bwhyWrong, .int bfineLines, .int bdayThen, .int beatenThen])), (blines, .inl (ky 0, 160, .inl blinesG_381)), (reader, .inr (5, [.ref rtape, .int (nI rlength), .int (nI rmostBytes), .int (nI rplaceG_406), .int rkindG_407, .int (nI rbeginG_408), .int rwordG_409, .int rnumberG_410, .long rlettersG_411, .int rfaultKindG_412, .int rfaultPlaceG_413])), (rtape, .inl (ky 2, 940, .inl rtapeF))] H := hP
              have hD : va_D A [(a, .inr (7, [.int (nI wide), .int (nI high), .int heat, .int cools, .int skinHeat, .int today, .int stirs, .int steps, .int (nI lumps), .int (nI boats), .ref thickness, .ref lumpNames, .ref lumpCells, .ref boatNames, .ref boatCells, .ref loads, .ref spoons, .ref spoonsLeft, .ref depths])), (boatNames, .inl (ky 1, 6, .inr (.inl boatNamesF))), (bk, .inr (0, [.ref blines, .int (nI blineCountG_380), .int blived, .int bwhyWrong, .int bfineLines, .int bdayThen, .int beatenThen])), (blines, .inl (ky 0, 160, .inl blinesG_381)), (reader, .inr (5, [.ref rtape, .int (nI rlength), .int (nI rmostBytes), .int (nI rplaceG_406), .int rkindG_407, .int (nI rbeginG_408), .int rwordG_409, .int rnumberG_410, .long rlettersG_411, .int rfaultKindG_412, .int rfaultPlaceG_413])), (rtape, .inl (ky 2, 940, .inl rtapeF))] := hD
              rcases p414 with ⟨rfl, t417, t418, t419, t420⟩ | ⟨rfl, t421, t422, t423⟩
              · refine lv_if_ne (tgt := 112) hx hb dX0_read_107 (by decide) (fun c424 => ?_) (fun c424 => absurd c424 (by decide))
                refine lv_goto (tgt := 5) hx hb dX0_read_112 (by decide) ?_
                exact ih33 blineCountG_380 blinesG_381 rplaceG_406 rkindG_407 rbeginG_408 rwordG_409 rnumberG_410 rlettersG_411 rfaultKindG_412 rfaultPlaceG_413 (tT bt rlength rmostBytes (okV (bRest bt rlength rmostBytes 18 (tT bt rlength rmostBytes z16)))) p391 (lf_f_bkRead_36 bt rlength rmostBytes rplace rkind rbegin rword rnumber rletters rtapeF boats boatNamesF gp gnu k17 k19 x20 k21 x22 x23 w24 z16 n32 r37 rplaceG_368 rkindG_369 rbeginG_370 rwordG_371 rnumberG_372 rlettersG_373 blineCountG_380 rplaceG_382 rkindG_383 rbeginG_384 rwordG_385 rnumberG_386 rlettersG_387 rplaceG_406 rkindG_407 rbeginG_408 rwordG_409 rnumberG_410 rlettersG_411 iv_rreader_0 iv_rreader_1 iv_rreader_2 iv_rreader_3 hTC iv_a_5 hRT hNL j27 j28 j29 j30 jRT jB hm34 c36 p38 v45 c365 p374 p375 p376 p391 p392 p393 t394 t395 t396 p415 p416 t417 t418) p416 p415 t418 (lf_f_bkRead_37 bt rlength rmostBytes rplace rkind rbegin rword rnumber rletters rtapeF boats boatNamesF gp gnu k17 k19 x20 k21 x22 x23 w24 z16 n32 r37 rplaceG_368 rkindG_369 rbeginG_370 rwordG_371 rnumberG_372 rlettersG_373 blineCountG_380 rplaceG_382 rkindG_383 rbeginG_384 rwordG_385 rnumberG_386 rlettersG_387 rplaceG_406 rkindG_407 rbeginG_408 rwordG_409 rnumberG_410 rlettersG_411 iv_rreader_0 iv_rreader_1 iv_rreader_2 iv_rreader_3 hTC iv_a_5 hRT hNL j27 j28 j29 j30 jRT jB hm34 c36 p38 v45 c365 p374 p375 p376 p391 p392 p393 t394 t395 t396 p415 p416 t417 t418) (lf_f_bkRead_38 adK adV bk blines blineCount blived bwhyWrong bfineLines bdayThen beatenThen blinesF bt reader rtape rlength rmostBytes rplace rkind rbegin rword rnumber rletters rfaultKind rfaultPlace rtapeF a wide high heat cools skinHeat today stirs steps lumps boats thickness lumpNames lumpCells boatNames boatCells loads spoons spoonsLeft depths boatNamesF gp gnu k17 f18 k19 x20 k21 x22 x23 w24 x25 x26 z16 n32 r37 rplaceG_368 rkindG_369 rbeginG_370 rwordG_371 rnumberG_372 rlettersG_373 blineCountG_380 blinesG_381 rplaceG_382 rkindG_383 rbeginG_384 rwordG_385 rnumberG_386 rlettersG_387 rfaultKindG_388 rfaultPlaceG_389 rplaceG_406 rkindG_407 rbeginG_408 rwordG_409 rnumberG_410 rlettersG_411 rfaultKindG_412 rfaultPlaceG_413 iv_bbk_0 iv_rreader_0 iv_rreader_1 iv_rreader_2 iv_rreader_3 hTC iv_a_0 iv_a_1 iv_a_2 iv_a_3 iv_a_4 iv_a_5 hRT hNL j27 j28 j29 j30 jRT jB jFk jFp hm34 c36 p38 v45 c365 p374 p375 p376 p391 p392 p393 t394 t395 t396 t397 t398 p415 p416 t417 t418 t419 t420) (lf_f_bkRead_39 adK adV bk blines blineCount blived bwhyWrong bfineLines bdayThen beatenThen blinesF bt reader rtape rlength rmostBytes rplace rkind rbegin rword rnumber rletters rfaultKind rfaultPlace rtapeF a wide high heat cools skinHeat today stirs steps lumps boats thickness lumpNames lumpCells boatNames boatCells loads spoons spoonsLeft depths boatNamesF gp gnu k17 f18 k19 x20 k21 x22 x23 w24 x25 x26 z16 n32 r37 rplaceG_368 rkindG_369 rbeginG_370 rwordG_371 rnumberG_372 rlettersG_373 blineCountG_380 blinesG_381 rplaceG_382 rkindG_383 rbeginG_384 rwordG_385 rnumberG_386 rlettersG_387 rfaultKindG_388 rfaultPlaceG_389 rplaceG_406 rkindG_407 rbeginG_408 rwordG_409 rnumberG_410 rlettersG_411 rfaultKindG_412 rfaultPlaceG_413 iv_bbk_0 iv_rreader_0 iv_rreader_1 iv_rreader_2 iv_rreader_3 hTC iv_a_0 iv_a_1 iv_a_2 iv_a_3 iv_a_4 iv_a_5 hRT hNL j27 j28 j29 j30 jRT jB jFk jFp hm34 c36 p38 v45 c365 p374 p375 p376 p391 p392 p393 t394 t395 t396 t397 t398 p415 p416 t417 t418 t419 t420) (lf_f_bkRead_40 bt rlength rmostBytes rplace rkind rbegin rword rnumber rletters rtapeF boats boatNamesF gp gnu k17 k19 x20 k21 x22 x23 w24 z16 n32 r37 rplaceG_368 rkindG_369 rbeginG_370 rwordG_371 rnumberG_372 rlettersG_373 blineCountG_380 rplaceG_382 rkindG_383 rbeginG_384 rwordG_385 rnumberG_386 rlettersG_387 rplaceG_406 rkindG_407 rbeginG_408 rwordG_409 rnumberG_410 rlettersG_411 iv_rreader_0 iv_rreader_1 iv_rreader_2 iv_rreader_3 hTC iv_a_5 hRT hNL j27 j28 j29 j30 jRT jB hm34 c36 p38 v45 c365 p374 p375 p376 p391 p392 p393 t394 t395 t396 p415 p416 t417 t418) _ _ _ (hP.sub [2, 3, 4, 5, 0, 1] rfl) (hD.sub [2, 3, 4, 5, 0, 1] (by decide) rfl) hS (lv_sub hl [2, 3, 4] rfl)
              · refine lv_if_ne (tgt := 112) hx hb dX0_read_107 (by decide) (fun c425 => absurd c425 (by decide)) (fun c425 => ?_)
                refine lv_iconst (v := nI 0) hx hb dX0_read_110 (by decide) ?_
                rw [hQ]
                have hP9 := hP.sub (ws' := [(bk, .inr (0, [.ref blines, .int (nI blineCountG_380), .int blived, .int bwhyWrong, .int bfineLines, .int bdayThen, .int beatenThen])), (blines, .inl (ky 0, 160, .inl blinesG_381)), (reader, .inr (5, [.ref rtape, .int (nI rlength), .int (nI rmostBytes), .int (nI rplaceG_406), .int rkindG_407, .int (nI rbeginG_408), .int rwordG_409, .int rnumberG_410, .long rlettersG_411, .int rfaultKindG_412, .int rfaultPlaceG_413])), (rtape, .inl (ky 2, 940, .inl rtapeF)), (a, .inr (7, [.int (nI wide), .int (nI high), .int heat, .int cools, .int skinHeat, .int today, .int stirs, .int steps, .int (nI lumps), .int (nI boats), .ref thickness, .ref lumpNames, .ref lumpCells, .ref boatNames, .ref boatCells, .ref loads, .ref spoons, .ref spoonsLeft, .ref depths])), (boatNames, .inl (ky 1, 6, .inr (.inl boatNamesF)))]) [2, 3, 4, 5, 0, 1] rfl
                have hD9 := hD.sub (ws' := [(bk, .inr (0, [.ref blines, .int (nI blineCountG_380), .int blived, .int bwhyWrong, .int bfineLines, .int bdayThen, .int beatenThen])), (blines, .inl (ky 0, 160, .inl blinesG_381)), (reader, .inr (5, [.ref rtape, .int (nI rlength), .int (nI rmostBytes), .int (nI rplaceG_406), .int rkindG_407, .int (nI rbeginG_408), .int rwordG_409, .int rnumberG_410, .long rlettersG_411, .int rfaultKindG_412, .int rfaultPlaceG_413])), (rtape, .inl (ky 2, 940, .inl rtapeF)), (a, .inr (7, [.int (nI wide), .int (nI high), .int heat, .int cools, .int skinHeat, .int today, .int stirs, .int steps, .int (nI lumps), .int (nI boats), .ref thickness, .ref lumpNames, .ref lumpCells, .ref boatNames, .ref boatCells, .ref loads, .ref spoons, .ref spoonsLeft, .ref depths])), (boatNames, .inl (ky 1, 6, .inr (.inl boatNamesF)))]) [2, 3, 4, 5, 0, 1] (by decide) rfl
                exact W.zret (v := nI 0) hx hb hr (by decide) (fun t9 ht9 hW9 => ⟨⟨nI 0, (blineCountG_380, blinesG_381, rplaceG_406, rkindG_407, rbeginG_408, rwordG_409, rnumberG_410, rlettersG_411, rfaultKindG_412, rfaultPlaceG_413), rfl, ⟨(lf_f_bkRead_41 bt rlength rmostBytes rplace rkind rbegin rword rnumber rletters rfaultKind rfaultPlace rtapeF boats boatNamesF gp gnu k17 k19 x20 k21 x22 x23 w24 x25 x26 z16 n32 r37 rplaceG_368 rkindG_369 rbeginG_370 rwordG_371 rnumberG_372 rlettersG_373 blineCountG_380 rplaceG_382 rkindG_383 rbeginG_384 rwordG_385 rnumberG_386 rlettersG_387 rfaultKindG_388 rfaultPlaceG_389 rplaceG_406 rfaultKindG_412 rfaultPlaceG_413 iv_rreader_0 iv_rreader_1 iv_rreader_2 iv_rreader_3 hTC iv_a_5 hRT hNL j27 j28 j29 j30 jRT jB jFk jFp hm34 c36 p38 v45 c365 p374 p375 p376 p391 p392 p393 t394 t395 t396 t397 t398 p415 t421 t422 t423), p391, p415, p416⟩, by rw [ht9]; exact hP9, va_K.moved hW9.alike hK, hD9⟩, hS.F ht9⟩) hS.2.2 dX0_read_111
            · refine lv_if_eq (tgt := 110) hx hb dX0_read_98 (by decide) (fun c426 => ?_) (fun c426 => absurd (by decide) c426)
              refine lv_iconst (v := nI 0) hx hb dX0_read_110 (by decide) ?_
              rw [hQ]
              have hP9 := hP.sub (ws' := [(bk, .inr (0, [.ref blines, .int (nI blineCountG_380), .int blived, .int bwhyWrong, .int bfineLines, .int bdayThen, .int beatenThen])), (blines, .inl (ky 0, 160, .inl blinesG_381)), (reader, .inr (5, [.ref rtape, .int (nI rlength), .int (nI rmostBytes), .int (nI rplaceG_382), .int rkindG_383, .int (nI rbeginG_384), .int rwordG_385, .int rnumberG_386, .long rlettersG_387, .int rfaultKindG_388, .int rfaultPlaceG_389])), (rtape, .inl (ky 2, 940, .inl rtapeF)), (a, .inr (7, [.int (nI wide), .int (nI high), .int heat, .int cools, .int skinHeat, .int today, .int stirs, .int steps, .int (nI lumps), .int (nI boats), .ref thickness, .ref lumpNames, .ref lumpCells, .ref boatNames, .ref boatCells, .ref loads, .ref spoons, .ref spoonsLeft, .ref depths])), (boatNames, .inl (ky 1, 6, .inr (.inl boatNamesF)))]) [2, 3, 4, 5, 0, 1] rfl
              have hD9 := hD.sub (ws' := [(bk, .inr (0, [.ref blines, .int (nI blineCountG_380), .int blived, .int bwhyWrong, .int bfineLines, .int bdayThen, .int beatenThen])), (blines, .inl (ky 0, 160, .inl blinesG_381)), (reader, .inr (5, [.ref rtape, .int (nI rlength), .int (nI rmostBytes), .int (nI rplaceG_382), .int rkindG_383, .int (nI rbeginG_384), .int rwordG_385, .int rnumberG_386, .long rlettersG_387, .int rfaultKindG_388, .int rfaultPlaceG_389])), (rtape, .inl (ky 2, 940, .inl rtapeF)), (a, .inr (7, [.int (nI wide), .int (nI high), .int heat, .int cools, .int skinHeat, .int today, .int stirs, .int steps, .int (nI lumps), .int (nI boats), .ref thickness, .ref lumpNames, .ref lumpCells, .ref boatNames, .ref boatCells, .ref loads, .ref spoons, .ref spoonsLeft, .ref depths])), (boatNames, .inl (ky 1, 6, .inr (.inl boatNamesF)))]) [2, 3, 4, 5, 0, 1] (by decide) rfl
              exact W.zret (v := nI 0) hx hb hr (by decide) (fun t9 ht9 hW9 => ⟨⟨nI 0, (blineCountG_380, blinesG_381, rplaceG_382, rkindG_383, rbeginG_384, rwordG_385, rnumberG_386, rlettersG_387, rfaultKindG_388, rfaultPlaceG_389), rfl, ⟨(lf_f_bkRead_42 bt rlength rmostBytes rplace rkind rbegin rword rnumber rletters rfaultKind rfaultPlace rtapeF boats boatNamesF gp gnu k17 k19 x20 k21 x22 x23 w24 x25 x26 z16 n32 r37 rplaceG_368 rkindG_369 rbeginG_370 rwordG_371 rnumberG_372 rlettersG_373 rplaceG_382 rfaultKindG_388 rfaultPlaceG_389 iv_rreader_0 iv_rreader_1 iv_rreader_2 iv_rreader_3 hTC iv_a_5 hRT hNL j27 j28 j29 j30 jRT jB jFk jFp hm34 c36 p38 v45 c365 p374 p375 p376 p392 t399 t400 t401), p391, p392, p393⟩, by rw [ht9]; exact hP9, va_K.moved hW9.alike hK, hD9⟩, hS.F ht9⟩) hS.2.2 dX0_read_111
          · refine lv_aload_n hx hb dX0_read_80 rfl (lv_at hl 3 rfl) ?_
            refine lv_iconst (v := nI 4) hx hb dX0_read_81 (by decide) ?_
            refine r_call_i (wr := [(bk, .inr (0, [.ref blines, .int (nI k17), .int blived, .int bwhyWrong, .int bfineLines, .int bdayThen, .int beatenThen])), (blines, .inl (ky 0, 160, .inl f18)), (rtape, .inl (ky 2, 940, .inl rtapeF)), (a, .inr (7, [.int (nI wide), .int (nI high), .int heat, .int cools, .int skinHeat, .int today, .int stirs, .int steps, .int (nI lumps), .int (nI boats), .ref thickness, .ref lumpNames, .ref lumpCells, .ref boatNames, .ref boatCells, .ref loads, .ref spoons, .ref spoonsLeft, .ref depths])), (boatNames, .inl (ky 1, 6, .inr (.inl boatNamesF)))]) (va_runV (As := [.int (nI 4)]) (rest := []) ⟨hx, hb, hml, hown, hts⟩ (c_f_refuse l dC dI ky H.size reader rtape rlength rmostBytes k19 x20 k21 x22 x23 w24 x25 x26 (nI 4) iv_rreader_0 j30 iv_rreader_2 j29) (cwV 1 hts gX0_read_X5_refuse rfl rfl rfl (by decide +kernel) ⟨(Nat.le_of_ble_eq_true rfl), (Nat.le_of_ble_eq_true rfl)⟩) (pre_UV hK hP hD [2] (by decide) rfl (ci := 5) (q0 := 2) rfl rfl) rfl rfl hl.1 rfl (lv_room (Nat.le_of_ble_eq_true rfl)) dX0_read_82 ⟨(Nat.le_of_ble_eq_true rfl), (Nat.le_of_ble_eq_true rfl)⟩) hP hD hS hA [2] [0, 1, 3, 4, 5] rfl rfl (by decide) (by decide) (fun r429 u427 H locs p428 hP hD hS => ?_)
            obtain ⟨rfaultKindG_430, rfaultPlaceG_431⟩ := u427
            try dsimp only at p428
            obtain ⟨p432, p433, p434⟩ := p428
            refine W.widen (k := 0) (n := 0) (Nat.le_of_ble_eq_true rfl) (Nat.le_of_ble_eq_true rfl) ?_
            have hP : va_P (dC, dI) vwCl [(bk, .inr (0, [.ref blines, .int (nI k17), .int blived, .int bwhyWrong, .int bfineLines, .int bdayThen, .int beatenThen])), (blines, .inl (ky 0, 160, .inl f18)), (rtape, .inl (ky 2, 940, .inl rtapeF)), (a, .inr (7, [.int (nI wide), .int (nI high), .int heat, .int cools, .int skinHeat, .int today, .int stirs, .int steps, .int (nI lumps), .int (nI boats), .ref thickness, .ref lumpNames, .ref lumpCells, .ref boatNames, .ref boatCells, .ref loads, .ref spoons, .ref spoonsLeft, .ref depths])), (boatNames, .inl (ky 1, 6, .inr (.inl boatNamesF))), (reader, .inr (5, [.ref rtape, .int (nI rlength), .int (nI rmostBytes), .int (nI k19), .int x20, .int (nI k21), .int x22, .int x23, .long w24, .int rfaultKindG_430, .int rfaultPlaceG_431]))] H := hP
            have hD : va_D A [(bk, .inr (0, [.ref blines, .int (nI k17), .int blived, .int bwhyWrong, .int bfineLines, .int bdayThen, .int beatenThen])), (blines, .inl (ky 0, 160, .inl f18)), (rtape, .inl (ky 2, 940, .inl rtapeF)), (a, .inr (7, [.int (nI wide), .int (nI high), .int heat, .int cools, .int skinHeat, .int today, .int stirs, .int steps, .int (nI lumps), .int (nI boats), .ref thickness, .ref lumpNames, .ref lumpCells, .ref boatNames, .ref boatCells, .ref loads, .ref spoons, .ref spoonsLeft, .ref depths])), (boatNames, .inl (ky 1, 6, .inr (.inl boatNamesF))), (reader, .inr (5, [.ref rtape, .int (nI rlength), .int (nI rmostBytes), .int (nI k19), .int x20, .int (nI k21), .int x22, .int x23, .long w24, .int rfaultKindG_430, .int rfaultPlaceG_431]))] := hD
            subst p432
            rw [hQ]
            have hP9 := hP.sub (ws' := [(bk, .inr (0, [.ref blines, .int (nI k17), .int blived, .int bwhyWrong, .int bfineLines, .int bdayThen, .int beatenThen])), (blines, .inl (ky 0, 160, .inl f18)), (reader, .inr (5, [.ref rtape, .int (nI rlength), .int (nI rmostBytes), .int (nI k19), .int x20, .int (nI k21), .int x22, .int x23, .long w24, .int rfaultKindG_430, .int rfaultPlaceG_431])), (rtape, .inl (ky 2, 940, .inl rtapeF)), (a, .inr (7, [.int (nI wide), .int (nI high), .int heat, .int cools, .int skinHeat, .int today, .int stirs, .int steps, .int (nI lumps), .int (nI boats), .ref thickness, .ref lumpNames, .ref lumpCells, .ref boatNames, .ref boatCells, .ref loads, .ref spoons, .ref spoonsLeft, .ref depths])), (boatNames, .inl (ky 1, 6, .inr (.inl boatNamesF)))]) [0, 1, 5, 2, 3, 4] rfl
            have hD9 := hD.sub (ws' := [(bk, .inr (0, [.ref blines, .int (nI k17), .int blived, .int bwhyWrong, .int bfineLines, .int bdayThen, .int beatenThen])), (blines, .inl (ky 0, 160, .inl f18)), (reader, .inr (5, [.ref rtape, .int (nI rlength), .int (nI rmostBytes), .int (nI k19), .int x20, .int (nI k21), .int x22, .int x23, .long w24, .int rfaultKindG_430, .int rfaultPlaceG_431])), (rtape, .inl (ky 2, 940, .inl rtapeF)), (a, .inr (7, [.int (nI wide), .int (nI high), .int heat, .int cools, .int skinHeat, .int today, .int stirs, .int steps, .int (nI lumps), .int (nI boats), .ref thickness, .ref lumpNames, .ref lumpCells, .ref boatNames, .ref boatCells, .ref loads, .ref spoons, .ref spoonsLeft, .ref depths])), (boatNames, .inl (ky 1, 6, .inr (.inl boatNamesF)))]) [0, 1, 5, 2, 3, 4] (by decide) rfl
            exact W.zret (v := nI 0) hx hb hr (by decide) (fun t9 ht9 hW9 => ⟨⟨nI 0, (k17, f18, k19, x20, k21, x22, x23, w24, rfaultKindG_430, rfaultPlaceG_431), rfl, ⟨(lf_f_bkRead_43 bt rlength rmostBytes rplace rkind rbegin rword rnumber rletters rfaultKind rfaultPlace rtapeF boats boatNamesF gp gnu k17 k19 x20 k21 x22 x23 w24 x25 x26 z16 n32 r37 rfaultKindG_430 rfaultPlaceG_431 iv_rreader_0 iv_rreader_1 iv_rreader_2 iv_rreader_3 hTC iv_a_5 hRT hNL j27 j28 j29 j30 jRT jB jFk jFp hm34 c36 p38 v45 c365 p433 p434), j27, j30, j29⟩, by rw [ht9]; exact hP9, va_K.moved hW9.alike hK, hD9⟩, hS.F ht9⟩) hS.2.2 dX0_read_85
        · refine lv_istore_n (lv' := [(3, .int (nI 5)), (0, .ref bk), (1, .ref reader), (2, .ref a)]) hx hb dX0_read_28 rfl hl (by decide) rfl (fun ls hl => ?_)
          refine lv_iload_n hx hb dX0_read_29 rfl (lv_at hl 0 rfl) ?_
          refine lv_iconst (v := nI 1) hx hb dX0_read_30 (by decide) ?_
          refine lv_icmp_ne (tgt := 45) hx hb dX0_read_31 (by decide) (fun c435 => ?_) (fun c435 => absurd c435 (by decide))
          refine lv_iconst (v := nI 0) hx hb dX0_read_45 (by decide) ?_
          refine lv_istore (lv' := [(4, .int (nI 0)), (3, .int (nI 5)), (0, .ref bk), (1, .ref reader), (2, .ref a)]) hx hb dX0_read_46 hl (by decide) rfl (fun ls hl => ?_)
          refine lv_iload_n hx hb dX0_read_48 rfl (lv_at hl 1 rfl) ?_
          refine lv_iconst (v := (-1 : Int32)) hx hb dX0_read_49 (by decide) ?_
          refine lv_icmp_ne (tgt := 59) hx hb dX0_read_50 (by decide) (fun c436 => ?_) (fun c436 => absurd c436 (by decide))
          refine lv_iload hx hb dX0_read_59 (lv_at hl 0 rfl) ?_
          refine lv_iconst (v := (-1 : Int32)) hx hb dX0_read_61 (by decide) ?_
          refine lv_icmp_ne (tgt := 71) hx hb dX0_read_62 (by decide) (fun c437 => ?_) (fun c437 => absurd c437 (by decide))
          refine lv_aload_n hx hb dX0_read_71 rfl (lv_at hl 2 rfl) ?_
          refine va_get (D := (dC, dI)) (ci := 0) (v := .int (nI k17)) (C := RX0) (T := TX0) (N := 7) hx hb hts hin0 hown hK hP 0 rfl rfl 1 (by decide) (hts (.fieldLink RX0 15 "PorridgeSea$Book" "lineCount" "I") (List.mem_of_getElem? (i := 1) rfl)) (fun _ h9 => h9) rfl dX0_read_72 ?_
          refine lv_bipush (v := nI 40) hx hb dX0_read_75 (by decide) ?_
          refine n_icmp_lt (x := k17) (y := 40) (tgt := 86) hx hb (by omega) (by omega) dX0_read_77 (by decide) (fun c438 => ?_) (fun c438 => ?_)
          · refine lv_aload_n hx hb dX0_read_86 rfl (lv_at hl 3 rfl) ?_
            refine r_call_v (wr := [(bk, .inr (0, [.ref blines, .int (nI k17), .int blived, .int bwhyWrong, .int bfineLines, .int bdayThen, .int beatenThen])), (blines, .inl (ky 0, 160, .inl f18)), (a, .inr (7, [.int (nI wide), .int (nI high), .int heat, .int cools, .int skinHeat, .int today, .int stirs, .int steps, .int (nI lumps), .int (nI boats), .ref thickness, .ref lumpNames, .ref lumpCells, .ref boatNames, .ref boatCells, .ref loads, .ref spoons, .ref spoonsLeft, .ref depths])), (boatNames, .inl (ky 1, 6, .inr (.inl boatNamesF)))]) (va_runV (As := []) (rest := []) ⟨hx, hb, hml, hown, hts⟩ (c_f_adv l dC dI ky H.size adK adV bt reader rtape rlength rmostBytes k19 x20 k21 x22 x23 w24 x25 x26 rtapeF (tT bt rlength rmostBytes z16) iv_rreader_0 j30 iv_rreader_2 j29 hTC jRT.2.2.1) (cwV 0 hts gX0_read_X5_advance rfl rfl rfl (by decide +kernel) ⟨(Nat.le_of_ble_eq_true rfl), (Nat.le_of_ble_eq_true rfl)⟩) (pre_UEV hE hS hA hK hP hD [2, 3] (by decide) rfl (va_recv hK hP (ci := 5) (q0 := 2) rfl rfl)) rfl rfl hl.1 rfl (lv_room (Nat.le_of_ble_eq_true rfl)) dX0_read_87 ⟨(Nat.le_of_ble_eq_true rfl), (Nat.le_of_ble_eq_true rfl)⟩) hP hD hS hA [2, 3] [0, 1, 4, 5] rfl rfl (by decide) (by decide) (fun  u439 H locs p440 hP hD hS => ?_)
            obtain ⟨rplaceG_441, rkindG_442, rbeginG_443, rwordG_444, rnumberG_445, rlettersG_446⟩ := u439
            try dsimp only at p440
            obtain ⟨p447, p448, p449⟩ := p440
            refine W.widen (k := 0) (n := 0) (Nat.le_of_ble_eq_true rfl) (Nat.le_of_ble_eq_true rfl) ?_
            have hP : va_P (dC, dI) vwCl [(bk, .inr (0, [.ref blines, .int (nI k17), .int blived, .int bwhyWrong, .int bfineLines, .int bdayThen, .int beatenThen])), (blines, .inl (ky 0, 160, .inl f18)), (a, .inr (7, [.int (nI wide), .int (nI high), .int heat, .int cools, .int skinHeat, .int today, .int stirs, .int steps, .int (nI lumps), .int (nI boats), .ref thickness, .ref lumpNames, .ref lumpCells, .ref boatNames, .ref boatCells, .ref loads, .ref spoons, .ref spoonsLeft, .ref depths])), (boatNames, .inl (ky 1, 6, .inr (.inl boatNamesF))), (reader, .inr (5, [.ref rtape, .int (nI rlength), .int (nI rmostBytes), .int (nI rplaceG_441), .int rkindG_442, .int (nI rbeginG_443), .int rwordG_444, .int rnumberG_445, .long rlettersG_446, .int x25, .int x26])), (rtape, .inl (ky 2, 940, .inl rtapeF))] H := hP
            have hD : va_D A [(bk, .inr (0, [.ref blines, .int (nI k17), .int blived, .int bwhyWrong, .int bfineLines, .int bdayThen, .int beatenThen])), (blines, .inl (ky 0, 160, .inl f18)), (a, .inr (7, [.int (nI wide), .int (nI high), .int heat, .int cools, .int skinHeat, .int today, .int stirs, .int steps, .int (nI lumps), .int (nI boats), .ref thickness, .ref lumpNames, .ref lumpCells, .ref boatNames, .ref boatCells, .ref loads, .ref spoons, .ref spoonsLeft, .ref depths])), (boatNames, .inl (ky 1, 6, .inr (.inl boatNamesF))), (reader, .inr (5, [.ref rtape, .int (nI rlength), .int (nI rmostBytes), .int (nI rplaceG_441), .int rkindG_442, .int (nI rbeginG_443), .int rwordG_444, .int rnumberG_445, .long rlettersG_446, .int x25, .int x26])), (rtape, .inl (ky 2, 940, .inl rtapeF))] := hD
            refine lv_aload_n hx hb dX0_read_90 rfl (lv_at hl 2 rfl) ?_
            refine lv_aload_n hx hb dX0_read_91 rfl (lv_at hl 3 rfl) ?_
            refine lv_iload_n hx hb dX0_read_92 rfl (lv_at hl 1 rfl) ?_
            refine lv_iload hx hb dX0_read_93 (lv_at hl 0 rfl) ?_
            refine r_call_i (wr := [(a, .inr (7, [.int (nI wide), .int (nI high), .int heat, .int cools, .int skinHeat, .int today, .int stirs, .int steps, .int (nI lumps), .int (nI boats), .ref thickness, .ref lumpNames, .ref lumpCells, .ref boatNames, .ref boatCells, .ref loads, .ref spoons, .ref spoonsLeft, .ref depths])), (boatNames, .inl (ky 1, 6, .inr (.inl boatNamesF)))]) (va_runV (As := [.ref reader, .int (nI 5), .int (nI 0)]) (rest := []) ⟨hx, hb, hml, hown, hts⟩ (c_f_rest5 l dC dI ky H.size adK adV bk blines k17 blived bwhyWrong bfineLines bdayThen beatenThen f18 bt reader rtape rlength rmostBytes rplaceG_441 rkindG_442 rbeginG_443 rwordG_444 rnumberG_445 rlettersG_446 x25 x26 rtapeF (tT bt rlength rmostBytes z16) (nI 0) j27 iv_rreader_0 p447 iv_rreader_2 p448 hTC p449 c438) (cwV 3 hts gX0_read_X0_readRest rfl rfl rfl (by decide +kernel) ⟨(Nat.le_of_ble_eq_true rfl), (Nat.le_of_ble_eq_true rfl)⟩) (pre_UEV hE hS hA hK hP hD [0, 1, 4, 5] (by decide) rfl (va_recv hK hP (ci := 0) (q0 := 0) rfl rfl)) rfl rfl hl.1 rfl (lv_room (Nat.le_of_ble_eq_true rfl)) dX0_read_95 ⟨(Nat.le_of_ble_eq_true rfl), (Nat.le_of_ble_eq_true rfl)⟩) hP hD hS hA [0, 1, 4, 5] [2, 3] rfl rfl (by decide) (by decide) (fun r452 u450 H locs p451 hP hD hS => ?_)
            obtain ⟨blineCountG_453, blinesG_454, rplaceG_455, rkindG_456, rbeginG_457, rwordG_458, rnumberG_459, rlettersG_460, rfaultKindG_461, rfaultPlaceG_462⟩ := u450
            try dsimp only at p451
            obtain ⟨p463, p464, p465, p466⟩ := p451
            refine W.widen (k := 0) (n := 0) (Nat.le_of_ble_eq_true rfl) (Nat.le_of_ble_eq_true rfl) ?_
            have hP : va_P (dC, dI) vwCl [(a, .inr (7, [.int (nI wide), .int (nI high), .int heat, .int cools, .int skinHeat, .int today, .int stirs, .int steps, .int (nI lumps), .int (nI boats), .ref thickness, .ref lumpNames, .ref lumpCells, .ref boatNames, .ref boatCells, .ref loads, .ref spoons, .ref spoonsLeft, .ref depths])), (boatNames, .inl (ky 1, 6, .inr (.inl boatNamesF))), (bk, .inr (0, [.ref blines, .int (nI blineCountG_453), .int blived, .int bwhyWrong, .int bfineLines, .int bdayThen, .int beatenThen])), (blines, .inl (ky 0, 160, .inl blinesG_454)), (reader, .inr (5, [.ref rtape, .int (nI rlength), .int (nI rmostBytes), .int (nI rplaceG_455), .int rkindG_456, .int (nI rbeginG_457), .int rwordG_458, .int rnumberG_459, .long rlettersG_460, .int rfaultKindG_461, .int rfaultPlaceG_462])), (rtape, .inl (ky 2, 940, .inl rtapeF))] H := hP
            have hD : va_D A [(a, .inr (7, [.int (nI wide), .int (nI high), .int heat, .int cools, .int skinHeat, .int today, .int stirs, .int steps, .int (nI lumps), .int (nI boats), .ref thickness, .ref lumpNames, .ref lumpCells, .ref boatNames, .ref boatCells, .ref loads, .ref spoons, .ref spoonsLeft, .ref depths])), (boatNames, .inl (ky 1, 6, .inr (.inl boatNamesF))), (bk, .inr (0, [.ref blines, .int (nI blineCountG_453), .int blived, .int bwhyWrong, .int bfineLines, .int bdayThen, .int beatenThen])), (blines, .inl (ky 0, 160, .inl blinesG_454)), (reader, .inr (5, [.ref rtape, .int (nI rlength), .int (nI rmostBytes), .int (nI rplaceG_455), .int rkindG_456, .int (nI rbeginG_457), .int rwordG_458, .int rnumberG_459, .long rlettersG_460, .int rfaultKindG_461, .int rfaultPlaceG_462])), (rtape, .inl (ky 2, 940, .inl rtapeF))] := hD
            rcases p463 with ⟨rfl, t467, t468, t469, t470, t471⟩ | ⟨rfl, t472, t473, t474⟩
            · refine lv_if_eq (tgt := 110) hx hb dX0_read_98 (by decide) (fun c475 => absurd c475 (by decide)) (fun c475 => ?_)
              refine lv_aload_n hx hb dX0_read_101 rfl (lv_at hl 3 rfl) ?_
              refine lv_bipush (v := nI 59) hx hb dX0_read_102 (by decide) ?_
              refine r_call_i (wr := [(a, .inr (7, [.int (nI wide), .int (nI high), .int heat, .int cools, .int skinHeat, .int today, .int stirs, .int steps, .int (nI lumps), .int (nI boats), .ref thickness, .ref lumpNames, .ref lumpCells, .ref boatNames, .ref boatCells, .ref loads, .ref spoons, .ref spoonsLeft, .ref depths])), (boatNames, .inl (ky 1, 6, .inr (.inl boatNamesF))), (bk, .inr (0, [.ref blines, .int (nI blineCountG_453), .int blived, .int bwhyWrong, .int bfineLines, .int bdayThen, .int beatenThen])), (blines, .inl (ky 0, 160, .inl blinesG_454))]) (va_runV (As := [.int (nI 59)]) (rest := []) ⟨hx, hb, hml, hown, hts⟩ (c_f_takeSign l dC dI ky H.size adK adV bt reader rtape rlength rmostBytes rplaceG_455 rkindG_456 rbeginG_457 rwordG_458 rnumberG_459 rlettersG_460 rfaultKindG_461 rfaultPlaceG_462 rtapeF (okV (bRest bt rlength rmostBytes 19 (tT bt rlength rmostBytes z16))) (nI 59) iv_rreader_0 p465 iv_rreader_2 p466 hTC t468) (cwV 1 hts gX0_read_X5_takeSign rfl rfl rfl (by decide +kernel) ⟨(Nat.le_of_ble_eq_true rfl), (Nat.le_of_ble_eq_true rfl)⟩) (pre_UEV hE hS hA hK hP hD [4, 5] (by decide) rfl (va_recv hK hP (ci := 5) (q0 := 4) rfl rfl)) rfl rfl hl.1 rfl (lv_room (Nat.le_of_ble_eq_true rfl)) dX0_read_104 ⟨(Nat.le_of_ble_eq_true rfl), (Nat.le_of_ble_eq_true rfl)⟩) hP hD hS hA [4, 5] [0, 1, 2, 3] rfl rfl (by decide) (by decide) (fun r478 u476 H locs p477 hP hD hS => ?_)
              obtain ⟨rplaceG_479, rkindG_480, rbeginG_481, rwordG_482, rnumberG_483, rlettersG_484, rfaultKindG_485, rfaultPlaceG_486⟩ := u476
              try dsimp only at p477
              obtain ⟨p487, p488, p489⟩ := p477
              refine W.widen (k := 0) (n := 0) (Nat.le_of_ble_eq_true rfl) (Nat.le_of_ble_eq_true rfl) ?_
              have hP : va_P (dC, dI) vwCl [(a, .inr (7, [.int (nI wide), .int (nI high), .int heat, .int cools, .int skinHeat, .int today, .int stirs, .int steps, .int (nI lumps), .int (nI boats), .ref thickness, .ref lumpNames, .ref lumpCells, .ref boatNames, .ref boatCells, .ref loads, .ref spoons, .ref spoonsLeft, .ref depths])), (boatNames, .inl (ky 1, 6, .inr (.inl boatNamesF))), (bk, .inr (0, [.ref blines, .int (nI blineCountG_453), .int blived, .int bwhyWrong, .int bfineLines, .int bdayThen, .int beatenThen])), (blines, .inl (ky 0, 160, .inl blinesG_454)), (reader, .inr (5, [.ref rtape, .int (nI rlength), .int (nI rmostBytes), .int (nI rplaceG_479), .int rkindG_480, .int (nI rbeginG_481), .int rwordG_482, .int rnumberG_483, .long rlettersG_484, .int rfaultKindG_485, .int rfaultPlaceG_486])), (rtape, .inl (ky 2, 940, .inl rtapeF))] H := hP
              have hD : va_D A [(a, .inr (7, [.int (nI wide), .int (nI high), .int heat, .int cools, .int skinHeat, .int today, .int stirs, .int steps, .int (nI lumps), .int (nI boats), .ref thickness, .ref lumpNames, .ref lumpCells, .ref boatNames, .ref boatCells, .ref loads, .ref spoons, .ref spoonsLeft, .ref depths])), (boatNames, .inl (ky 1, 6, .inr (.inl boatNamesF))), (bk, .inr (0, [.ref blines, .int (nI blineCountG_453), .int blived, .int bwhyWrong, .int bfineLines, .int bdayThen, .int beatenThen])), (blines, .inl (ky 0, 160, .inl blinesG_454)), (reader, .inr (5, [.ref rtape, .int (nI rlength), .int (nI rmostBytes), .int (nI rplaceG_479), .int rkindG_480, .int (nI rbeginG_481), .int rwordG_482, .int rnumberG_483, .long rlettersG_484, .int rfaultKindG_485, .int rfaultPlaceG_486])), (rtape, .inl (ky 2, 940, .inl rtapeF))] := hD
              rcases p487 with ⟨rfl, t490, t491, t492, t493⟩ | ⟨rfl, t494, t495, t496⟩
              · refine lv_if_ne (tgt := 112) hx hb dX0_read_107 (by decide) (fun c497 => ?_) (fun c497 => absurd c497 (by decide))
                refine lv_goto (tgt := 5) hx hb dX0_read_112 (by decide) ?_
                exact ih33 blineCountG_453 blinesG_454 rplaceG_479 rkindG_480 rbeginG_481 rwordG_482 rnumberG_483 rlettersG_484 rfaultKindG_485 rfaultPlaceG_486 (tT bt rlength rmostBytes (okV (bRest bt rlength rmostBytes 19 (tT bt rlength rmostBytes z16)))) p464 (lf_f_bkRead_44 bt rlength rmostBytes rplace rkind rbegin rword rnumber rletters rtapeF boats boatNamesF gp gnu k17 k19 x20 k21 x22 x23 w24 z16 n32 r37 rplaceG_441 rkindG_442 rbeginG_443 rwordG_444 rnumberG_445 rlettersG_446 blineCountG_453 rplaceG_455 rkindG_456 rbeginG_457 rwordG_458 rnumberG_459 rlettersG_460 rplaceG_479 rkindG_480 rbeginG_481 rwordG_482 rnumberG_483 rlettersG_484 iv_rreader_0 iv_rreader_1 iv_rreader_2 iv_rreader_3 hTC iv_a_5 hRT hNL j27 j28 j29 j30 jRT jB hm34 c36 p38 v46 c438 p447 p448 p449 p464 p465 p466 t467 t468 t469 p488 p489 t490 t491) p489 p488 t491 (lf_f_bkRead_45 bt rlength rmostBytes rplace rkind rbegin rword rnumber rletters rtapeF boats boatNamesF gp gnu k17 k19 x20 k21 x22 x23 w24 z16 n32 r37 rplaceG_441 rkindG_442 rbeginG_443 rwordG_444 rnumberG_445 rlettersG_446 blineCountG_453 rplaceG_455 rkindG_456 rbeginG_457 rwordG_458 rnumberG_459 rlettersG_460 rplaceG_479 rkindG_480 rbeginG_481 rwordG_482 rnumberG_483 rlettersG_484 iv_rreader_0 iv_rreader_1 iv_rreader_2 iv_rreader_3 hTC iv_a_5 hRT hNL j27 j28 j29 j30 jRT jB hm34 c36 p38 v46 c438 p447 p448 p449 p464 p465 p466 t467 t468 t469 p488 p489 t490 t491) (lf_f_bkRead_46 adK adV bk blines blineCount blived bwhyWrong bfineLines bdayThen beatenThen blinesF bt reader rtape rlength rmostBytes rplace rkind rbegin rword rnumber rletters rfaultKind rfaultPlace rtapeF a wide high heat cools skinHeat today stirs steps lumps boats thickness lumpNames lumpCells boatNames boatCells loads spoons spoonsLeft depths boatNamesF gp gnu k17 f18 k19 x20 k21 x22 x23 w24 x25 x26 z16 n32 r37 rplaceG_441 rkindG_442 rbeginG_443 rwordG_444 rnumberG_445 rlettersG_446 blineCountG_453 blinesG_454 rplaceG_455 rkindG_456 rbeginG_457 rwordG_458 rnumberG_459 rlettersG_460 rfaultKindG_461 rfaultPlaceG_462 rplaceG_479 rkindG_480 rbeginG_481 rwordG_482 rnumberG_483 rlettersG_484 rfaultKindG_485 rfaultPlaceG_486 iv_bbk_0 iv_rreader_0 iv_rreader_1 iv_rreader_2 iv_rreader_3 hTC iv_a_0 iv_a_1 iv_a_2 iv_a_3 iv_a_4 iv_a_5 hRT hNL j27 j28 j29 j30 jRT jB jFk jFp hm34 c36 p38 v46 c438 p447 p448 p449 p464 p465 p466 t467 t468 t469 t470 t471 p488 p489 t490 t491 t492 t493) (lf_f_bkRead_47 adK adV bk blines blineCount blived bwhyWrong bfineLines bdayThen beatenThen blinesF bt reader rtape rlength rmostBytes rplace rkind rbegin rword rnumber rletters rfaultKind rfaultPlace rtapeF a wide high heat cools skinHeat today stirs steps lumps boats thickness lumpNames lumpCells boatNames boatCells loads spoons spoonsLeft depths boatNamesF gp gnu k17 f18 k19 x20 k21 x22 x23 w24 x25 x26 z16 n32 r37 rplaceG_441 rkindG_442 rbeginG_443 rwordG_444 rnumberG_445 rlettersG_446 blineCountG_453 blinesG_454 rplaceG_455 rkindG_456 rbeginG_457 rwordG_458 rnumberG_459 rlettersG_460 rfaultKindG_461 rfaultPlaceG_462 rplaceG_479 rkindG_480 rbeginG_481 rwordG_482 rnumberG_483 rlettersG_484 rfaultKindG_485 rfaultPlaceG_486 iv_bbk_0 iv_rreader_0 iv_rreader_1 iv_rreader_2 iv_rreader_3 hTC iv_a_0 iv_a_1 iv_a_2 iv_a_3 iv_a_4 iv_a_5 hRT hNL j27 j28 j29 j30 jRT jB jFk jFp hm34 c36 p38 v46 c438 p447 p448 p449 p464 p465 p466 t467 t468 t469 t470 t471 p488 p489 t490 t491 t492 t493) (lf_f_bkRead_48 bt rlength rmostBytes rplace rkind rbegin rword rnumber rletters rtapeF boats boatNamesF gp gnu k17 k19 x20 k21 x22 x23 w24 z16 n32 r37 rplaceG_441 rkindG_442 rbeginG_443 rwordG_444 rnumberG_445 rlettersG_446 blineCountG_453 rplaceG_455 rkindG_456 rbeginG_457 rwordG_458 rnumberG_459 rlettersG_460 rplaceG_479 rkindG_480 rbeginG_481 rwordG_482 rnumberG_483 rlettersG_484 iv_rreader_0 iv_rreader_1 iv_rreader_2 iv_rreader_3 hTC iv_a_5 hRT hNL j27 j28 j29 j30 jRT jB hm34 c36 p38 v46 c438 p447 p448 p449 p464 p465 p466 t467 t468 t469 p488 p489 t490 t491) _ _ _ (hP.sub [2, 3, 4, 5, 0, 1] rfl) (hD.sub [2, 3, 4, 5, 0, 1] (by decide) rfl) hS (lv_sub hl [2, 3, 4] rfl)
              · refine lv_if_ne (tgt := 112) hx hb dX0_read_107 (by decide) (fun c498 => absurd c498 (by decide)) (fun c498 => ?_)
                refine lv_iconst (v := nI 0) hx hb dX0_read_110 (by decide) ?_
                rw [hQ]
                have hP9 := hP.sub (ws' := [(bk, .inr (0, [.ref blines, .int (nI blineCountG_453), .int blived, .int bwhyWrong, .int bfineLines, .int bdayThen, .int beatenThen])), (blines, .inl (ky 0, 160, .inl blinesG_454)), (reader, .inr (5, [.ref rtape, .int (nI rlength), .int (nI rmostBytes), .int (nI rplaceG_479), .int rkindG_480, .int (nI rbeginG_481), .int rwordG_482, .int rnumberG_483, .long rlettersG_484, .int rfaultKindG_485, .int rfaultPlaceG_486])), (rtape, .inl (ky 2, 940, .inl rtapeF)), (a, .inr (7, [.int (nI wide), .int (nI high), .int heat, .int cools, .int skinHeat, .int today, .int stirs, .int steps, .int (nI lumps), .int (nI boats), .ref thickness, .ref lumpNames, .ref lumpCells, .ref boatNames, .ref boatCells, .ref loads, .ref spoons, .ref spoonsLeft, .ref depths])), (boatNames, .inl (ky 1, 6, .inr (.inl boatNamesF)))]) [2, 3, 4, 5, 0, 1] rfl
                have hD9 := hD.sub (ws' := [(bk, .inr (0, [.ref blines, .int (nI blineCountG_453), .int blived, .int bwhyWrong, .int bfineLines, .int bdayThen, .int beatenThen])), (blines, .inl (ky 0, 160, .inl blinesG_454)), (reader, .inr (5, [.ref rtape, .int (nI rlength), .int (nI rmostBytes), .int (nI rplaceG_479), .int rkindG_480, .int (nI rbeginG_481), .int rwordG_482, .int rnumberG_483, .long rlettersG_484, .int rfaultKindG_485, .int rfaultPlaceG_486])), (rtape, .inl (ky 2, 940, .inl rtapeF)), (a, .inr (7, [.int (nI wide), .int (nI high), .int heat, .int cools, .int skinHeat, .int today, .int stirs, .int steps, .int (nI lumps), .int (nI boats), .ref thickness, .ref lumpNames, .ref lumpCells, .ref boatNames, .ref boatCells, .ref loads, .ref spoons, .ref spoonsLeft, .ref depths])), (boatNames, .inl (ky 1, 6, .inr (.inl boatNamesF)))]) [2, 3, 4, 5, 0, 1] (by decide) rfl
                exact W.zret (v := nI 0) hx hb hr (by decide) (fun t9 ht9 hW9 => ⟨⟨nI 0, (blineCountG_453, blinesG_454, rplaceG_479, rkindG_480, rbeginG_481, rwordG_482, rnumberG_483, rlettersG_484, rfaultKindG_485, rfaultPlaceG_486), rfl, ⟨(lf_f_bkRead_49 bt rlength rmostBytes rplace rkind rbegin rword rnumber rletters rfaultKind rfaultPlace rtapeF boats boatNamesF gp gnu k17 k19 x20 k21 x22 x23 w24 x25 x26 z16 n32 r37 rplaceG_441 rkindG_442 rbeginG_443 rwordG_444 rnumberG_445 rlettersG_446 blineCountG_453 rplaceG_455 rkindG_456 rbeginG_457 rwordG_458 rnumberG_459 rlettersG_460 rfaultKindG_461 rfaultPlaceG_462 rplaceG_479 rfaultKindG_485 rfaultPlaceG_486 iv_rreader_0 iv_rreader_1 iv_rreader_2 iv_rreader_3 hTC iv_a_5 hRT hNL j27 j28 j29 j30 jRT jB jFk jFp hm34 c36 p38 v46 c438 p447 p448 p449 p464 p465 p466 t467 t468 t469 t470 t471 p488 t494 t495 t496), p464, p488, p489⟩, by rw [ht9]; exact hP9, va_K.moved hW9.alike hK, hD9⟩, hS.F ht9⟩) hS.2.2 dX0_read_111
            · refine lv_if_eq (tgt := 110) hx hb dX0_read_98 (by decide) (fun c499 => ?_) (fun c499 => absurd (by decide) c499)
              refine lv_iconst (v := nI 0) hx hb dX0_read_110 (by decide) ?_
              rw [hQ]
              have hP9 := hP.sub (ws' := [(bk, .inr (0, [.ref blines, .int (nI blineCountG_453), .int blived, .int bwhyWrong, .int bfineLines, .int bdayThen, .int beatenThen])), (blines, .inl (ky 0, 160, .inl blinesG_454)), (reader, .inr (5, [.ref rtape, .int (nI rlength), .int (nI rmostBytes), .int (nI rplaceG_455), .int rkindG_456, .int (nI rbeginG_457), .int rwordG_458, .int rnumberG_459, .long rlettersG_460, .int rfaultKindG_461, .int rfaultPlaceG_462])), (rtape, .inl (ky 2, 940, .inl rtapeF)), (a, .inr (7, [.int (nI wide), .int (nI high), .int heat, .int cools, .int skinHeat, .int today, .int stirs, .int steps, .int (nI lumps), .int (nI boats), .ref thickness, .ref lumpNames, .ref lumpCells, .ref boatNames, .ref boatCells, .ref loads, .ref spoons, .ref spoonsLeft, .ref depths])), (boatNames, .inl (ky 1, 6, .inr (.inl boatNamesF)))]) [2, 3, 4, 5, 0, 1] rfl
              have hD9 := hD.sub (ws' := [(bk, .inr (0, [.ref blines, .int (nI blineCountG_453), .int blived, .int bwhyWrong, .int bfineLines, .int bdayThen, .int beatenThen])), (blines, .inl (ky 0, 160, .inl blinesG_454)), (reader, .inr (5, [.ref rtape, .int (nI rlength), .int (nI rmostBytes), .int (nI rplaceG_455), .int rkindG_456, .int (nI rbeginG_457), .int rwordG_458, .int rnumberG_459, .long rlettersG_460, .int rfaultKindG_461, .int rfaultPlaceG_462])), (rtape, .inl (ky 2, 940, .inl rtapeF)), (a, .inr (7, [.int (nI wide), .int (nI high), .int heat, .int cools, .int skinHeat, .int today, .int stirs, .int steps, .int (nI lumps), .int (nI boats), .ref thickness, .ref lumpNames, .ref lumpCells, .ref boatNames, .ref boatCells, .ref loads, .ref spoons, .ref spoonsLeft, .ref depths])), (boatNames, .inl (ky 1, 6, .inr (.inl boatNamesF)))]) [2, 3, 4, 5, 0, 1] (by decide) rfl
              exact W.zret (v := nI 0) hx hb hr (by decide) (fun t9 ht9 hW9 => ⟨⟨nI 0, (blineCountG_453, blinesG_454, rplaceG_455, rkindG_456, rbeginG_457, rwordG_458, rnumberG_459, rlettersG_460, rfaultKindG_461, rfaultPlaceG_462), rfl, ⟨(lf_f_bkRead_50 bt rlength rmostBytes rplace rkind rbegin rword rnumber rletters rfaultKind rfaultPlace rtapeF boats boatNamesF gp gnu k17 k19 x20 k21 x22 x23 w24 x25 x26 z16 n32 r37 rplaceG_441 rkindG_442 rbeginG_443 rwordG_444 rnumberG_445 rlettersG_446 rplaceG_455 rfaultKindG_461 rfaultPlaceG_462 iv_rreader_0 iv_rreader_1 iv_rreader_2 iv_rreader_3 hTC iv_a_5 hRT hNL j27 j28 j29 j30 jRT jB jFk jFp hm34 c36 p38 v46 c438 p447 p448 p449 p465 t472 t473 t474), p464, p465, p466⟩, by rw [ht9]; exact hP9, va_K.moved hW9.alike hK, hD9⟩, hS.F ht9⟩) hS.2.2 dX0_read_111
          · refine lv_aload_n hx hb dX0_read_80 rfl (lv_at hl 3 rfl) ?_
            refine lv_iconst (v := nI 4) hx hb dX0_read_81 (by decide) ?_
            refine r_call_i (wr := [(bk, .inr (0, [.ref blines, .int (nI k17), .int blived, .int bwhyWrong, .int bfineLines, .int bdayThen, .int beatenThen])), (blines, .inl (ky 0, 160, .inl f18)), (rtape, .inl (ky 2, 940, .inl rtapeF)), (a, .inr (7, [.int (nI wide), .int (nI high), .int heat, .int cools, .int skinHeat, .int today, .int stirs, .int steps, .int (nI lumps), .int (nI boats), .ref thickness, .ref lumpNames, .ref lumpCells, .ref boatNames, .ref boatCells, .ref loads, .ref spoons, .ref spoonsLeft, .ref depths])), (boatNames, .inl (ky 1, 6, .inr (.inl boatNamesF)))]) (va_runV (As := [.int (nI 4)]) (rest := []) ⟨hx, hb, hml, hown, hts⟩ (c_f_refuse l dC dI ky H.size reader rtape rlength rmostBytes k19 x20 k21 x22 x23 w24 x25 x26 (nI 4) iv_rreader_0 j30 iv_rreader_2 j29) (cwV 1 hts gX0_read_X5_refuse rfl rfl rfl (by decide +kernel) ⟨(Nat.le_of_ble_eq_true rfl), (Nat.le_of_ble_eq_true rfl)⟩) (pre_UV hK hP hD [2] (by decide) rfl (ci := 5) (q0 := 2) rfl rfl) rfl rfl hl.1 rfl (lv_room (Nat.le_of_ble_eq_true rfl)) dX0_read_82 ⟨(Nat.le_of_ble_eq_true rfl), (Nat.le_of_ble_eq_true rfl)⟩) hP hD hS hA [2] [0, 1, 3, 4, 5] rfl rfl (by decide) (by decide) (fun r502 u500 H locs p501 hP hD hS => ?_)
            obtain ⟨rfaultKindG_503, rfaultPlaceG_504⟩ := u500
            try dsimp only at p501
            obtain ⟨p505, p506, p507⟩ := p501
            refine W.widen (k := 0) (n := 0) (Nat.le_of_ble_eq_true rfl) (Nat.le_of_ble_eq_true rfl) ?_
            have hP : va_P (dC, dI) vwCl [(bk, .inr (0, [.ref blines, .int (nI k17), .int blived, .int bwhyWrong, .int bfineLines, .int bdayThen, .int beatenThen])), (blines, .inl (ky 0, 160, .inl f18)), (rtape, .inl (ky 2, 940, .inl rtapeF)), (a, .inr (7, [.int (nI wide), .int (nI high), .int heat, .int cools, .int skinHeat, .int today, .int stirs, .int steps, .int (nI lumps), .int (nI boats), .ref thickness, .ref lumpNames, .ref lumpCells, .ref boatNames, .ref boatCells, .ref loads, .ref spoons, .ref spoonsLeft, .ref depths])), (boatNames, .inl (ky 1, 6, .inr (.inl boatNamesF))), (reader, .inr (5, [.ref rtape, .int (nI rlength), .int (nI rmostBytes), .int (nI k19), .int x20, .int (nI k21), .int x22, .int x23, .long w24, .int rfaultKindG_503, .int rfaultPlaceG_504]))] H := hP
            have hD : va_D A [(bk, .inr (0, [.ref blines, .int (nI k17), .int blived, .int bwhyWrong, .int bfineLines, .int bdayThen, .int beatenThen])), (blines, .inl (ky 0, 160, .inl f18)), (rtape, .inl (ky 2, 940, .inl rtapeF)), (a, .inr (7, [.int (nI wide), .int (nI high), .int heat, .int cools, .int skinHeat, .int today, .int stirs, .int steps, .int (nI lumps), .int (nI boats), .ref thickness, .ref lumpNames, .ref lumpCells, .ref boatNames, .ref boatCells, .ref loads, .ref spoons, .ref spoonsLeft, .ref depths])), (boatNames, .inl (ky 1, 6, .inr (.inl boatNamesF))), (reader, .inr (5, [.ref rtape, .int (nI rlength), .int (nI rmostBytes), .int (nI k19), .int x20, .int (nI k21), .int x22, .int x23, .long w24, .int rfaultKindG_503, .int rfaultPlaceG_504]))] := hD
            subst p505
            rw [hQ]
            have hP9 := hP.sub (ws' := [(bk, .inr (0, [.ref blines, .int (nI k17), .int blived, .int bwhyWrong, .int bfineLines, .int bdayThen, .int beatenThen])), (blines, .inl (ky 0, 160, .inl f18)), (reader, .inr (5, [.ref rtape, .int (nI rlength), .int (nI rmostBytes), .int (nI k19), .int x20, .int (nI k21), .int x22, .int x23, .long w24, .int rfaultKindG_503, .int rfaultPlaceG_504])), (rtape, .inl (ky 2, 940, .inl rtapeF)), (a, .inr (7, [.int (nI wide), .int (nI high), .int heat, .int cools, .int skinHeat, .int today, .int stirs, .int steps, .int (nI lumps), .int (nI boats), .ref thickness, .ref lumpNames, .ref lumpCells, .ref boatNames, .ref boatCells, .ref loads, .ref spoons, .ref spoonsLeft, .ref depths])), (boatNames, .inl (ky 1, 6, .inr (.inl boatNamesF)))]) [0, 1, 5, 2, 3, 4] rfl
            have hD9 := hD.sub (ws' := [(bk, .inr (0, [.ref blines, .int (nI k17), .int blived, .int bwhyWrong, .int bfineLines, .int bdayThen, .int beatenThen])), (blines, .inl (ky 0, 160, .inl f18)), (reader, .inr (5, [.ref rtape, .int (nI rlength), .int (nI rmostBytes), .int (nI k19), .int x20, .int (nI k21), .int x22, .int x23, .long w24, .int rfaultKindG_503, .int rfaultPlaceG_504])), (rtape, .inl (ky 2, 940, .inl rtapeF)), (a, .inr (7, [.int (nI wide), .int (nI high), .int heat, .int cools, .int skinHeat, .int today, .int stirs, .int steps, .int (nI lumps), .int (nI boats), .ref thickness, .ref lumpNames, .ref lumpCells, .ref boatNames, .ref boatCells, .ref loads, .ref spoons, .ref spoonsLeft, .ref depths])), (boatNames, .inl (ky 1, 6, .inr (.inl boatNamesF)))]) [0, 1, 5, 2, 3, 4] (by decide) rfl
            exact W.zret (v := nI 0) hx hb hr (by decide) (fun t9 ht9 hW9 => ⟨⟨nI 0, (k17, f18, k19, x20, k21, x22, x23, w24, rfaultKindG_503, rfaultPlaceG_504), rfl, ⟨(lf_f_bkRead_51 bt rlength rmostBytes rplace rkind rbegin rword rnumber rletters rfaultKind rfaultPlace rtapeF boats boatNamesF gp gnu k17 k19 x20 k21 x22 x23 w24 x25 x26 z16 n32 r37 rfaultKindG_503 rfaultPlaceG_504 iv_rreader_0 iv_rreader_1 iv_rreader_2 iv_rreader_3 hTC iv_a_5 hRT hNL j27 j28 j29 j30 jRT jB jFk jFp hm34 c36 p38 v46 c438 p506 p507), j27, j30, j29⟩, by rw [ht9]; exact hP9, va_K.moved hW9.alike hK, hD9⟩, hS.F ht9⟩) hS.2.2 dX0_read_85
        · refine lv_istore_n (lv' := [(3, .int (-1 : Int32)), (0, .ref bk), (1, .ref reader), (2, .ref a)]) hx hb dX0_read_28 rfl hl (by decide) rfl (fun ls hl => ?_)
          refine lv_iload_n hx hb dX0_read_29 rfl (lv_at hl 0 rfl) ?_
          refine lv_iconst (v := nI 1) hx hb dX0_read_30 (by decide) ?_
          refine lv_icmp_ne (tgt := 45) hx hb dX0_read_31 (by decide) (fun c508 => ?_) (fun c508 => absurd c508 (by decide))
          refine lv_iconst (v := nI 0) hx hb dX0_read_45 (by decide) ?_
          refine lv_istore (lv' := [(4, .int (nI 0)), (3, .int (-1 : Int32)), (0, .ref bk), (1, .ref reader), (2, .ref a)]) hx hb dX0_read_46 hl (by decide) rfl (fun ls hl => ?_)
          refine lv_iload_n hx hb dX0_read_48 rfl (lv_at hl 1 rfl) ?_
          refine lv_iconst (v := (-1 : Int32)) hx hb dX0_read_49 (by decide) ?_
          refine lv_icmp_ne (tgt := 59) hx hb dX0_read_50 (by decide) (fun c509 => absurd c509 (by decide)) (fun c509 => ?_)
          refine lv_aload_n hx hb dX0_read_53 rfl (lv_at hl 3 rfl) ?_
          refine lv_iconst (v := nI 1) hx hb dX0_read_54 (by decide) ?_
          refine r_call_i (wr := [(bk, .inr (0, [.ref blines, .int (nI k17), .int blived, .int bwhyWrong, .int bfineLines, .int bdayThen, .int beatenThen])), (blines, .inl (ky 0, 160, .inl f18)), (rtape, .inl (ky 2, 940, .inl rtapeF)), (a, .inr (7, [.int (nI wide), .int (nI high), .int heat, .int cools, .int skinHeat, .int today, .int stirs, .int steps, .int (nI lumps), .int (nI boats), .ref thickness, .ref lumpNames, .ref lumpCells, .ref boatNames, .ref boatCells, .ref loads, .ref spoons, .ref spoonsLeft, .ref depths])), (boatNames, .inl (ky 1, 6, .inr (.inl boatNamesF)))]) (va_runV (As := [.int (nI 1)]) (rest := []) ⟨hx, hb, hml, hown, hts⟩ (c_f_refuse l dC dI ky H.size reader rtape rlength rmostBytes k19 x20 k21 x22 x23 w24 x25 x26 (nI 1) iv_rreader_0 j30 iv_rreader_2 j29) (cwV 1 hts gX0_read_X5_refuse rfl rfl rfl (by decide +kernel) ⟨(Nat.le_of_ble_eq_true rfl), (Nat.le_of_ble_eq_true rfl)⟩) (pre_UV hK hP hD [2] (by decide) rfl (ci := 5) (q0 := 2) rfl rfl) rfl rfl hl.1 rfl (lv_room (Nat.le_of_ble_eq_true rfl)) dX0_read_55 ⟨(Nat.le_of_ble_eq_true rfl), (Nat.le_of_ble_eq_true rfl)⟩) hP hD hS hA [2] [0, 1, 3, 4, 5] rfl rfl (by decide) (by decide) (fun r512 u510 H locs p511 hP hD hS => ?_)
          obtain ⟨rfaultKindG_513, rfaultPlaceG_514⟩ := u510
          try dsimp only at p511
          obtain ⟨p515, p516, p517⟩ := p511
          refine W.widen (k := 0) (n := 0) (Nat.le_of_ble_eq_true rfl) (Nat.le_of_ble_eq_true rfl) ?_
          have hP : va_P (dC, dI) vwCl [(bk, .inr (0, [.ref blines, .int (nI k17), .int blived, .int bwhyWrong, .int bfineLines, .int bdayThen, .int beatenThen])), (blines, .inl (ky 0, 160, .inl f18)), (rtape, .inl (ky 2, 940, .inl rtapeF)), (a, .inr (7, [.int (nI wide), .int (nI high), .int heat, .int cools, .int skinHeat, .int today, .int stirs, .int steps, .int (nI lumps), .int (nI boats), .ref thickness, .ref lumpNames, .ref lumpCells, .ref boatNames, .ref boatCells, .ref loads, .ref spoons, .ref spoonsLeft, .ref depths])), (boatNames, .inl (ky 1, 6, .inr (.inl boatNamesF))), (reader, .inr (5, [.ref rtape, .int (nI rlength), .int (nI rmostBytes), .int (nI k19), .int x20, .int (nI k21), .int x22, .int x23, .long w24, .int rfaultKindG_513, .int rfaultPlaceG_514]))] H := hP
          have hD : va_D A [(bk, .inr (0, [.ref blines, .int (nI k17), .int blived, .int bwhyWrong, .int bfineLines, .int bdayThen, .int beatenThen])), (blines, .inl (ky 0, 160, .inl f18)), (rtape, .inl (ky 2, 940, .inl rtapeF)), (a, .inr (7, [.int (nI wide), .int (nI high), .int heat, .int cools, .int skinHeat, .int today, .int stirs, .int steps, .int (nI lumps), .int (nI boats), .ref thickness, .ref lumpNames, .ref lumpCells, .ref boatNames, .ref boatCells, .ref loads, .ref spoons, .ref spoonsLeft, .ref depths])), (boatNames, .inl (ky 1, 6, .inr (.inl boatNamesF))), (reader, .inr (5, [.ref rtape, .int (nI rlength), .int (nI rmostBytes), .int (nI k19), .int x20, .int (nI k21), .int x22, .int x23, .long w24, .int rfaultKindG_513, .int rfaultPlaceG_514]))] := hD
          subst p515
          rw [hQ]
          have hP9 := hP.sub (ws' := [(bk, .inr (0, [.ref blines, .int (nI k17), .int blived, .int bwhyWrong, .int bfineLines, .int bdayThen, .int beatenThen])), (blines, .inl (ky 0, 160, .inl f18)), (reader, .inr (5, [.ref rtape, .int (nI rlength), .int (nI rmostBytes), .int (nI k19), .int x20, .int (nI k21), .int x22, .int x23, .long w24, .int rfaultKindG_513, .int rfaultPlaceG_514])), (rtape, .inl (ky 2, 940, .inl rtapeF)), (a, .inr (7, [.int (nI wide), .int (nI high), .int heat, .int cools, .int skinHeat, .int today, .int stirs, .int steps, .int (nI lumps), .int (nI boats), .ref thickness, .ref lumpNames, .ref lumpCells, .ref boatNames, .ref boatCells, .ref loads, .ref spoons, .ref spoonsLeft, .ref depths])), (boatNames, .inl (ky 1, 6, .inr (.inl boatNamesF)))]) [0, 1, 5, 2, 3, 4] rfl
          have hD9 := hD.sub (ws' := [(bk, .inr (0, [.ref blines, .int (nI k17), .int blived, .int bwhyWrong, .int bfineLines, .int bdayThen, .int beatenThen])), (blines, .inl (ky 0, 160, .inl f18)), (reader, .inr (5, [.ref rtape, .int (nI rlength), .int (nI rmostBytes), .int (nI k19), .int x20, .int (nI k21), .int x22, .int x23, .long w24, .int rfaultKindG_513, .int rfaultPlaceG_514])), (rtape, .inl (ky 2, 940, .inl rtapeF)), (a, .inr (7, [.int (nI wide), .int (nI high), .int heat, .int cools, .int skinHeat, .int today, .int stirs, .int steps, .int (nI lumps), .int (nI boats), .ref thickness, .ref lumpNames, .ref lumpCells, .ref boatNames, .ref boatCells, .ref loads, .ref spoons, .ref spoonsLeft, .ref depths])), (boatNames, .inl (ky 1, 6, .inr (.inl boatNamesF)))]) [0, 1, 5, 2, 3, 4] (by decide) rfl
          exact W.zret (v := nI 0) hx hb hr (by decide) (fun t9 ht9 hW9 => ⟨⟨nI 0, (k17, f18, k19, x20, k21, x22, x23, w24, rfaultKindG_513, rfaultPlaceG_514), rfl, ⟨(lf_f_bkRead_52 bt rlength rmostBytes rplace rkind rbegin rword rnumber rletters rfaultKind rfaultPlace rtapeF boats boatNamesF gp gnu k17 k19 x20 k21 x22 x23 w24 x25 x26 z16 n32 r37 rfaultKindG_513 rfaultPlaceG_514 iv_rreader_0 iv_rreader_1 iv_rreader_2 iv_rreader_3 hTC iv_a_5 hRT hNL j27 j28 j29 j30 jRT jB jFk jFp hm34 c36 p38 v47 v48 v49 v50 v51 v52 p516 p517), j27, j30, j29⟩, by rw [ht9]; exact hP9, va_K.moved hW9.alike hK, hD9⟩, hS.F ht9⟩) hS.2.2 dX0_read_58
  exact hL31 ((41 - 0) + 1) 0 blinesF rplace rkind rbegin rword rnumber rletters rfaultKind rfaultPlace gp (lf_f_bkRead_53) (lf_f_bkRead_54 bt rlength rmostBytes rplace rkind rbegin rword rnumber rletters rtapeF gp iv_rreader_0 iv_rreader_1 iv_rreader_2 iv_rreader_3 hTC hRT) iv_rreader_3 iv_rreader_1 hRT (lf_f_bkRead_55 bt rlength rmostBytes rplace rkind rbegin rword rnumber rletters rtapeF boats boatNamesF gp gnu iv_rreader_0 iv_rreader_1 iv_rreader_2 iv_rreader_3 hTC iv_a_5 hRT hNL) (lf_f_bkRead_56 adK adV bk blines blineCount blived bwhyWrong bfineLines bdayThen beatenThen blinesF bt reader rtape rlength rmostBytes rplace rkind rbegin rword rnumber rletters rfaultKind rfaultPlace rtapeF a wide high heat cools skinHeat today stirs steps lumps boats thickness lumpNames lumpCells boatNames boatCells loads spoons spoonsLeft depths boatNamesF gp gnu iv_bbk_0 iv_rreader_0 iv_rreader_1 iv_rreader_2 iv_rreader_3 hTC iv_a_0 iv_a_1 iv_a_2 iv_a_3 iv_a_4 iv_a_5 hRT hNL) (lf_f_bkRead_57 adK adV bk blines blineCount blived bwhyWrong bfineLines bdayThen beatenThen blinesF bt reader rtape rlength rmostBytes rplace rkind rbegin rword rnumber rletters rfaultKind rfaultPlace rtapeF a wide high heat cools skinHeat today stirs steps lumps boats thickness lumpNames lumpCells boatNames boatCells loads spoons spoonsLeft depths boatNamesF gp gnu iv_bbk_0 iv_rreader_0 iv_rreader_1 iv_rreader_2 iv_rreader_3 hTC iv_a_0 iv_a_1 iv_a_2 iv_a_3 iv_a_4 iv_a_5 hRT hNL) (Nat.lt_succ_self _) _ _ _ hP hD hS (lv_sub hl [0, 1, 2] rfl)
