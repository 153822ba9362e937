section Ln
variable {B : Nat → Nat} {n m p : Nat} {σ ν : Nat → Nat}
theorem ln0 (h : tW B n m p = 0) : pLine B n m p σ ν = pSize B n m p σ ν := by unfold pLine; rw [if_pos h]
theorem ln1 (h : tW B n m p = 1) : pLine B n m p σ ν = pThick B n m p σ ν := by unfold pLine; rw [if_neg (by omega), if_pos h]
theorem ln2 (h : tW B n m p = 2) : pLine B n m p σ ν = pLump B n m p σ ν := by unfold pLine; rw [if_neg (by omega), if_neg (by omega), if_pos h]
theorem ln3 (h : tW B n m p = 3) : pLine B n m p σ ν = pBoat B n m p σ ν := by unfold pLine; rw [if_neg (by omega), if_neg (by omega), if_neg (by omega), if_pos h]
theorem ln4 (h : tW B n m p = 4) : pLine B n m p σ ν = pSet B n m p σ ν 4 30 := by unfold pLine; rw [if_neg (by omega), if_neg (by omega), if_neg (by omega), if_neg (by omega), if_pos h]
theorem ln5 (h : tW B n m p = 5) : pLine B n m p σ ν = pSet B n m p σ ν 5 5 := by unfold pLine; rw [if_neg (by omega), if_neg (by omega), if_neg (by omega), if_neg (by omega), if_neg (by omega), if_pos h]
theorem ln6 (h : tW B n m p = 6) : pLine B n m p σ ν = pSet B n m p σ ν 6 30 := by unfold pLine; rw [if_neg (by omega), if_neg (by omega), if_neg (by omega), if_neg (by omega), if_neg (by omega), if_neg (by omega), if_pos h]
theorem lnd (h : ∀ k, k < 7 → tW B n m p ≠ k) : pLine B n m p σ ν = .error (1, tF B n m p) := by
  have h0 := h 0 (by decide); have h1 := h 1 (by decide); have h2 := h 2 (by decide); have h3 := h 3 (by decide); have h4 := h 4 (by decide); have h5 := h 5 (by decide); have h6 := h 6 (by decide)
  unfold pLine; rw [if_neg h0, if_neg h1, if_neg h2, if_neg h3, if_neg h4, if_neg h5, if_neg h6]
end Ln
set_option maxRecDepth 20000 in
theorem lf_f_read_1 (bt : Nat → Nat) (rlength : Nat) (rmostBytes : Nat) (rplace : Nat) (rkind : Int32) (rbegin : Nat) (rword : Int32) (rnumber : Int32) (rletters : Int64) (rfaultKind : Int32) (rtapeF : Nat → Int32) (gp : Nat) (k109 : Nat) (x110 : Int32) (k111 : Nat) (x112 : Int32) (k113 : Nat) (x114 : Int32) (x115 : Int32) (w116 : Int64) (x117 : Int32) (f119 : Nat → Int64) (f120 : Nat → Int32) (f121 : Nat → Int64) (f122 : Nat → Int32) (f123 : Nat → Int32) (f124 : Nat → Int32) (k127 : Nat) (k128 : Nat) (x129 : Int32) (x130 : Int32) (x131 : Int32) (k132 : Nat) (k133 : Nat) (f134 : Nat → Int32) (z106 : Nat) (z107 : Nat → Nat) (z108 : Nat → Nat) (n146 : Nat) (iv_rreader_0 : rlength ≤ 940) (iv_rreader_1 : rplace ≤ rlength) (iv_rreader_2 : rmostBytes ≤ 900) (iv_rreader_3 : rbegin ≤ 940) (hTC : TC bt rtapeF) (hRT : RT bt rlength rmostBytes gp rkind rbegin rplace rword rnumber rletters) (hgl : gp ≤ rlength) (j135 : k109 ≤ 900) (j136 : k111 ≤ 940) (j137 : k113 ≤ 940) (j138 : k111 ≤ rlength) (j139 : 2 ≤ k127) (j140 : k127 ≤ 6) (j141 : 2 ≤ k128) (j142 : k128 ≤ 6) (j143 : k132 ≤ 6) (j144 : k133 ≤ 6) (jRT : RT bt rlength rmostBytes z106 x112 k113 k111 x114 x115 w116) (jCS : CS z107 z108 k127 k128 x129 x130 x131 k132 k133 f134 f119 f120 f121 f122 f123 f124) (jSW : SW z107 z108) (jTB : TB x110 z107) (jPL : pLoop bt rlength rmostBytes 1000 gp s0 (fun _ => 0) 0 = pLoop bt rlength rmostBytes (1000 - k109) z106 z107 z108 k109) (j2k : 2 * k109 ≤ z106) (jLe : z106 ≤ rlength) (jFk : x117 = rfaultKind) (hm148 : 900 - k109 < n146 + 1) (c149 : 900 ≤ k109) : k109 < 901 ∧ isO (pLoop bt rlength rmostBytes 1000 gp s0 (fun _ => 0) 0) = true ∧ lrP (pLoop bt rlength rmostBytes 1000 gp s0 (fun _ => 0) 0) = k109 ∧ CS (lrS (pLoop bt rlength rmostBytes 1000 gp s0 (fun _ => 0) 0)) (lrN (pLoop bt rlength rmostBytes 1000 gp s0 (fun _ => 0) 0)) k127 k128 x129 x130 x131 k132 k133 f134 f119 f120 f121 f122 f123 f124 ∧ SW (lrS (pLoop bt rlength rmostBytes 1000 gp s0 (fun _ => 0) 0)) (lrN (pLoop bt rlength rmostBytes 1000 gp s0 (fun _ => 0) 0)) ∧ x117 = rfaultKind := by
  have hk9 : k109 < 900 := by omega
  have hk0 : tK bt rlength rmostBytes z106 = 0 := (RT_k jRT (by decide)).mp (by
    have kk0 := ia_n 0 (by decide)
    have b_rkind := ia_b rkind
    have b_rword := ia_b rword
    have b_rnumber := ia_b rnumber
    have b_rfaultKind := ia_b rfaultKind
    have b_x110 := ia_b x110
    have b_x112 := ia_b x112
    have b_x114 := ia_b x114
    have b_x115 := ia_b x115
    have b_x117 := ia_b x117
    have b_x129 := ia_b x129
    have b_x130 := ia_b x130
    have b_x131 := ia_b x131
    have b_rletters := Int64.toInt_lt rletters
    have b_w116 := Int64.toInt_lt w116
    try simp only [ia_lt, ia_le, ia_eq, ia_m1, ia_0, ia_1, ne_eq, true_and, and_true, false_and, and_false, or_false, false_or, or_true, true_or, not_true_eq_false, not_false_eq_true] at *
    all_goals omega)
  have e9 : 1000 - k109 = (1000 - (k109 + 1)) + 1 := by omega
  have q := pL_end (f := 1000 - (k109 + 1)) (σ := z107) (ν := z108) (k := k109) hk0
  rw [jPL, e9, q]
  exact ⟨by omega, rfl, rfl, jCS, jSW, jFk⟩
set_option maxRecDepth 20000 in
theorem lf_f_read_2 (bt : Nat → Nat) (rlength : Nat) (rmostBytes : Nat) (rplace : Nat) (rkind : Int32) (rbegin : Nat) (rword : Int32) (rnumber : Int32) (rletters : Int64) (rfaultKind : Int32) (rtapeF : Nat → Int32) (gp : Nat) (k109 : Nat) (x110 : Int32) (k111 : Nat) (x112 : Int32) (k113 : Nat) (x114 : Int32) (x115 : Int32) (w116 : Int64) (x117 : Int32) (f119 : Nat → Int64) (f120 : Nat → Int32) (f121 : Nat → Int64) (f122 : Nat → Int32) (f123 : Nat → Int32) (f124 : Nat → Int32) (k127 : Nat) (k128 : Nat) (x129 : Int32) (x130 : Int32) (x131 : Int32) (k132 : Nat) (k133 : Nat) (f134 : Nat → Int32) (z106 : Nat) (z107 : Nat → Nat) (z108 : Nat → Nat) (n146 : Nat) (iv_rreader_0 : rlength ≤ 940) (iv_rreader_1 : rplace ≤ rlength) (iv_rreader_2 : rmostBytes ≤ 900) (iv_rreader_3 : rbegin ≤ 940) (hTC : TC bt rtapeF) (hRT : RT bt rlength rmostBytes gp rkind rbegin rplace rword rnumber rletters) (hgl : gp ≤ rlength) (j135 : k109 ≤ 900) (j136 : k111 ≤ 940) (j137 : k113 ≤ 940) (j138 : k111 ≤ rlength) (j139 : 2 ≤ k127) (j140 : k127 ≤ 6) (j141 : 2 ≤ k128) (j142 : k128 ≤ 6) (j143 : k132 ≤ 6) (j144 : k133 ≤ 6) (jRT : RT bt rlength rmostBytes z106 x112 k113 k111 x114 x115 w116) (jCS : CS z107 z108 k127 k128 x129 x130 x131 k132 k133 f134 f119 f120 f121 f122 f123 f124) (jSW : SW z107 z108) (jTB : TB x110 z107) (jPL : pLoop bt rlength rmostBytes 1000 gp s0 (fun _ => 0) 0 = pLoop bt rlength rmostBytes (1000 - k109) z106 z107 z108 k109) (j2k : 2 * k109 ≤ z106) (jLe : z106 ≤ rlength) (jFk : x117 = rfaultKind) (hm148 : 900 - k109 < n146 + 1) (c149 : k109 < 900) (c150 : x112 = 0) : k109 < 901 ∧ isO (pLoop bt rlength rmostBytes 1000 gp s0 (fun _ => 0) 0) = true ∧ lrP (pLoop bt rlength rmostBytes 1000 gp s0 (fun _ => 0) 0) = k109 ∧ CS (lrS (pLoop bt rlength rmostBytes 1000 gp s0 (fun _ => 0) 0)) (lrN (pLoop bt rlength rmostBytes 1000 gp s0 (fun _ => 0) 0)) k127 k128 x129 x130 x131 k132 k133 f134 f119 f120 f121 f122 f123 f124 ∧ SW (lrS (pLoop bt rlength rmostBytes 1000 gp s0 (fun _ => 0) 0)) (lrN (pLoop bt rlength rmostBytes 1000 gp s0 (fun _ => 0) 0)) ∧ x117 = rfaultKind := by
  have hk9 : k109 < 900 := by omega
  have hk0 : tK bt rlength rmostBytes z106 = 0 := (RT_k jRT (by decide)).mp (by
    have kk0 := ia_n 0 (by decide)
    have b_rkind := ia_b rkind
    have b_rword := ia_b rword
    have b_rnumber := ia_b rnumber
    have b_rfaultKind := ia_b rfaultKind
    have b_x110 := ia_b x110
    have b_x112 := ia_b x112
    have b_x114 := ia_b x114
    have b_x115 := ia_b x115
    have b_x117 := ia_b x117
    have b_x129 := ia_b x129
    have b_x130 := ia_b x130
    have b_x131 := ia_b x131
    have b_rletters := Int64.toInt_lt rletters
    have b_w116 := Int64.toInt_lt w116
    try simp only [ia_lt, ia_le, ia_eq, ia_m1, ia_0, ia_1, ne_eq, true_and, and_true, false_and, and_false, or_false, false_or, or_true, true_or, not_true_eq_false, not_false_eq_true] at *
    all_goals omega)
  have e9 : 1000 - k109 = (1000 - (k109 + 1)) + 1 := by omega
  have q := pL_end (f := 1000 - (k109 + 1)) (σ := z107) (ν := z108) (k := k109) hk0
  rw [jPL, e9, q]
  exact ⟨by omega, rfl, rfl, jCS, jSW, jFk⟩
set_option maxRecDepth 20000 in
theorem lf_f_read_3 (bt : Nat → Nat) (rlength : Nat) (rmostBytes : Nat) (rplace : Nat) (rkind : Int32) (rbegin : Nat) (rword : Int32) (rnumber : Int32) (rletters : Int64) (rtapeF : Nat → Int32) (gp : Nat) (k109 : Nat) (x110 : Int32) (k111 : Nat) (x112 : Int32) (k113 : Nat) (x114 : Int32) (x115 : Int32) (w116 : Int64) (f119 : Nat → Int64) (f120 : Nat → Int32) (f121 : Nat → Int64) (f122 : Nat → Int32) (f123 : Nat → Int32) (f124 : Nat → Int32) (k127 : Nat) (k128 : Nat) (x129 : Int32) (x130 : Int32) (x131 : Int32) (k132 : Nat) (k133 : Nat) (f134 : Nat → Int32) (z106 : Nat) (z107 : Nat → Nat) (z108 : Nat → Nat) (n146 : Nat) (r151 : Int32) (rfaultKindG_165 : Int32) (rfaultPlaceG_166 : Int32) (iv_rreader_0 : rlength ≤ 940) (iv_rreader_1 : rplace ≤ rlength) (iv_rreader_2 : rmostBytes ≤ 900) (iv_rreader_3 : rbegin ≤ 940) (hTC : TC bt rtapeF) (hRT : RT bt rlength rmostBytes gp rkind rbegin rplace rword rnumber rletters) (hgl : gp ≤ rlength) (j135 : k109 ≤ 900) (j136 : k111 ≤ 940) (j137 : k113 ≤ 940) (j138 : k111 ≤ rlength) (j139 : 2 ≤ k127) (j140 : k127 ≤ 6) (j141 : 2 ≤ k128) (j142 : k128 ≤ 6) (j143 : k132 ≤ 6) (j144 : k133 ≤ 6) (jRT : RT bt rlength rmostBytes z106 x112 k113 k111 x114 x115 w116) (jCS : CS z107 z108 k127 k128 x129 x130 x131 k132 k133 f134 f119 f120 f121 f122 f123 f124) (jSW : SW z107 z108) (jTB : TB x110 z107) (jPL : pLoop bt rlength rmostBytes 1000 gp s0 (fun _ => 0) 0 = pLoop bt rlength rmostBytes (1000 - k109) z106 z107 z108 k109) (j2k : 2 * k109 ≤ z106) (jLe : z106 ≤ rlength) (hm148 : 900 - k109 < n146 + 1) (c149 : k109 < 900) (c150 : ¬ x112 = 0) (p152 : r151 = x114) (c154 : r151.toInt < 0 ∨ 6 < r151.toInt) (p168 : rfaultKindG_165 = (nI 1)) (p169 : rfaultPlaceG_166 = nI k113) : isO (pLoop bt rlength rmostBytes 1000 gp s0 (fun _ => 0) 0) = false ∧ rfaultKindG_165 = nI (erA (pLoop bt rlength rmostBytes 1000 gp s0 (fun _ => 0) 0)) ∧ rfaultPlaceG_166 = nI (erB (pLoop bt rlength rmostBytes 1000 gp s0 (fun _ => 0) 0)) := by
  have hk0 : tK bt rlength rmostBytes z106 ≠ 0 := fun h9 => absurd ((RT_k jRT (by decide)).mpr h9) (by
    have kk0 := ia_n 0 (by decide)
    have b_rkind := ia_b rkind
    have b_rword := ia_b rword
    have b_rnumber := ia_b rnumber
    have b_x110 := ia_b x110
    have b_x112 := ia_b x112
    have b_x114 := ia_b x114
    have b_x115 := ia_b x115
    have b_x129 := ia_b x129
    have b_x130 := ia_b x130
    have b_x131 := ia_b x131
    have b_r151 := ia_b r151
    have b_rfaultKindG_165 := ia_b rfaultKindG_165
    have b_rfaultPlaceG_166 := ia_b rfaultPlaceG_166
    have b_rletters := Int64.toInt_lt rletters
    have b_w116 := Int64.toInt_lt w116
    try have k_0 := ia_n 1 (by first | decide | omega)
    try have k_1 := ia_n k113 (by first | decide | omega)
    try have k_2 := ia_n (erA (pLoop bt rlength rmostBytes 1000 gp s0 (fun _ => 0) 0)) (by first | decide | omega)
    try have k_3 := ia_n (erB (pLoop bt rlength rmostBytes 1000 gp s0 (fun _ => 0) 0)) (by first | decide | omega)
    try simp only [ia_lt, ia_le, ia_eq, ia_m1, ia_0, ia_1, ne_eq, true_and, and_true, false_and, and_false, or_false, false_or, or_true, true_or, not_true_eq_false, not_false_eq_true] at *
    all_goals omega)
  have e9 : 1000 - k109 = (1000 - (k109 + 1)) + 1 := by omega
  have hL := lnd (B := bt) (n := rlength) (m := rmostBytes) (p := z106) (σ := z107) (ν := z108) (fun k9 hk9 h9 => by
    have h8 := (RT_w jRT (by omega)).mpr h9
    have h7 := ia_n k9 (by omega)
    have b_rkind := ia_b rkind
    have b_rword := ia_b rword
    have b_rnumber := ia_b rnumber
    have b_x110 := ia_b x110
    have b_x112 := ia_b x112
    have b_x114 := ia_b x114
    have b_x115 := ia_b x115
    have b_x129 := ia_b x129
    have b_x130 := ia_b x130
    have b_x131 := ia_b x131
    have b_r151 := ia_b r151
    have b_rfaultKindG_165 := ia_b rfaultKindG_165
    have b_rfaultPlaceG_166 := ia_b rfaultPlaceG_166
    have b_rletters := Int64.toInt_lt rletters
    have b_w116 := Int64.toInt_lt w116
    try have k_0 := ia_n 1 (by first | decide | omega)
    try have k_1 := ia_n k113 (by first | decide | omega)
    try have k_2 := ia_n (erA (pLoop bt rlength rmostBytes 1000 gp s0 (fun _ => 0) 0)) (by first | decide | omega)
    try have k_3 := ia_n (erB (pLoop bt rlength rmostBytes 1000 gp s0 (fun _ => 0) 0)) (by first | decide | omega)
    try simp only [ia_lt, ia_le, ia_eq, ia_m1, ia_0, ia_1, ne_eq, true_and, and_true, false_and, and_false, or_false, false_or, or_true, true_or, not_true_eq_false, not_false_eq_true] at *
    all_goals omega)
  have q := pL_err (f := 1000 - (k109 + 1)) (k := k109) hk0 (by rw [hL]; rfl)
  rw [hL] at q
  rw [jPL, e9, q]
  exact ⟨rfl, ‹_›, (Eq.trans (by assumption) (congrArg nI jRT.2.1))⟩
set_option maxRecDepth 20000 in
theorem lf_f_read_4 (bt : Nat → Nat) (rlength : Nat) (rmostBytes : Nat) (rplace : Nat) (rkind : Int32) (rbegin : Nat) (rword : Int32) (rnumber : Int32) (rletters : Int64) (rtapeF : Nat → Int32) (gp : Nat) (k109 : Nat) (x110 : Int32) (k111 : Nat) (x112 : Int32) (k113 : Nat) (x114 : Int32) (x115 : Int32) (w116 : Int64) (f119 : Nat → Int64) (f120 : Nat → Int32) (f121 : Nat → Int64) (f122 : Nat → Int32) (f123 : Nat → Int32) (f124 : Nat → Int32) (k127 : Nat) (k128 : Nat) (x129 : Int32) (x130 : Int32) (x131 : Int32) (k132 : Nat) (k133 : Nat) (f134 : Nat → Int32) (z106 : Nat) (z107 : Nat → Nat) (z108 : Nat → Nat) (n146 : Nat) (r151 : Int32) (rplaceG_174 : Nat) (rkindG_175 : Int32) (rbeginG_176 : Nat) (rwordG_177 : Int32) (rnumberG_178 : Int32) (rlettersG_179 : Int64) (wideG_182 : Nat) (highG_183 : Nat) (rplaceG_205 : Nat) (rkindG_206 : Int32) (rbeginG_207 : Nat) (rwordG_208 : Int32) (rnumberG_209 : Int32) (rlettersG_210 : Int64) (y224 : Int32) (iv_rreader_0 : rlength ≤ 940) (iv_rreader_1 : rplace ≤ rlength) (iv_rreader_2 : rmostBytes ≤ 900) (iv_rreader_3 : rbegin ≤ 940) (hTC : TC bt rtapeF) (hRT : RT bt rlength rmostBytes gp rkind rbegin rplace rword rnumber rletters) (hgl : gp ≤ rlength) (j135 : k109 ≤ 900) (j136 : k111 ≤ 940) (j137 : k113 ≤ 940) (j138 : k111 ≤ rlength) (j139 : 2 ≤ k127) (j140 : k127 ≤ 6) (j141 : 2 ≤ k128) (j142 : k128 ≤ 6) (j143 : k132 ≤ 6) (j144 : k133 ≤ 6) (jRT : RT bt rlength rmostBytes z106 x112 k113 k111 x114 x115 w116) (jCS : CS z107 z108 k127 k128 x129 x130 x131 k132 k133 f134 f119 f120 f121 f122 f123 f124) (jSW : SW z107 z108) (jTB : TB x110 z107) (jPL : pLoop bt rlength rmostBytes 1000 gp s0 (fun _ => 0) 0 = pLoop bt rlength rmostBytes (1000 - k109) z106 z107 z108 k109) (j2k : 2 * k109 ≤ z106) (jLe : z106 ≤ rlength) (hm148 : 900 - k109 < n146 + 1) (c149 : k109 < 900) (c150 : ¬ x112 = 0) (p152 : r151 = x114) (c155 : r151 = nI 0) (p185 : rplaceG_174 ≤ rlength) (p186 : rbeginG_176 ≤ 940) (p187 : 2 ≤ wideG_182) (p188 : wideG_182 ≤ 6) (p189 : 2 ≤ highG_183) (p190 : highG_183 ≤ 6) (t191 : isO (pSize bt rlength rmostBytes z106 z107 z108) = true) (t192 : RT bt rlength rmostBytes (lrP (pSize bt rlength rmostBytes z106 z107 z108)) rkindG_175 rbeginG_176 rplaceG_174 rwordG_177 rnumberG_178 rlettersG_179) (t193 : CS (lrS (pSize bt rlength rmostBytes z106 z107 z108)) (lrN (pSize bt rlength rmostBytes z106 z107 z108)) wideG_182 highG_183 x129 x130 x131 k132 k133 f134 f119 f120 f121 f122 f123 f124) (t194 : SW (lrS (pSize bt rlength rmostBytes z106 z107 z108)) (lrN (pSize bt rlength rmostBytes z106 z107 z108))) (t197 : FLG 0 z107 (lrS (pSize bt rlength rmostBytes z106 z107 z108))) (p214 : rplaceG_205 ≤ rlength) (p215 : rbeginG_207 ≤ 940) (t216 : nI (tK bt rlength rmostBytes (lrP (pSize bt rlength rmostBytes z106 z107 z108))) = (nI 59)) (t217 : RT bt rlength rmostBytes (tT bt rlength rmostBytes (lrP (pSize bt rlength rmostBytes z106 z107 z108))) rkindG_206 rbeginG_207 rplaceG_205 rwordG_208 rnumberG_209 rlettersG_210) (e225 : y224 = x110 ||| (nI 1)) : (k109 + 1) ≤ 900 := by
  have b_rkind := ia_b rkind
  have b_rword := ia_b rword
  have b_rnumber := ia_b rnumber
  have b_x110 := ia_b x110
  have b_x112 := ia_b x112
  have b_x114 := ia_b x114
  have b_x115 := ia_b x115
  have b_x129 := ia_b x129
  have b_x130 := ia_b x130
  have b_x131 := ia_b x131
  have b_r151 := ia_b r151
  have b_rkindG_175 := ia_b rkindG_175
  have b_rwordG_177 := ia_b rwordG_177
  have b_rnumberG_178 := ia_b rnumberG_178
  have b_rkindG_206 := ia_b rkindG_206
  have b_rwordG_208 := ia_b rwordG_208
  have b_rnumberG_209 := ia_b rnumberG_209
  have b_y224 := ia_b y224
  have b_rletters := Int64.toInt_lt rletters
  have b_w116 := Int64.toInt_lt w116
  have b_rlettersG_179 := Int64.toInt_lt rlettersG_179
  have b_rlettersG_210 := Int64.toInt_lt rlettersG_210
  try have k_0 := ia_n 0 (by first | decide | omega)
  try have k_1 := ia_n (tK bt rlength rmostBytes (lrP (pSize bt rlength rmostBytes z106 z107 z108))) (by first | decide | omega)
  try have k_2 := ia_n 59 (by first | decide | omega)
  try have k_3 := ia_n 1 (by first | decide | omega)
  try simp only [ia_lt, ia_le, ia_eq, ia_m1, ia_0, ia_1, ne_eq, true_and, and_true, false_and, and_false, or_false, false_or, or_true, true_or, not_true_eq_false, not_false_eq_true] at *
  all_goals omega
set_option maxRecDepth 20000 in
theorem lf_f_read_5 (bt : Nat → Nat) (rlength : Nat) (rmostBytes : Nat) (rplace : Nat) (rkind : Int32) (rbegin : Nat) (rword : Int32) (rnumber : Int32) (rletters : Int64) (rtapeF : Nat → Int32) (gp : Nat) (k109 : Nat) (x110 : Int32) (k111 : Nat) (x112 : Int32) (k113 : Nat) (x114 : Int32) (x115 : Int32) (w116 : Int64) (f119 : Nat → Int64) (f120 : Nat → Int32) (f121 : Nat → Int64) (f122 : Nat → Int32) (f123 : Nat → Int32) (f124 : Nat → Int32) (k127 : Nat) (k128 : Nat) (x129 : Int32) (x130 : Int32) (x131 : Int32) (k132 : Nat) (k133 : Nat) (f134 : Nat → Int32) (z106 : Nat) (z107 : Nat → Nat) (z108 : Nat → Nat) (n146 : Nat) (r151 : Int32) (rplaceG_174 : Nat) (rkindG_175 : Int32) (rbeginG_176 : Nat) (rwordG_177 : Int32) (rnumberG_178 : Int32) (rlettersG_179 : Int64) (wideG_182 : Nat) (highG_183 : Nat) (rplaceG_205 : Nat) (rkindG_206 : Int32) (rbeginG_207 : Nat) (rwordG_208 : Int32) (rnumberG_209 : Int32) (rlettersG_210 : Int64) (y224 : Int32) (iv_rreader_0 : rlength ≤ 940) (iv_rreader_1 : rplace ≤ rlength) (iv_rreader_2 : rmostBytes ≤ 900) (iv_rreader_3 : rbegin ≤ 940) (hTC : TC bt rtapeF) (hRT : RT bt rlength rmostBytes gp rkind rbegin rplace rword rnumber rletters) (hgl : gp ≤ rlength) (j135 : k109 ≤ 900) (j136 : k111 ≤ 940) (j137 : k113 ≤ 940) (j138 : k111 ≤ rlength) (j139 : 2 ≤ k127) (j140 : k127 ≤ 6) (j141 : 2 ≤ k128) (j142 : k128 ≤ 6) (j143 : k132 ≤ 6) (j144 : k133 ≤ 6) (jRT : RT bt rlength rmostBytes z106 x112 k113 k111 x114 x115 w116) (jCS : CS z107 z108 k127 k128 x129 x130 x131 k132 k133 f134 f119 f120 f121 f122 f123 f124) (jSW : SW z107 z108) (jTB : TB x110 z107) (jPL : pLoop bt rlength rmostBytes 1000 gp s0 (fun _ => 0) 0 = pLoop bt rlength rmostBytes (1000 - k109) z106 z107 z108 k109) (j2k : 2 * k109 ≤ z106) (jLe : z106 ≤ rlength) (hm148 : 900 - k109 < n146 + 1) (c149 : k109 < 900) (c150 : ¬ x112 = 0) (p152 : r151 = x114) (c155 : r151 = nI 0) (p185 : rplaceG_174 ≤ rlength) (p186 : rbeginG_176 ≤ 940) (p187 : 2 ≤ wideG_182) (p188 : wideG_182 ≤ 6) (p189 : 2 ≤ highG_183) (p190 : highG_183 ≤ 6) (t191 : isO (pSize bt rlength rmostBytes z106 z107 z108) = true) (t192 : RT bt rlength rmostBytes (lrP (pSize bt rlength rmostBytes z106 z107 z108)) rkindG_175 rbeginG_176 rplaceG_174 rwordG_177 rnumberG_178 rlettersG_179) (t193 : CS (lrS (pSize bt rlength rmostBytes z106 z107 z108)) (lrN (pSize bt rlength rmostBytes z106 z107 z108)) wideG_182 highG_183 x129 x130 x131 k132 k133 f134 f119 f120 f121 f122 f123 f124) (t194 : SW (lrS (pSize bt rlength rmostBytes z106 z107 z108)) (lrN (pSize bt rlength rmostBytes z106 z107 z108))) (t197 : FLG 0 z107 (lrS (pSize bt rlength rmostBytes z106 z107 z108))) (p214 : rplaceG_205 ≤ rlength) (p215 : rbeginG_207 ≤ 940) (t216 : nI (tK bt rlength rmostBytes (lrP (pSize bt rlength rmostBytes z106 z107 z108))) = (nI 59)) (t217 : RT bt rlength rmostBytes (tT bt rlength rmostBytes (lrP (pSize bt rlength rmostBytes z106 z107 z108))) rkindG_206 rbeginG_207 rplaceG_205 rwordG_208 rnumberG_209 rlettersG_210) (e225 : y224 = x110 ||| (nI 1)) : rplaceG_205 ≤ 940 := by
  have b_rkind := ia_b rkind
  have b_rword := ia_b rword
  have b_rnumber := ia_b rnumber
  have b_x110 := ia_b x110
  have b_x112 := ia_b x112
  have b_x114 := ia_b x114
  have b_x115 := ia_b x115
  have b_x129 := ia_b x129
  have b_x130 := ia_b x130
  have b_x131 := ia_b x131
  have b_r151 := ia_b r151
  have b_rkindG_175 := ia_b rkindG_175
  have b_rwordG_177 := ia_b rwordG_177
  have b_rnumberG_178 := ia_b rnumberG_178
  have b_rkindG_206 := ia_b rkindG_206
  have b_rwordG_208 := ia_b rwordG_208
  have b_rnumberG_209 := ia_b rnumberG_209
  have b_y224 := ia_b y224
  have b_rletters := Int64.toInt_lt rletters
  have b_w116 := Int64.toInt_lt w116
  have b_rlettersG_179 := Int64.toInt_lt rlettersG_179
  have b_rlettersG_210 := Int64.toInt_lt rlettersG_210
  try have k_0 := ia_n 0 (by first | decide | omega)
  try have k_1 := ia_n (tK bt rlength rmostBytes (lrP (pSize bt rlength rmostBytes z106 z107 z108))) (by first | decide | omega)
  try have k_2 := ia_n 59 (by first | decide | omega)
  try have k_3 := ia_n 1 (by first | decide | omega)
  try simp only [ia_lt, ia_le, ia_eq, ia_m1, ia_0, ia_1, ne_eq, true_and, and_true, false_and, and_false, or_false, false_or, or_true, true_or, not_true_eq_false, not_false_eq_true] at *
  all_goals omega
set_option maxRecDepth 20000 in
theorem lf_f_read_6 (bt : Nat → Nat) (rlength : Nat) (rmostBytes : Nat) (rplace : Nat) (rkind : Int32) (rbegin : Nat) (rword : Int32) (rnumber : Int32) (rletters : Int64) (rtapeF : Nat → Int32) (gp : Nat) (k109 : Nat) (x110 : Int32) (k111 : Nat) (x112 : Int32) (k113 : Nat) (x114 : Int32) (x115 : Int32) (w116 : Int64) (f119 : Nat → Int64) (f120 : Nat → Int32) (f121 : Nat → Int64) (f122 : Nat → Int32) (f123 : Nat → Int32) (f124 : Nat → Int32) (k127 : Nat) (k128 : Nat) (x129 : Int32) (x130 : Int32) (x131 : Int32) (k132 : Nat) (k133 : Nat) (f134 : Nat → Int32) (z106 : Nat) (z107 : Nat → Nat) (z108 : Nat → Nat) (n146 : Nat) (r151 : Int32) (rplaceG_174 : Nat) (rkindG_175 : Int32) (rbeginG_176 : Nat) (rwordG_177 : Int32) (rnumberG_178 : Int32) (rlettersG_179 : Int64) (wideG_182 : Nat) (highG_183 : Nat) (rplaceG_205 : Nat) (rkindG_206 : Int32) (rbeginG_207 : Nat) (rwordG_208 : Int32) (rnumberG_209 : Int32) (rlettersG_210 : Int64) (y224 : Int32) (iv_rreader_0 : rlength ≤ 940) (iv_rreader_1 : rplace ≤ rlength) (iv_rreader_2 : rmostBytes ≤ 900) (iv_rreader_3 : rbegin ≤ 940) (hTC : TC bt rtapeF) (hRT : RT bt rlength rmostBytes gp rkind rbegin rplace rword rnumber rletters) (hgl : gp ≤ rlength) (j135 : k109 ≤ 900) (j136 : k111 ≤ 940) (j137 : k113 ≤ 940) (j138 : k111 ≤ rlength) (j139 : 2 ≤ k127) (j140 : k127 ≤ 6) (j141 : 2 ≤ k128) (j142 : k128 ≤ 6) (j143 : k132 ≤ 6) (j144 : k133 ≤ 6) (jRT : RT bt rlength rmostBytes z106 x112 k113 k111 x114 x115 w116) (jCS : CS z107 z108 k127 k128 x129 x130 x131 k132 k133 f134 f119 f120 f121 f122 f123 f124) (jSW : SW z107 z108) (jTB : TB x110 z107) (jPL : pLoop bt rlength rmostBytes 1000 gp s0 (fun _ => 0) 0 = pLoop bt rlength rmostBytes (1000 - k109) z106 z107 z108 k109) (j2k : 2 * k109 ≤ z106) (jLe : z106 ≤ rlength) (hm148 : 900 - k109 < n146 + 1) (c149 : k109 < 900) (c150 : ¬ x112 = 0) (p152 : r151 = x114) (c155 : r151 = nI 0) (p185 : rplaceG_174 ≤ rlength) (p186 : rbeginG_176 ≤ 940) (p187 : 2 ≤ wideG_182) (p188 : wideG_182 ≤ 6) (p189 : 2 ≤ highG_183) (p190 : highG_183 ≤ 6) (t191 : isO (pSize bt rlength rmostBytes z106 z107 z108) = true) (t192 : RT bt rlength rmostBytes (lrP (pSize bt rlength rmostBytes z106 z107 z108)) rkindG_175 rbeginG_176 rplaceG_174 rwordG_177 rnumberG_178 rlettersG_179) (t193 : CS (lrS (pSize bt rlength rmostBytes z106 z107 z108)) (lrN (pSize bt rlength rmostBytes z106 z107 z108)) wideG_182 highG_183 x129 x130 x131 k132 k133 f134 f119 f120 f121 f122 f123 f124) (t194 : SW (lrS (pSize bt rlength rmostBytes z106 z107 z108)) (lrN (pSize bt rlength rmostBytes z106 z107 z108))) (t197 : FLG 0 z107 (lrS (pSize bt rlength rmostBytes z106 z107 z108))) (p214 : rplaceG_205 ≤ rlength) (p215 : rbeginG_207 ≤ 940) (t216 : nI (tK bt rlength rmostBytes (lrP (pSize bt rlength rmostBytes z106 z107 z108))) = (nI 59)) (t217 : RT bt rlength rmostBytes (tT bt rlength rmostBytes (lrP (pSize bt rlength rmostBytes z106 z107 z108))) rkindG_206 rbeginG_207 rplaceG_205 rwordG_208 rnumberG_209 rlettersG_210) (e225 : y224 = x110 ||| (nI 1)) : TB y224 (lrS (pSize bt rlength rmostBytes z106 z107 z108)) := by
  have q := ‹FLG 0 _ _›
  have q2 := TB_or jTB jSW (k := 0) (by decide) q.1 q.2
  subst_vars
  exact q2
set_option maxRecDepth 20000 in
theorem lf_f_read_7 (bt : Nat → Nat) (rlength : Nat) (rmostBytes : Nat) (rplace : Nat) (rkind : Int32) (rbegin : Nat) (rword : Int32) (rnumber : Int32) (rletters : Int64) (rtapeF : Nat → Int32) (gp : Nat) (k109 : Nat) (x110 : Int32) (k111 : Nat) (x112 : Int32) (k113 : Nat) (x114 : Int32) (x115 : Int32) (w116 : Int64) (f119 : Nat → Int64) (f120 : Nat → Int32) (f121 : Nat → Int64) (f122 : Nat → Int32) (f123 : Nat → Int32) (f124 : Nat → Int32) (k127 : Nat) (k128 : Nat) (x129 : Int32) (x130 : Int32) (x131 : Int32) (k132 : Nat) (k133 : Nat) (f134 : Nat → Int32) (z106 : Nat) (z107 : Nat → Nat) (z108 : Nat → Nat) (n146 : Nat) (r151 : Int32) (rplaceG_174 : Nat) (rkindG_175 : Int32) (rbeginG_176 : Nat) (rwordG_177 : Int32) (rnumberG_178 : Int32) (rlettersG_179 : Int64) (wideG_182 : Nat) (highG_183 : Nat) (rplaceG_205 : Nat) (rkindG_206 : Int32) (rbeginG_207 : Nat) (rwordG_208 : Int32) (rnumberG_209 : Int32) (rlettersG_210 : Int64) (y224 : Int32) (iv_rreader_0 : rlength ≤ 940) (iv_rreader_1 : rplace ≤ rlength) (iv_rreader_2 : rmostBytes ≤ 900) (iv_rreader_3 : rbegin ≤ 940) (hTC : TC bt rtapeF) (hRT : RT bt rlength rmostBytes gp rkind rbegin rplace rword rnumber rletters) (hgl : gp ≤ rlength) (j135 : k109 ≤ 900) (j136 : k111 ≤ 940) (j137 : k113 ≤ 940) (j138 : k111 ≤ rlength) (j139 : 2 ≤ k127) (j140 : k127 ≤ 6) (j141 : 2 ≤ k128) (j142 : k128 ≤ 6) (j143 : k132 ≤ 6) (j144 : k133 ≤ 6) (jRT : RT bt rlength rmostBytes z106 x112 k113 k111 x114 x115 w116) (jCS : CS z107 z108 k127 k128 x129 x130 x131 k132 k133 f134 f119 f120 f121 f122 f123 f124) (jSW : SW z107 z108) (jTB : TB x110 z107) (jPL : pLoop bt rlength rmostBytes 1000 gp s0 (fun _ => 0) 0 = pLoop bt rlength rmostBytes (1000 - k109) z106 z107 z108 k109) (j2k : 2 * k109 ≤ z106) (jLe : z106 ≤ rlength) (hm148 : 900 - k109 < n146 + 1) (c149 : k109 < 900) (c150 : ¬ x112 = 0) (p152 : r151 = x114) (c155 : r151 = nI 0) (p185 : rplaceG_174 ≤ rlength) (p186 : rbeginG_176 ≤ 940) (p187 : 2 ≤ wideG_182) (p188 : wideG_182 ≤ 6) (p189 : 2 ≤ highG_183) (p190 : highG_183 ≤ 6) (t191 : isO (pSize bt rlength rmostBytes z106 z107 z108) = true) (t192 : RT bt rlength rmostBytes (lrP (pSize bt rlength rmostBytes z106 z107 z108)) rkindG_175 rbeginG_176 rplaceG_174 rwordG_177 rnumberG_178 rlettersG_179) (t193 : CS (lrS (pSize bt rlength rmostBytes z106 z107 z108)) (lrN (pSize bt rlength rmostBytes z106 z107 z108)) wideG_182 highG_183 x129 x130 x131 k132 k133 f134 f119 f120 f121 f122 f123 f124) (t194 : SW (lrS (pSize bt rlength rmostBytes z106 z107 z108)) (lrN (pSize bt rlength rmostBytes z106 z107 z108))) (t197 : FLG 0 z107 (lrS (pSize bt rlength rmostBytes z106 z107 z108))) (p214 : rplaceG_205 ≤ rlength) (p215 : rbeginG_207 ≤ 940) (t216 : nI (tK bt rlength rmostBytes (lrP (pSize bt rlength rmostBytes z106 z107 z108))) = (nI 59)) (t217 : RT bt rlength rmostBytes (tT bt rlength rmostBytes (lrP (pSize bt rlength rmostBytes z106 z107 z108))) rkindG_206 rbeginG_207 rplaceG_205 rwordG_208 rnumberG_209 rlettersG_210) (e225 : y224 = x110 ||| (nI 1)) : pLoop bt rlength rmostBytes 1000 gp s0 (fun _ => 0) 0 = pLoop bt rlength rmostBytes (1000 - (k109 + 1)) (tT bt rlength rmostBytes (lrP (pSize bt rlength rmostBytes z106 z107 z108))) (lrS (pSize bt rlength rmostBytes z106 z107 z108)) (lrN (pSize bt rlength rmostBytes z106 z107 z108)) (k109 + 1) := by
  have hk0 : tK bt rlength rmostBytes z106 ≠ 0 := fun h9 => absurd ((RT_k jRT (by decide)).mpr h9) (by
    have kk0 := ia_n 0 (by decide)
    have b_rkind := ia_b rkind
    have b_rword := ia_b rword
    have b_rnumber := ia_b rnumber
    have b_x110 := ia_b x110
    have b_x112 := ia_b x112
    have b_x114 := ia_b x114
    have b_x115 := ia_b x115
    have b_x129 := ia_b x129
    have b_x130 := ia_b x130
    have b_x131 := ia_b x131
    have b_r151 := ia_b r151
    have b_rkindG_175 := ia_b rkindG_175
    have b_rwordG_177 := ia_b rwordG_177
    have b_rnumberG_178 := ia_b rnumberG_178
    have b_rkindG_206 := ia_b rkindG_206
    have b_rwordG_208 := ia_b rwordG_208
    have b_rnumberG_209 := ia_b rnumberG_209
    have b_y224 := ia_b y224
    have b_rletters := Int64.toInt_lt rletters
    have b_w116 := Int64.toInt_lt w116
    have b_rlettersG_179 := Int64.toInt_lt rlettersG_179
    have b_rlettersG_210 := Int64.toInt_lt rlettersG_210
    try have k_0 := ia_n 0 (by first | decide | omega)
    try have k_1 := ia_n (tK bt rlength rmostBytes (lrP (pSize bt rlength rmostBytes z106 z107 z108))) (by first | decide | omega)
    try have k_2 := ia_n 59 (by first | decide | omega)
    try have k_3 := ia_n 1 (by first | decide | omega)
    try simp only [ia_lt, ia_le, ia_eq, ia_m1, ia_0, ia_1, ne_eq, true_and, and_true, false_and, and_false, or_false, false_or, or_true, true_or, not_true_eq_false, not_false_eq_true] at *
    all_goals omega)
  have hW : tW bt rlength rmostBytes z106 = 0 := (RT_w jRT (by decide)).mp (by
    have kk0 := ia_n 0 (by decide)
    have b_rkind := ia_b rkind
    have b_rword := ia_b rword
    have b_rnumber := ia_b rnumber
    have b_x110 := ia_b x110
    have b_x112 := ia_b x112
    have b_x114 := ia_b x114
    have b_x115 := ia_b x115
    have b_x129 := ia_b x129
    have b_x130 := ia_b x130
    have b_x131 := ia_b x131
    have b_r151 := ia_b r151
    have b_rkindG_175 := ia_b rkindG_175
    have b_rwordG_177 := ia_b rwordG_177
    have b_rnumberG_178 := ia_b rnumberG_178
    have b_rkindG_206 := ia_b rkindG_206
    have b_rwordG_208 := ia_b rwordG_208
    have b_rnumberG_209 := ia_b rnumberG_209
    have b_y224 := ia_b y224
    have b_rletters := Int64.toInt_lt rletters
    have b_w116 := Int64.toInt_lt w116
    have b_rlettersG_179 := Int64.toInt_lt rlettersG_179
    have b_rlettersG_210 := Int64.toInt_lt rlettersG_210
    try have k_0 := ia_n 0 (by first | decide | omega)
    try have k_1 := ia_n (tK bt rlength rmostBytes (lrP (pSize bt rlength rmostBytes z106 z107 z108))) (by first | decide | omega)
    try have k_2 := ia_n 59 (by first | decide | omega)
    try have k_3 := ia_n 1 (by first | decide | omega)
    try simp only [ia_lt, ia_le, ia_eq, ia_m1, ia_0, ia_1, ne_eq, true_and, and_true, false_and, and_false, or_false, false_or, or_true, true_or, not_true_eq_false, not_false_eq_true] at *
    all_goals omega)
  have hL := ln0 (σ := z107) (ν := z108) hW
  have e9 : 1000 - k109 = (1000 - (k109 + 1)) + 1 := by omega
  have h59 : tK bt rlength rmostBytes (lrP (pLine bt rlength rmostBytes z106 z107 z108)) = 59 := by
    rw [hL]
    have h8 := ‹nI (tK bt rlength rmostBytes (lrP _)) = nI 59›
    have h7 := tK_le bt rlength rmostBytes (lrP (pLine bt rlength rmostBytes z106 z107 z108))
    rw [hL] at h7
    rw [ia_eq, ia_n _ (by omega), ia_n _ (by omega)] at h8
    omega
  have q := pL_step (f := 1000 - (k109 + 1)) (k := k109) hk0 (by rw [hL]; assumption) h59
  rw [hL] at q
  rw [jPL, e9]
  exact q
set_option maxRecDepth 20000 in
theorem lf_f_read_8 (bt : Nat → Nat) (rlength : Nat) (rmostBytes : Nat) (rplace : Nat) (rkind : Int32) (rbegin : Nat) (rword : Int32) (rnumber : Int32) (rletters : Int64) (rtapeF : Nat → Int32) (gp : Nat) (k109 : Nat) (x110 : Int32) (k111 : Nat) (x112 : Int32) (k113 : Nat) (x114 : Int32) (x115 : Int32) (w116 : Int64) (f119 : Nat → Int64) (f120 : Nat → Int32) (f121 : Nat → Int64) (f122 : Nat → Int32) (f123 : Nat → Int32) (f124 : Nat → Int32) (k127 : Nat) (k128 : Nat) (x129 : Int32) (x130 : Int32) (x131 : Int32) (k132 : Nat) (k133 : Nat) (f134 : Nat → Int32) (z106 : Nat) (z107 : Nat → Nat) (z108 : Nat → Nat) (n146 : Nat) (r151 : Int32) (rplaceG_174 : Nat) (rkindG_175 : Int32) (rbeginG_176 : Nat) (rwordG_177 : Int32) (rnumberG_178 : Int32) (rlettersG_179 : Int64) (wideG_182 : Nat) (highG_183 : Nat) (rplaceG_205 : Nat) (rkindG_206 : Int32) (rbeginG_207 : Nat) (rwordG_208 : Int32) (rnumberG_209 : Int32) (rlettersG_210 : Int64) (y224 : Int32) (iv_rreader_0 : rlength ≤ 940) (iv_rreader_1 : rplace ≤ rlength) (iv_rreader_2 : rmostBytes ≤ 900) (iv_rreader_3 : rbegin ≤ 940) (hTC : TC bt rtapeF) (hRT : RT bt rlength rmostBytes gp rkind rbegin rplace rword rnumber rletters) (hgl : gp ≤ rlength) (j135 : k109 ≤ 900) (j136 : k111 ≤ 940) (j137 : k113 ≤ 940) (j138 : k111 ≤ rlength) (j139 : 2 ≤ k127) (j140 : k127 ≤ 6) (j141 : 2 ≤ k128) (j142 : k128 ≤ 6) (j143 : k132 ≤ 6) (j144 : k133 ≤ 6) (jRT : RT bt rlength rmostBytes z106 x112 k113 k111 x114 x115 w116) (jCS : CS z107 z108 k127 k128 x129 x130 x131 k132 k133 f134 f119 f120 f121 f122 f123 f124) (jSW : SW z107 z108) (jTB : TB x110 z107) (jPL : pLoop bt rlength rmostBytes 1000 gp s0 (fun _ => 0) 0 = pLoop bt rlength rmostBytes (1000 - k109) z106 z107 z108 k109) (j2k : 2 * k109 ≤ z106) (jLe : z106 ≤ rlength) (hm148 : 900 - k109 < n146 + 1) (c149 : k109 < 900) (c150 : ¬ x112 = 0) (p152 : r151 = x114) (c155 : r151 = nI 0) (p185 : rplaceG_174 ≤ rlength) (p186 : rbeginG_176 ≤ 940) (p187 : 2 ≤ wideG_182) (p188 : wideG_182 ≤ 6) (p189 : 2 ≤ highG_183) (p190 : highG_183 ≤ 6) (t191 : isO (pSize bt rlength rmostBytes z106 z107 z108) = true) (t192 : RT bt rlength rmostBytes (lrP (pSize bt rlength rmostBytes z106 z107 z108)) rkindG_175 rbeginG_176 rplaceG_174 rwordG_177 rnumberG_178 rlettersG_179) (t193 : CS (lrS (pSize bt rlength rmostBytes z106 z107 z108)) (lrN (pSize bt rlength rmostBytes z106 z107 z108)) wideG_182 highG_183 x129 x130 x131 k132 k133 f134 f119 f120 f121 f122 f123 f124) (t194 : SW (lrS (pSize bt rlength rmostBytes z106 z107 z108)) (lrN (pSize bt rlength rmostBytes z106 z107 z108))) (t197 : FLG 0 z107 (lrS (pSize bt rlength rmostBytes z106 z107 z108))) (p214 : rplaceG_205 ≤ rlength) (p215 : rbeginG_207 ≤ 940) (t216 : nI (tK bt rlength rmostBytes (lrP (pSize bt rlength rmostBytes z106 z107 z108))) = (nI 59)) (t217 : RT bt rlength rmostBytes (tT bt rlength rmostBytes (lrP (pSize bt rlength rmostBytes z106 z107 z108))) rkindG_206 rbeginG_207 rplaceG_205 rwordG_208 rnumberG_209 rlettersG_210) (e225 : y224 = x110 ||| (nI 1)) : 2 * (k109 + 1) ≤ (tT bt rlength rmostBytes (lrP (pSize bt rlength rmostBytes z106 z107 z108))) := by
  have hk0 : tK bt rlength rmostBytes z106 ≠ 0 := fun h9 => absurd ((RT_k jRT (by decide)).mpr h9) (by
    have kk0 := ia_n 0 (by decide)
    have b_rkind := ia_b rkind
    have b_rword := ia_b rword
    have b_rnumber := ia_b rnumber
    have b_x110 := ia_b x110
    have b_x112 := ia_b x112
    have b_x114 := ia_b x114
    have b_x115 := ia_b x115
    have b_x129 := ia_b x129
    have b_x130 := ia_b x130
    have b_x131 := ia_b x131
    have b_r151 := ia_b r151
    have b_rkindG_175 := ia_b rkindG_175
    have b_rwordG_177 := ia_b rwordG_177
    have b_rnumberG_178 := ia_b rnumberG_178
    have b_rkindG_206 := ia_b rkindG_206
    have b_rwordG_208 := ia_b rwordG_208
    have b_rnumberG_209 := ia_b rnumberG_209
    have b_y224 := ia_b y224
    have b_rletters := Int64.toInt_lt rletters
    have b_w116 := Int64.toInt_lt w116
    have b_rlettersG_179 := Int64.toInt_lt rlettersG_179
    have b_rlettersG_210 := Int64.toInt_lt rlettersG_210
    try have k_0 := ia_n 0 (by first | decide | omega)
    try have k_1 := ia_n (tK bt rlength rmostBytes (lrP (pSize bt rlength rmostBytes z106 z107 z108))) (by first | decide | omega)
    try have k_2 := ia_n 59 (by first | decide | omega)
    try have k_3 := ia_n 1 (by first | decide | omega)
    try simp only [ia_lt, ia_le, ia_eq, ia_m1, ia_0, ia_1, ne_eq, true_and, and_true, false_and, and_false, or_false, false_or, or_true, true_or, not_true_eq_false, not_false_eq_true] at *
    all_goals omega)
  have hW : tW bt rlength rmostBytes z106 = 0 := (RT_w jRT (by decide)).mp (by
    have kk0 := ia_n 0 (by decide)
    have b_rkind := ia_b rkind
    have b_rword := ia_b rword
    have b_rnumber := ia_b rnumber
    have b_x110 := ia_b x110
    have b_x112 := ia_b x112
    have b_x114 := ia_b x114
    have b_x115 := ia_b x115
    have b_x129 := ia_b x129
    have b_x130 := ia_b x130
    have b_x131 := ia_b x131
    have b_r151 := ia_b r151
    have b_rkindG_175 := ia_b rkindG_175
    have b_rwordG_177 := ia_b rwordG_177
    have b_rnumberG_178 := ia_b rnumberG_178
    have b_rkindG_206 := ia_b rkindG_206
    have b_rwordG_208 := ia_b rwordG_208
    have b_rnumberG_209 := ia_b rnumberG_209
    have b_y224 := ia_b y224
    have b_rletters := Int64.toInt_lt rletters
    have b_w116 := Int64.toInt_lt w116
    have b_rlettersG_179 := Int64.toInt_lt rlettersG_179
    have b_rlettersG_210 := Int64.toInt_lt rlettersG_210
    try have k_0 := ia_n 0 (by first | decide | omega)
    try have k_1 := ia_n (tK bt rlength rmostBytes (lrP (pSize bt rlength rmostBytes z106 z107 z108))) (by first | decide | omega)
    try have k_2 := ia_n 59 (by first | decide | omega)
    try have k_3 := ia_n 1 (by first | decide | omega)
    try simp only [ia_lt, ia_le, ia_eq, ia_m1, ia_0, ia_1, ne_eq, true_and, and_true, false_and, and_false, or_false, false_or, or_true, true_or, not_true_eq_false, not_false_eq_true] at *
    all_goals omega)
  have hL := ln0 (σ := z107) (ν := z108) hW
  have e9 : 1000 - k109 = (1000 - (k109 + 1)) + 1 := by omega
  have h59 : tK bt rlength rmostBytes (lrP (pLine bt rlength rmostBytes z106 z107 z108)) = 59 := by
    rw [hL]
    have h8 := ‹nI (tK bt rlength rmostBytes (lrP _)) = nI 59›
    have h7 := tK_le bt rlength rmostBytes (lrP (pLine bt rlength rmostBytes z106 z107 z108))
    rw [hL] at h7
    rw [ia_eq, ia_n _ (by omega), ia_n _ (by omega)] at h8
    omega
  have q := pLine_pos (B := bt) (m := rmostBytes) (σ := z107) (ν := z108) jLe (by rw [hL]; assumption)
  have q2 := tT_gt (B := bt) (n := rlength) (m := rmostBytes) (p := lrP (pLine bt rlength rmostBytes z106 z107 z108)) (by omega) (by omega)
  have q3 := tT_le (B := bt) rmostBytes q.2
  rw [hL] at q q2 q3
  omega
set_option maxRecDepth 20000 in
theorem lf_f_read_9 (bt : Nat → Nat) (rlength : Nat) (rmostBytes : Nat) (rplace : Nat) (rkind : Int32) (rbegin : Nat) (rword : Int32) (rnumber : Int32) (rletters : Int64) (rtapeF : Nat → Int32) (gp : Nat) (k109 : Nat) (x110 : Int32) (k111 : Nat) (x112 : Int32) (k113 : Nat) (x114 : Int32) (x115 : Int32) (w116 : Int64) (f119 : Nat → Int64) (f120 : Nat → Int32) (f121 : Nat → Int64) (f122 : Nat → Int32) (f123 : Nat → Int32) (f124 : Nat → Int32) (k127 : Nat) (k128 : Nat) (x129 : Int32) (x130 : Int32) (x131 : Int32) (k132 : Nat) (k133 : Nat) (f134 : Nat → Int32) (z106 : Nat) (z107 : Nat → Nat) (z108 : Nat → Nat) (n146 : Nat) (r151 : Int32) (rplaceG_174 : Nat) (rkindG_175 : Int32) (rbeginG_176 : Nat) (rwordG_177 : Int32) (rnumberG_178 : Int32) (rlettersG_179 : Int64) (wideG_182 : Nat) (highG_183 : Nat) (rplaceG_205 : Nat) (rkindG_206 : Int32) (rbeginG_207 : Nat) (rwordG_208 : Int32) (rnumberG_209 : Int32) (rlettersG_210 : Int64) (y224 : Int32) (iv_rreader_0 : rlength ≤ 940) (iv_rreader_1 : rplace ≤ rlength) (iv_rreader_2 : rmostBytes ≤ 900) (iv_rreader_3 : rbegin ≤ 940) (hTC : TC bt rtapeF) (hRT : RT bt rlength rmostBytes gp rkind rbegin rplace rword rnumber rletters) (hgl : gp ≤ rlength) (j135 : k109 ≤ 900) (j136 : k111 ≤ 940) (j137 : k113 ≤ 940) (j138 : k111 ≤ rlength) (j139 : 2 ≤ k127) (j140 : k127 ≤ 6) (j141 : 2 ≤ k128) (j142 : k128 ≤ 6) (j143 : k132 ≤ 6) (j144 : k133 ≤ 6) (jRT : RT bt rlength rmostBytes z106 x112 k113 k111 x114 x115 w116) (jCS : CS z107 z108 k127 k128 x129 x130 x131 k132 k133 f134 f119 f120 f121 f122 f123 f124) (jSW : SW z107 z108) (jTB : TB x110 z107) (jPL : pLoop bt rlength rmostBytes 1000 gp s0 (fun _ => 0) 0 = pLoop bt rlength rmostBytes (1000 - k109) z106 z107 z108 k109) (j2k : 2 * k109 ≤ z106) (jLe : z106 ≤ rlength) (hm148 : 900 - k109 < n146 + 1) (c149 : k109 < 900) (c150 : ¬ x112 = 0) (p152 : r151 = x114) (c155 : r151 = nI 0) (p185 : rplaceG_174 ≤ rlength) (p186 : rbeginG_176 ≤ 940) (p187 : 2 ≤ wideG_182) (p188 : wideG_182 ≤ 6) (p189 : 2 ≤ highG_183) (p190 : highG_183 ≤ 6) (t191 : isO (pSize bt rlength rmostBytes z106 z107 z108) = true) (t192 : RT bt rlength rmostBytes (lrP (pSize bt rlength rmostBytes z106 z107 z108)) rkindG_175 rbeginG_176 rplaceG_174 rwordG_177 rnumberG_178 rlettersG_179) (t193 : CS (lrS (pSize bt rlength rmostBytes z106 z107 z108)) (lrN (pSize bt rlength rmostBytes z106 z107 z108)) wideG_182 highG_183 x129 x130 x131 k132 k133 f134 f119 f120 f121 f122 f123 f124) (t194 : SW (lrS (pSize bt rlength rmostBytes z106 z107 z108)) (lrN (pSize bt rlength rmostBytes z106 z107 z108))) (t197 : FLG 0 z107 (lrS (pSize bt rlength rmostBytes z106 z107 z108))) (p214 : rplaceG_205 ≤ rlength) (p215 : rbeginG_207 ≤ 940) (t216 : nI (tK bt rlength rmostBytes (lrP (pSize bt rlength rmostBytes z106 z107 z108))) = (nI 59)) (t217 : RT bt rlength rmostBytes (tT bt rlength rmostBytes (lrP (pSize bt rlength rmostBytes z106 z107 z108))) rkindG_206 rbeginG_207 rplaceG_205 rwordG_208 rnumberG_209 rlettersG_210) (e225 : y224 = x110 ||| (nI 1)) : (tT bt rlength rmostBytes (lrP (pSize bt rlength rmostBytes z106 z107 z108))) ≤ rlength := by
  have hk0 : tK bt rlength rmostBytes z106 ≠ 0 := fun h9 => absurd ((RT_k jRT (by decide)).mpr h9) (by
    have kk0 := ia_n 0 (by decide)
    have b_rkind := ia_b rkind
    have b_rword := ia_b rword
    have b_rnumber := ia_b rnumber
    have b_x110 := ia_b x110
    have b_x112 := ia_b x112
    have b_x114 := ia_b x114
    have b_x115 := ia_b x115
    have b_x129 := ia_b x129
    have b_x130 := ia_b x130
    have b_x131 := ia_b x131
    have b_r151 := ia_b r151
    have b_rkindG_175 := ia_b rkindG_175
    have b_rwordG_177 := ia_b rwordG_177
    have b_rnumberG_178 := ia_b rnumberG_178
    have b_rkindG_206 := ia_b rkindG_206
    have b_rwordG_208 := ia_b rwordG_208
    have b_rnumberG_209 := ia_b rnumberG_209
    have b_y224 := ia_b y224
    have b_rletters := Int64.toInt_lt rletters
    have b_w116 := Int64.toInt_lt w116
    have b_rlettersG_179 := Int64.toInt_lt rlettersG_179
    have b_rlettersG_210 := Int64.toInt_lt rlettersG_210
    try have k_0 := ia_n 0 (by first | decide | omega)
    try have k_1 := ia_n (tK bt rlength rmostBytes (lrP (pSize bt rlength rmostBytes z106 z107 z108))) (by first | decide | omega)
    try have k_2 := ia_n 59 (by first | decide | omega)
    try have k_3 := ia_n 1 (by first | decide | omega)
    try simp only [ia_lt, ia_le, ia_eq, ia_m1, ia_0, ia_1, ne_eq, true_and, and_true, false_and, and_false, or_false, false_or, or_true, true_or, not_true_eq_false, not_false_eq_true] at *
    all_goals omega)
  have hW : tW bt rlength rmostBytes z106 = 0 := (RT_w jRT (by decide)).mp (by
    have kk0 := ia_n 0 (by decide)
    have b_rkind := ia_b rkind
    have b_rword := ia_b rword
    have b_rnumber := ia_b rnumber
    have b_x110 := ia_b x110
    have b_x112 := ia_b x112
    have b_x114 := ia_b x114
    have b_x115 := ia_b x115
    have b_x129 := ia_b x129
    have b_x130 := ia_b x130
    have b_x131 := ia_b x131
    have b_r151 := ia_b r151
    have b_rkindG_175 := ia_b rkindG_175
    have b_rwordG_177 := ia_b rwordG_177
    have b_rnumberG_178 := ia_b rnumberG_178
    have b_rkindG_206 := ia_b rkindG_206
    have b_rwordG_208 := ia_b rwordG_208
    have b_rnumberG_209 := ia_b rnumberG_209
    have b_y224 := ia_b y224
    have b_rletters := Int64.toInt_lt rletters
    have b_w116 := Int64.toInt_lt w116
    have b_rlettersG_179 := Int64.toInt_lt rlettersG_179
    have b_rlettersG_210 := Int64.toInt_lt rlettersG_210
    try have k_0 := ia_n 0 (by first | decide | omega)
    try have k_1 := ia_n (tK bt rlength rmostBytes (lrP (pSize bt rlength rmostBytes z106 z107 z108))) (by first | decide | omega)
    try have k_2 := ia_n 59 (by first | decide | omega)
    try have k_3 := ia_n 1 (by first | decide | omega)
    try simp only [ia_lt, ia_le, ia_eq, ia_m1, ia_0, ia_1, ne_eq, true_and, and_true, false_and, and_false, or_false, false_or, or_true, true_or, not_true_eq_false, not_false_eq_true] at *
    all_goals omega)
  have hL := ln0 (σ := z107) (ν := z108) hW
  have e9 : 1000 - k109 = (1000 - (k109 + 1)) + 1 := by omega
  have h59 : tK bt rlength rmostBytes (lrP (pLine bt rlength rmostBytes z106 z107 z108)) = 59 := by
    rw [hL]
    have h8 := ‹nI (tK bt rlength rmostBytes (lrP _)) = nI 59›
    have h7 := tK_le bt rlength rmostBytes (lrP (pLine bt rlength rmostBytes z106 z107 z108))
    rw [hL] at h7
    rw [ia_eq, ia_n _ (by omega), ia_n _ (by omega)] at h8
    omega
  have q := pLine_pos (B := bt) (m := rmostBytes) (σ := z107) (ν := z108) jLe (by rw [hL]; assumption)
  have q2 := tT_gt (B := bt) (n := rlength) (m := rmostBytes) (p := lrP (pLine bt rlength rmostBytes z106 z107 z108)) (by omega) (by omega)
  have q3 := tT_le (B := bt) rmostBytes q.2
  rw [hL] at q q2 q3
  omega
set_option maxRecDepth 20000 in
theorem lf_f_read_10 (adK : Nat → Nat) (adV : Nat → Nat) (st : Nat) (qtoldWords : Int32) (bt : Nat → Nat) (reader : Nat) (rtape : Nat) (rlength : Nat) (rmostBytes : Nat) (rplace : Nat) (rkind : Int32) (rbegin : Nat) (rword : Int32) (rnumber : Int32) (rletters : Int64) (rfaultKind : Int32) (rfaultPlace : Int32) (rtapeF : Nat → Int32) (a : Nat) (wide : Nat) (high : Nat) (heat : Int32) (cools : Int32) (skinHeat : Int32) (today : Int32) (stirs : Int32) (steps : Int32) (lumps : Nat) (boats : Nat) (thickness : Nat) (lumpNames : Nat) (lumpCells : Nat) (boatNames : Nat) (boatCells : Nat) (loads : Nat) (spoons : Nat) (spoonsLeft : Nat) (depths : Nat) (thicknessF : Nat → Int32) (lumpNamesF : Nat → Int64) (lumpCellsF : Nat → Int32) (boatNamesF : Nat → Int64) (boatCellsF : Nat → Int32) (loadsF : Nat → Int32) (spoonsF : Nat → Int32) (spoonsLeftF : Nat → Int32) (depthsF : Nat → Int32) (gp : Nat) (wideG_3 : Nat) (highG_4 : Nat) (heatG_5 : Int32) (coolsG_6 : Int32) (skinHeatG_7 : Int32) (todayG_8 : Int32) (stirsG_9 : Int32) (stepsG_10 : Int32) (lumpsG_11 : Nat) (boatsG_12 : Nat) (thicknessG_13 : Nat → Int32) (k109 : Nat) (x110 : Int32) (k111 : Nat) (x112 : Int32) (k113 : Nat) (x114 : Int32) (x115 : Int32) (w116 : Int64) (x117 : Int32) (x118 : Int32) (f119 : Nat → Int64) (f120 : Nat → Int32) (f121 : Nat → Int64) (f122 : Nat → Int32) (f123 : Nat → Int32) (f124 : Nat → Int32) (f125 : Nat → Int32) (f126 : Nat → Int32) (k127 : Nat) (k128 : Nat) (x129 : Int32) (x130 : Int32) (x131 : Int32) (k132 : Nat) (k133 : Nat) (f134 : Nat → Int32) (z106 : Nat) (z107 : Nat → Nat) (z108 : Nat → Nat) (n146 : Nat) (r151 : Int32) (rplaceG_174 : Nat) (rkindG_175 : Int32) (rbeginG_176 : Nat) (rwordG_177 : Int32) (rnumberG_178 : Int32) (rlettersG_179 : Int64) (rfaultKindG_180 : Int32) (rfaultPlaceG_181 : Int32) (wideG_182 : Nat) (highG_183 : Nat) (rplaceG_205 : Nat) (rkindG_206 : Int32) (rbeginG_207 : Nat) (rwordG_208 : Int32) (rnumberG_209 : Int32) (rlettersG_210 : Int64) (rfaultKindG_211 : Int32) (rfaultPlaceG_212 : Int32) (y224 : Int32) (iv_rreader_0 : rlength ≤ 940) (iv_rreader_1 : rplace ≤ rlength) (iv_rreader_2 : rmostBytes ≤ 900) (iv_rreader_3 : rbegin ≤ 940) (hTC : TC bt rtapeF) (iv_a_0 : 2 ≤ wide) (iv_a_1 : wide ≤ 6) (iv_a_2 : 2 ≤ high) (iv_a_3 : high ≤ 6) (iv_a_4 : lumps ≤ 6) (iv_a_5 : boats ≤ 6) (hRT : RT bt rlength rmostBytes gp rkind rbegin rplace rword rnumber rletters) (hgl : gp ≤ rlength) (p14 : 2 ≤ wideG_3) (p15 : wideG_3 ≤ 6) (p16 : 2 ≤ highG_4) (p17 : highG_4 ≤ 6) (p18 : lumpsG_11 ≤ 6) (p19 : boatsG_12 ≤ 6) (p20 : wideG_3 = 4) (p21 : highG_4 = 4) (p22 : heatG_5 = nI 10) (p23 : coolsG_6 = nI 1) (p24 : skinHeatG_7 = nI 3) (p25 : lumpsG_11 = 0) (p26 : boatsG_12 = 0) (p27 : ∀ c, c < 36 → thicknessG_13 c = nI 0) (j135 : k109 ≤ 900) (j136 : k111 ≤ 940) (j137 : k113 ≤ 940) (j138 : k111 ≤ rlength) (j139 : 2 ≤ k127) (j140 : k127 ≤ 6) (j141 : 2 ≤ k128) (j142 : k128 ≤ 6) (j143 : k132 ≤ 6) (j144 : k133 ≤ 6) (jRT : RT bt rlength rmostBytes z106 x112 k113 k111 x114 x115 w116) (jCS : CS z107 z108 k127 k128 x129 x130 x131 k132 k133 f134 f119 f120 f121 f122 f123 f124) (jSW : SW z107 z108) (jTB : TB x110 z107) (jPL : pLoop bt rlength rmostBytes 1000 gp s0 (fun _ => 0) 0 = pLoop bt rlength rmostBytes (1000 - k109) z106 z107 z108 k109) (j2k : 2 * k109 ≤ z106) (jLe : z106 ≤ rlength) (jFk : x117 = rfaultKind) (hm148 : 900 - k109 < n146 + 1) (c149 : k109 < 900) (c150 : ¬ x112 = 0) (p152 : r151 = x114) (c155 : r151 = nI 0) (p185 : rplaceG_174 ≤ rlength) (p186 : rbeginG_176 ≤ 940) (p187 : 2 ≤ wideG_182) (p188 : wideG_182 ≤ 6) (p189 : 2 ≤ highG_183) (p190 : highG_183 ≤ 6) (t191 : isO (pSize bt rlength rmostBytes z106 z107 z108) = true) (t192 : RT bt rlength rmostBytes (lrP (pSize bt rlength rmostBytes z106 z107 z108)) rkindG_175 rbeginG_176 rplaceG_174 rwordG_177 rnumberG_178 rlettersG_179) (t193 : CS (lrS (pSize bt rlength rmostBytes z106 z107 z108)) (lrN (pSize bt rlength rmostBytes z106 z107 z108)) wideG_182 highG_183 x129 x130 x131 k132 k133 f134 f119 f120 f121 f122 f123 f124) (t194 : SW (lrS (pSize bt rlength rmostBytes z106 z107 z108)) (lrN (pSize bt rlength rmostBytes z106 z107 z108))) (t195 : rfaultKindG_180 = x117) (t196 : rfaultPlaceG_181 = x118) (t197 : FLG 0 z107 (lrS (pSize bt rlength rmostBytes z106 z107 z108))) (p214 : rplaceG_205 ≤ rlength) (p215 : rbeginG_207 ≤ 940) (t216 : nI (tK bt rlength rmostBytes (lrP (pSize bt rlength rmostBytes z106 z107 z108))) = (nI 59)) (t217 : RT bt rlength rmostBytes (tT bt rlength rmostBytes (lrP (pSize bt rlength rmostBytes z106 z107 z108))) rkindG_206 rbeginG_207 rplaceG_205 rwordG_208 rnumberG_209 rlettersG_210) (t218 : rfaultKindG_211 = rfaultKindG_180) (t219 : rfaultPlaceG_212 = rfaultPlaceG_181) (e225 : y224 = x110 ||| (nI 1)) : rfaultKindG_211 = rfaultKind := by
  subst_vars
  first
    | rfl
    | assumption
set_option maxRecDepth 20000 in
theorem lf_f_read_11 (bt : Nat → Nat) (rlength : Nat) (rmostBytes : Nat) (rplace : Nat) (rkind : Int32) (rbegin : Nat) (rword : Int32) (rnumber : Int32) (rletters : Int64) (rtapeF : Nat → Int32) (gp : Nat) (k109 : Nat) (x110 : Int32) (k111 : Nat) (x112 : Int32) (k113 : Nat) (x114 : Int32) (x115 : Int32) (w116 : Int64) (f119 : Nat → Int64) (f120 : Nat → Int32) (f121 : Nat → Int64) (f122 : Nat → Int32) (f123 : Nat → Int32) (f124 : Nat → Int32) (k127 : Nat) (k128 : Nat) (x129 : Int32) (x130 : Int32) (x131 : Int32) (k132 : Nat) (k133 : Nat) (f134 : Nat → Int32) (z106 : Nat) (z107 : Nat → Nat) (z108 : Nat → Nat) (n146 : Nat) (r151 : Int32) (rplaceG_174 : Nat) (rkindG_175 : Int32) (rbeginG_176 : Nat) (rwordG_177 : Int32) (rnumberG_178 : Int32) (rlettersG_179 : Int64) (wideG_182 : Nat) (highG_183 : Nat) (rplaceG_205 : Nat) (rkindG_206 : Int32) (rbeginG_207 : Nat) (rwordG_208 : Int32) (rnumberG_209 : Int32) (rlettersG_210 : Int64) (y224 : Int32) (iv_rreader_0 : rlength ≤ 940) (iv_rreader_1 : rplace ≤ rlength) (iv_rreader_2 : rmostBytes ≤ 900) (iv_rreader_3 : rbegin ≤ 940) (hTC : TC bt rtapeF) (hRT : RT bt rlength rmostBytes gp rkind rbegin rplace rword rnumber rletters) (hgl : gp ≤ rlength) (j135 : k109 ≤ 900) (j136 : k111 ≤ 940) (j137 : k113 ≤ 940) (j138 : k111 ≤ rlength) (j139 : 2 ≤ k127) (j140 : k127 ≤ 6) (j141 : 2 ≤ k128) (j142 : k128 ≤ 6) (j143 : k132 ≤ 6) (j144 : k133 ≤ 6) (jRT : RT bt rlength rmostBytes z106 x112 k113 k111 x114 x115 w116) (jCS : CS z107 z108 k127 k128 x129 x130 x131 k132 k133 f134 f119 f120 f121 f122 f123 f124) (jSW : SW z107 z108) (jTB : TB x110 z107) (jPL : pLoop bt rlength rmostBytes 1000 gp s0 (fun _ => 0) 0 = pLoop bt rlength rmostBytes (1000 - k109) z106 z107 z108 k109) (j2k : 2 * k109 ≤ z106) (jLe : z106 ≤ rlength) (hm148 : 900 - k109 < n146 + 1) (c149 : k109 < 900) (c150 : ¬ x112 = 0) (p152 : r151 = x114) (c155 : r151 = nI 0) (p185 : rplaceG_174 ≤ rlength) (p186 : rbeginG_176 ≤ 940) (p187 : 2 ≤ wideG_182) (p188 : wideG_182 ≤ 6) (p189 : 2 ≤ highG_183) (p190 : highG_183 ≤ 6) (t191 : isO (pSize bt rlength rmostBytes z106 z107 z108) = true) (t192 : RT bt rlength rmostBytes (lrP (pSize bt rlength rmostBytes z106 z107 z108)) rkindG_175 rbeginG_176 rplaceG_174 rwordG_177 rnumberG_178 rlettersG_179) (t193 : CS (lrS (pSize bt rlength rmostBytes z106 z107 z108)) (lrN (pSize bt rlength rmostBytes z106 z107 z108)) wideG_182 highG_183 x129 x130 x131 k132 k133 f134 f119 f120 f121 f122 f123 f124) (t194 : SW (lrS (pSize bt rlength rmostBytes z106 z107 z108)) (lrN (pSize bt rlength rmostBytes z106 z107 z108))) (t197 : FLG 0 z107 (lrS (pSize bt rlength rmostBytes z106 z107 z108))) (p214 : rplaceG_205 ≤ rlength) (p215 : rbeginG_207 ≤ 940) (t216 : nI (tK bt rlength rmostBytes (lrP (pSize bt rlength rmostBytes z106 z107 z108))) = (nI 59)) (t217 : RT bt rlength rmostBytes (tT bt rlength rmostBytes (lrP (pSize bt rlength rmostBytes z106 z107 z108))) rkindG_206 rbeginG_207 rplaceG_205 rwordG_208 rnumberG_209 rlettersG_210) (e225 : y224 = x110 ||| (nI 1)) : 900 - (k109 + 1) < n146 := by
  have b_rkind := ia_b rkind
  have b_rword := ia_b rword
  have b_rnumber := ia_b rnumber
  have b_x110 := ia_b x110
  have b_x112 := ia_b x112
  have b_x114 := ia_b x114
  have b_x115 := ia_b x115
  have b_x129 := ia_b x129
  have b_x130 := ia_b x130
  have b_x131 := ia_b x131
  have b_r151 := ia_b r151
  have b_rkindG_175 := ia_b rkindG_175
  have b_rwordG_177 := ia_b rwordG_177
  have b_rnumberG_178 := ia_b rnumberG_178
  have b_rkindG_206 := ia_b rkindG_206
  have b_rwordG_208 := ia_b rwordG_208
  have b_rnumberG_209 := ia_b rnumberG_209
  have b_y224 := ia_b y224
  have b_rletters := Int64.toInt_lt rletters
  have b_w116 := Int64.toInt_lt w116
  have b_rlettersG_179 := Int64.toInt_lt rlettersG_179
  have b_rlettersG_210 := Int64.toInt_lt rlettersG_210
  try have k_0 := ia_n 0 (by first | decide | omega)
  try have k_1 := ia_n (tK bt rlength rmostBytes (lrP (pSize bt rlength rmostBytes z106 z107 z108))) (by first | decide | omega)
  try have k_2 := ia_n 59 (by first | decide | omega)
  try have k_3 := ia_n 1 (by first | decide | omega)
  try simp only [ia_lt, ia_le, ia_eq, ia_m1, ia_0, ia_1, ne_eq, true_and, and_true, false_and, and_false, or_false, false_or, or_true, true_or, not_true_eq_false, not_false_eq_true] at *
  all_goals omega
set_option maxRecDepth 20000 in
theorem lf_f_read_12 (bt : Nat → Nat) (rlength : Nat) (rmostBytes : Nat) (rplace : Nat) (rkind : Int32) (rbegin : Nat) (rword : Int32) (rnumber : Int32) (rletters : Int64) (rtapeF : Nat → Int32) (gp : Nat) (k109 : Nat) (x110 : Int32) (k111 : Nat) (x112 : Int32) (k113 : Nat) (x114 : Int32) (x115 : Int32) (w116 : Int64) (f119 : Nat → Int64) (f120 : Nat → Int32) (f121 : Nat → Int64) (f122 : Nat → Int32) (f123 : Nat → Int32) (f124 : Nat → Int32) (k127 : Nat) (k128 : Nat) (x129 : Int32) (x130 : Int32) (x131 : Int32) (k132 : Nat) (k133 : Nat) (f134 : Nat → Int32) (z106 : Nat) (z107 : Nat → Nat) (z108 : Nat → Nat) (n146 : Nat) (r151 : Int32) (rplaceG_174 : Nat) (rkindG_175 : Int32) (rbeginG_176 : Nat) (rwordG_177 : Int32) (rnumberG_178 : Int32) (rlettersG_179 : Int64) (wideG_182 : Nat) (highG_183 : Nat) (rplaceG_205 : Nat) (rfaultKindG_211 : Int32) (rfaultPlaceG_212 : Int32) (iv_rreader_0 : rlength ≤ 940) (iv_rreader_1 : rplace ≤ rlength) (iv_rreader_2 : rmostBytes ≤ 900) (iv_rreader_3 : rbegin ≤ 940) (hTC : TC bt rtapeF) (hRT : RT bt rlength rmostBytes gp rkind rbegin rplace rword rnumber rletters) (hgl : gp ≤ rlength) (j135 : k109 ≤ 900) (j136 : k111 ≤ 940) (j137 : k113 ≤ 940) (j138 : k111 ≤ rlength) (j139 : 2 ≤ k127) (j140 : k127 ≤ 6) (j141 : 2 ≤ k128) (j142 : k128 ≤ 6) (j143 : k132 ≤ 6) (j144 : k133 ≤ 6) (jRT : RT bt rlength rmostBytes z106 x112 k113 k111 x114 x115 w116) (jCS : CS z107 z108 k127 k128 x129 x130 x131 k132 k133 f134 f119 f120 f121 f122 f123 f124) (jSW : SW z107 z108) (jTB : TB x110 z107) (jPL : pLoop bt rlength rmostBytes 1000 gp s0 (fun _ => 0) 0 = pLoop bt rlength rmostBytes (1000 - k109) z106 z107 z108 k109) (j2k : 2 * k109 ≤ z106) (jLe : z106 ≤ rlength) (hm148 : 900 - k109 < n146 + 1) (c149 : k109 < 900) (c150 : ¬ x112 = 0) (p152 : r151 = x114) (c155 : r151 = nI 0) (p185 : rplaceG_174 ≤ rlength) (p186 : rbeginG_176 ≤ 940) (p187 : 2 ≤ wideG_182) (p188 : wideG_182 ≤ 6) (p189 : 2 ≤ highG_183) (p190 : highG_183 ≤ 6) (t191 : isO (pSize bt rlength rmostBytes z106 z107 z108) = true) (t192 : RT bt rlength rmostBytes (lrP (pSize bt rlength rmostBytes z106 z107 z108)) rkindG_175 rbeginG_176 rplaceG_174 rwordG_177 rnumberG_178 rlettersG_179) (t193 : CS (lrS (pSize bt rlength rmostBytes z106 z107 z108)) (lrN (pSize bt rlength rmostBytes z106 z107 z108)) wideG_182 highG_183 x129 x130 x131 k132 k133 f134 f119 f120 f121 f122 f123 f124) (t194 : SW (lrS (pSize bt rlength rmostBytes z106 z107 z108)) (lrN (pSize bt rlength rmostBytes z106 z107 z108))) (t197 : FLG 0 z107 (lrS (pSize bt rlength rmostBytes z106 z107 z108))) (p214 : rplaceG_205 ≤ rlength) (t220 : ¬ nI (tK bt rlength rmostBytes (lrP (pSize bt rlength rmostBytes z106 z107 z108))) = (nI 59)) (t221 : rfaultKindG_211 = nI 1) (t222 : rfaultPlaceG_212 = nI (tF bt rlength rmostBytes (lrP (pSize bt rlength rmostBytes z106 z107 z108)))) : isO (pLoop bt rlength rmostBytes 1000 gp s0 (fun _ => 0) 0) = false ∧ rfaultKindG_211 = nI (erA (pLoop bt rlength rmostBytes 1000 gp s0 (fun _ => 0) 0)) ∧ rfaultPlaceG_212 = nI (erB (pLoop bt rlength rmostBytes 1000 gp s0 (fun _ => 0) 0)) := by
  have hk0 : tK bt rlength rmostBytes z106 ≠ 0 := fun h9 => absurd ((RT_k jRT (by decide)).mpr h9) (by
    have kk0 := ia_n 0 (by decide)
    have b_rkind := ia_b rkind
    have b_rword := ia_b rword
    have b_rnumber := ia_b rnumber
    have b_x110 := ia_b x110
    have b_x112 := ia_b x112
    have b_x114 := ia_b x114
    have b_x115 := ia_b x115
    have b_x129 := ia_b x129
    have b_x130 := ia_b x130
    have b_x131 := ia_b x131
    have b_r151 := ia_b r151
    have b_rkindG_175 := ia_b rkindG_175
    have b_rwordG_177 := ia_b rwordG_177
    have b_rnumberG_178 := ia_b rnumberG_178
    have b_rfaultKindG_211 := ia_b rfaultKindG_211
    have b_rfaultPlaceG_212 := ia_b rfaultPlaceG_212
    have b_rletters := Int64.toInt_lt rletters
    have b_w116 := Int64.toInt_lt w116
    have b_rlettersG_179 := Int64.toInt_lt rlettersG_179
    try have k_0 := ia_n 0 (by first | decide | omega)
    try have k_1 := ia_n (tK bt rlength rmostBytes (lrP (pSize bt rlength rmostBytes z106 z107 z108))) (by first | decide | omega)
    try have k_2 := ia_n 59 (by first | decide | omega)
    try have k_3 := ia_n 1 (by first | decide | omega)
    try have k_4 := ia_n (tF bt rlength rmostBytes (lrP (pSize bt rlength rmostBytes z106 z107 z108))) (by first | decide | omega)
    try have k_5 := ia_n (erA (pLoop bt rlength rmostBytes 1000 gp s0 (fun _ => 0) 0)) (by first | decide | omega)
    try have k_6 := ia_n (erB (pLoop bt rlength rmostBytes 1000 gp s0 (fun _ => 0) 0)) (by first | decide | omega)
    try simp only [ia_lt, ia_le, ia_eq, ia_m1, ia_0, ia_1, ne_eq, true_and, and_true, false_and, and_false, or_false, false_or, or_true, true_or, not_true_eq_false, not_false_eq_true] at *
    all_goals omega)
  have hW : tW bt rlength rmostBytes z106 = 0 := (RT_w jRT (by decide)).mp (by
    have kk0 := ia_n 0 (by decide)
    have b_rkind := ia_b rkind
    have b_rword := ia_b rword
    have b_rnumber := ia_b rnumber
    have b_x110 := ia_b x110
    have b_x112 := ia_b x112
    have b_x114 := ia_b x114
    have b_x115 := ia_b x115
    have b_x129 := ia_b x129
    have b_x130 := ia_b x130
    have b_x131 := ia_b x131
    have b_r151 := ia_b r151
    have b_rkindG_175 := ia_b rkindG_175
    have b_rwordG_177 := ia_b rwordG_177
    have b_rnumberG_178 := ia_b rnumberG_178
    have b_rfaultKindG_211 := ia_b rfaultKindG_211
    have b_rfaultPlaceG_212 := ia_b rfaultPlaceG_212
    have b_rletters := Int64.toInt_lt rletters
    have b_w116 := Int64.toInt_lt w116
    have b_rlettersG_179 := Int64.toInt_lt rlettersG_179
    try have k_0 := ia_n 0 (by first | decide | omega)
    try have k_1 := ia_n (tK bt rlength rmostBytes (lrP (pSize bt rlength rmostBytes z106 z107 z108))) (by first | decide | omega)
    try have k_2 := ia_n 59 (by first | decide | omega)
    try have k_3 := ia_n 1 (by first | decide | omega)
    try have k_4 := ia_n (tF bt rlength rmostBytes (lrP (pSize bt rlength rmostBytes z106 z107 z108))) (by first | decide | omega)
    try have k_5 := ia_n (erA (pLoop bt rlength rmostBytes 1000 gp s0 (fun _ => 0) 0)) (by first | decide | omega)
    try have k_6 := ia_n (erB (pLoop bt rlength rmostBytes 1000 gp s0 (fun _ => 0) 0)) (by first | decide | omega)
    try simp only [ia_lt, ia_le, ia_eq, ia_m1, ia_0, ia_1, ne_eq, true_and, and_true, false_and, and_false, or_false, false_or, or_true, true_or, not_true_eq_false, not_false_eq_true] at *
    all_goals omega)
  have hL := ln0 (σ := z107) (ν := z108) hW
  have e9 : 1000 - k109 = (1000 - (k109 + 1)) + 1 := by omega
  have h59 : ¬ tK bt rlength rmostBytes (lrP (pLine bt rlength rmostBytes z106 z107 z108)) = 59 := by
    rw [hL]
    have h8 := ‹¬ nI (tK bt rlength rmostBytes (lrP _)) = nI 59›
    have h7 := tK_le bt rlength rmostBytes (lrP (pLine bt rlength rmostBytes z106 z107 z108))
    rw [hL] at h7
    rw [ia_eq, ia_n _ (by omega), ia_n _ (by omega)] at h8
    omega
  have q := pL_sgn (f := 1000 - (k109 + 1)) (k := k109) hk0 (by rw [hL]; assumption) h59
  rw [hL] at q
  rw [jPL, e9, q]
  exact ⟨rfl, ‹_›, ‹_›⟩
set_option maxRecDepth 20000 in
theorem lf_f_read_13 (bt : Nat → Nat) (rlength : Nat) (rmostBytes : Nat) (rplace : Nat) (rkind : Int32) (rbegin : Nat) (rword : Int32) (rnumber : Int32) (rletters : Int64) (rtapeF : Nat → Int32) (gp : Nat) (k109 : Nat) (x110 : Int32) (k111 : Nat) (x112 : Int32) (k113 : Nat) (x114 : Int32) (x115 : Int32) (w116 : Int64) (f119 : Nat → Int64) (f120 : Nat → Int32) (f121 : Nat → Int64) (f122 : Nat → Int32) (f123 : Nat → Int32) (f124 : Nat → Int32) (k127 : Nat) (k128 : Nat) (x129 : Int32) (x130 : Int32) (x131 : Int32) (k132 : Nat) (k133 : Nat) (f134 : Nat → Int32) (z106 : Nat) (z107 : Nat → Nat) (z108 : Nat → Nat) (n146 : Nat) (r151 : Int32) (rplaceG_174 : Nat) (rfaultKindG_180 : Int32) (rfaultPlaceG_181 : Int32) (iv_rreader_0 : rlength ≤ 940) (iv_rreader_1 : rplace ≤ rlength) (iv_rreader_2 : rmostBytes ≤ 900) (iv_rreader_3 : rbegin ≤ 940) (hTC : TC bt rtapeF) (hRT : RT bt rlength rmostBytes gp rkind rbegin rplace rword rnumber rletters) (hgl : gp ≤ rlength) (j135 : k109 ≤ 900) (j136 : k111 ≤ 940) (j137 : k113 ≤ 940) (j138 : k111 ≤ rlength) (j139 : 2 ≤ k127) (j140 : k127 ≤ 6) (j141 : 2 ≤ k128) (j142 : k128 ≤ 6) (j143 : k132 ≤ 6) (j144 : k133 ≤ 6) (jRT : RT bt rlength rmostBytes z106 x112 k113 k111 x114 x115 w116) (jCS : CS z107 z108 k127 k128 x129 x130 x131 k132 k133 f134 f119 f120 f121 f122 f123 f124) (jSW : SW z107 z108) (jTB : TB x110 z107) (jPL : pLoop bt rlength rmostBytes 1000 gp s0 (fun _ => 0) 0 = pLoop bt rlength rmostBytes (1000 - k109) z106 z107 z108 k109) (j2k : 2 * k109 ≤ z106) (jLe : z106 ≤ rlength) (hm148 : 900 - k109 < n146 + 1) (c149 : k109 < 900) (c150 : ¬ x112 = 0) (p152 : r151 = x114) (c155 : r151 = nI 0) (p185 : rplaceG_174 ≤ rlength) (t198 : isO (pSize bt rlength rmostBytes z106 z107 z108) = false) (t199 : rfaultKindG_180 = nI (erA (pSize bt rlength rmostBytes z106 z107 z108))) (t200 : rfaultPlaceG_181 = nI (erB (pSize bt rlength rmostBytes z106 z107 z108))) : isO (pLoop bt rlength rmostBytes 1000 gp s0 (fun _ => 0) 0) = false ∧ rfaultKindG_180 = nI (erA (pLoop bt rlength rmostBytes 1000 gp s0 (fun _ => 0) 0)) ∧ rfaultPlaceG_181 = nI (erB (pLoop bt rlength rmostBytes 1000 gp s0 (fun _ => 0) 0)) := by
  have hk0 : tK bt rlength rmostBytes z106 ≠ 0 := fun h9 => absurd ((RT_k jRT (by decide)).mpr h9) (by
    have kk0 := ia_n 0 (by decide)
    have b_rkind := ia_b rkind
    have b_rword := ia_b rword
    have b_rnumber := ia_b rnumber
    have b_x110 := ia_b x110
    have b_x112 := ia_b x112
    have b_x114 := ia_b x114
    have b_x115 := ia_b x115
    have b_x129 := ia_b x129
    have b_x130 := ia_b x130
    have b_x131 := ia_b x131
    have b_r151 := ia_b r151
    have b_rfaultKindG_180 := ia_b rfaultKindG_180
    have b_rfaultPlaceG_181 := ia_b rfaultPlaceG_181
    have b_rletters := Int64.toInt_lt rletters
    have b_w116 := Int64.toInt_lt w116
    try have k_0 := ia_n 0 (by first | decide | omega)
    try have k_1 := ia_n (erA (pSize bt rlength rmostBytes z106 z107 z108)) (by first | decide | omega)
    try have k_2 := ia_n (erB (pSize bt rlength rmostBytes z106 z107 z108)) (by first | decide | omega)
    try have k_3 := ia_n (erA (pLoop bt rlength rmostBytes 1000 gp s0 (fun _ => 0) 0)) (by first | decide | omega)
    try have k_4 := ia_n (erB (pLoop bt rlength rmostBytes 1000 gp s0 (fun _ => 0) 0)) (by first | decide | omega)
    try simp only [ia_lt, ia_le, ia_eq, ia_m1, ia_0, ia_1, ne_eq, true_and, and_true, false_and, and_false, or_false, false_or, or_true, true_or, not_true_eq_false, not_false_eq_true] at *
    all_goals omega)
  have hW : tW bt rlength rmostBytes z106 = 0 := (RT_w jRT (by decide)).mp (by
    have kk0 := ia_n 0 (by decide)
    have b_rkind := ia_b rkind
    have b_rword := ia_b rword
    have b_rnumber := ia_b rnumber
    have b_x110 := ia_b x110
    have b_x112 := ia_b x112
    have b_x114 := ia_b x114
    have b_x115 := ia_b x115
    have b_x129 := ia_b x129
    have b_x130 := ia_b x130
    have b_x131 := ia_b x131
    have b_r151 := ia_b r151
    have b_rfaultKindG_180 := ia_b rfaultKindG_180
    have b_rfaultPlaceG_181 := ia_b rfaultPlaceG_181
    have b_rletters := Int64.toInt_lt rletters
    have b_w116 := Int64.toInt_lt w116
    try have k_0 := ia_n 0 (by first | decide | omega)
    try have k_1 := ia_n (erA (pSize bt rlength rmostBytes z106 z107 z108)) (by first | decide | omega)
    try have k_2 := ia_n (erB (pSize bt rlength rmostBytes z106 z107 z108)) (by first | decide | omega)
    try have k_3 := ia_n (erA (pLoop bt rlength rmostBytes 1000 gp s0 (fun _ => 0) 0)) (by first | decide | omega)
    try have k_4 := ia_n (erB (pLoop bt rlength rmostBytes 1000 gp s0 (fun _ => 0) 0)) (by first | decide | omega)
    try simp only [ia_lt, ia_le, ia_eq, ia_m1, ia_0, ia_1, ne_eq, true_and, and_true, false_and, and_false, or_false, false_or, or_true, true_or, not_true_eq_false, not_false_eq_true] at *
    all_goals omega)
  have hL := ln0 (σ := z107) (ν := z108) hW
  have e9 : 1000 - k109 = (1000 - (k109 + 1)) + 1 := by omega
  have q := pL_err (f := 1000 - (k109 + 1)) (k := k109) hk0 (by rw [hL]; assumption)
  rw [hL] at q
  rw [jPL, e9, q]
  exact ⟨rfl, ‹_›, ‹_›⟩
set_option maxRecDepth 20000 in
theorem lf_f_read_14 (bt : Nat → Nat) (rlength : Nat) (rmostBytes : Nat) (rplace : Nat) (rkind : Int32) (rbegin : Nat) (rword : Int32) (rnumber : Int32) (rletters : Int64) (rtapeF : Nat → Int32) (gp : Nat) (k109 : Nat) (x110 : Int32) (k111 : Nat) (x112 : Int32) (k113 : Nat) (x114 : Int32) (x115 : Int32) (w116 : Int64) (f119 : Nat → Int64) (f120 : Nat → Int32) (f121 : Nat → Int64) (f122 : Nat → Int32) (f123 : Nat → Int32) (f124 : Nat → Int32) (k127 : Nat) (k128 : Nat) (x129 : Int32) (x130 : Int32) (x131 : Int32) (k132 : Nat) (k133 : Nat) (f134 : Nat → Int32) (z106 : Nat) (z107 : Nat → Nat) (z108 : Nat → Nat) (n146 : Nat) (r151 : Int32) (rplaceG_231 : Nat) (rkindG_232 : Int32) (rbeginG_233 : Nat) (rwordG_234 : Int32) (rnumberG_235 : Int32) (rlettersG_236 : Int64) (thicknessG_239 : Nat → Int32) (rplaceG_257 : Nat) (rkindG_258 : Int32) (rbeginG_259 : Nat) (rwordG_260 : Int32) (rnumberG_261 : Int32) (rlettersG_262 : Int64) (y276 : Int32) (iv_rreader_0 : rlength ≤ 940) (iv_rreader_1 : rplace ≤ rlength) (iv_rreader_2 : rmostBytes ≤ 900) (iv_rreader_3 : rbegin ≤ 940) (hTC : TC bt rtapeF) (hRT : RT bt rlength rmostBytes gp rkind rbegin rplace rword rnumber rletters) (hgl : gp ≤ rlength) (j135 : k109 ≤ 900) (j136 : k111 ≤ 940) (j137 : k113 ≤ 940) (j138 : k111 ≤ rlength) (j139 : 2 ≤ k127) (j140 : k127 ≤ 6) (j141 : 2 ≤ k128) (j142 : k128 ≤ 6) (j143 : k132 ≤ 6) (j144 : k133 ≤ 6) (jRT : RT bt rlength rmostBytes z106 x112 k113 k111 x114 x115 w116) (jCS : CS z107 z108 k127 k128 x129 x130 x131 k132 k133 f134 f119 f120 f121 f122 f123 f124) (jSW : SW z107 z108) (jTB : TB x110 z107) (jPL : pLoop bt rlength rmostBytes 1000 gp s0 (fun _ => 0) 0 = pLoop bt rlength rmostBytes (1000 - k109) z106 z107 z108 k109) (j2k : 2 * k109 ≤ z106) (jLe : z106 ≤ rlength) (hm148 : 900 - k109 < n146 + 1) (c149 : k109 < 900) (c150 : ¬ x112 = 0) (p152 : r151 = x114) (c156 : r151 = nI 1) (p241 : rplaceG_231 ≤ rlength) (p242 : rbeginG_233 ≤ 940) (t243 : isO (pThick bt rlength rmostBytes z106 z107 z108) = true) (t244 : RT bt rlength rmostBytes (lrP (pThick bt rlength rmostBytes z106 z107 z108)) rkindG_232 rbeginG_233 rplaceG_231 rwordG_234 rnumberG_235 rlettersG_236) (t245 : CS (lrS (pThick bt rlength rmostBytes z106 z107 z108)) (lrN (pThick bt rlength rmostBytes z106 z107 z108)) k127 k128 x129 x130 x131 k132 k133 thicknessG_239 f119 f120 f121 f122 f123 f124) (t246 : SW (lrS (pThick bt rlength rmostBytes z106 z107 z108)) (lrN (pThick bt rlength rmostBytes z106 z107 z108))) (t249 : FLG 1 z107 (lrS (pThick bt rlength rmostBytes z106 z107 z108))) (p266 : rplaceG_257 ≤ rlength) (p267 : rbeginG_259 ≤ 940) (t268 : nI (tK bt rlength rmostBytes (lrP (pThick bt rlength rmostBytes z106 z107 z108))) = (nI 59)) (t269 : RT bt rlength rmostBytes (tT bt rlength rmostBytes (lrP (pThick bt rlength rmostBytes z106 z107 z108))) rkindG_258 rbeginG_259 rplaceG_257 rwordG_260 rnumberG_261 rlettersG_262) (e277 : y276 = x110 ||| (nI 2)) : (k109 + 1) ≤ 900 := by
  have b_rkind := ia_b rkind
  have b_rword := ia_b rword
  have b_rnumber := ia_b rnumber
  have b_x110 := ia_b x110
  have b_x112 := ia_b x112
  have b_x114 := ia_b x114
  have b_x115 := ia_b x115
  have b_x129 := ia_b x129
  have b_x130 := ia_b x130
  have b_x131 := ia_b x131
  have b_r151 := ia_b r151
  have b_rkindG_232 := ia_b rkindG_232
  have b_rwordG_234 := ia_b rwordG_234
  have b_rnumberG_235 := ia_b rnumberG_235
  have b_rkindG_258 := ia_b rkindG_258
  have b_rwordG_260 := ia_b rwordG_260
  have b_rnumberG_261 := ia_b rnumberG_261
  have b_y276 := ia_b y276
  have b_rletters := Int64.toInt_lt rletters
  have b_w116 := Int64.toInt_lt w116
  have b_rlettersG_236 := Int64.toInt_lt rlettersG_236
  have b_rlettersG_262 := Int64.toInt_lt rlettersG_262
  try have k_0 := ia_n 1 (by first | decide | omega)
  try have k_1 := ia_n (tK bt rlength rmostBytes (lrP (pThick bt rlength rmostBytes z106 z107 z108))) (by first | decide | omega)
  try have k_2 := ia_n 59 (by first | decide | omega)
  try have k_3 := ia_n 2 (by first | decide | omega)
  try simp only [ia_lt, ia_le, ia_eq, ia_m1, ia_0, ia_1, ne_eq, true_and, and_true, false_and, and_false, or_false, false_or, or_true, true_or, not_true_eq_false, not_false_eq_true] at *
  all_goals omega
set_option maxRecDepth 20000 in
theorem lf_f_read_15 (bt : Nat → Nat) (rlength : Nat) (rmostBytes : Nat) (rplace : Nat) (rkind : Int32) (rbegin : Nat) (rword : Int32) (rnumber : Int32) (rletters : Int64) (rtapeF : Nat → Int32) (gp : Nat) (k109 : Nat) (x110 : Int32) (k111 : Nat) (x112 : Int32) (k113 : Nat) (x114 : Int32) (x115 : Int32) (w116 : Int64) (f119 : Nat → Int64) (f120 : Nat → Int32) (f121 : Nat → Int64) (f122 : Nat → Int32) (f123 : Nat → Int32) (f124 : Nat → Int32) (k127 : Nat) (k128 : Nat) (x129 : Int32) (x130 : Int32) (x131 : Int32) (k132 : Nat) (k133 : Nat) (f134 : Nat → Int32) (z106 : Nat) (z107 : Nat → Nat) (z108 : Nat → Nat) (n146 : Nat) (r151 : Int32) (rplaceG_231 : Nat) (rkindG_232 : Int32) (rbeginG_233 : Nat) (rwordG_234 : Int32) (rnumberG_235 : Int32) (rlettersG_236 : Int64) (thicknessG_239 : Nat → Int32) (rplaceG_257 : Nat) (rkindG_258 : Int32) (rbeginG_259 : Nat) (rwordG_260 : Int32) (rnumberG_261 : Int32) (rlettersG_262 : Int64) (y276 : Int32) (iv_rreader_0 : rlength ≤ 940) (iv_rreader_1 : rplace ≤ rlength) (iv_rreader_2 : rmostBytes ≤ 900) (iv_rreader_3 : rbegin ≤ 940) (hTC : TC bt rtapeF) (hRT : RT bt rlength rmostBytes gp rkind rbegin rplace rword rnumber rletters) (hgl : gp ≤ rlength) (j135 : k109 ≤ 900) (j136 : k111 ≤ 940) (j137 : k113 ≤ 940) (j138 : k111 ≤ rlength) (j139 : 2 ≤ k127) (j140 : k127 ≤ 6) (j141 : 2 ≤ k128) (j142 : k128 ≤ 6) (j143 : k132 ≤ 6) (j144 : k133 ≤ 6) (jRT : RT bt rlength rmostBytes z106 x112 k113 k111 x114 x115 w116) (jCS : CS z107 z108 k127 k128 x129 x130 x131 k132 k133 f134 f119 f120 f121 f122 f123 f124) (jSW : SW z107 z108) (jTB : TB x110 z107) (jPL : pLoop bt rlength rmostBytes 1000 gp s0 (fun _ => 0) 0 = pLoop bt rlength rmostBytes (1000 - k109) z106 z107 z108 k109) (j2k : 2 * k109 ≤ z106) (jLe : z106 ≤ rlength) (hm148 : 900 - k109 < n146 + 1) (c149 : k109 < 900) (c150 : ¬ x112 = 0) (p152 : r151 = x114) (c156 : r151 = nI 1) (p241 : rplaceG_231 ≤ rlength) (p242 : rbeginG_233 ≤ 940) (t243 : isO (pThick bt rlength rmostBytes z106 z107 z108) = true) (t244 : RT bt rlength rmostBytes (lrP (pThick bt rlength rmostBytes z106 z107 z108)) rkindG_232 rbeginG_233 rplaceG_231 rwordG_234 rnumberG_235 rlettersG_236) (t245 : CS (lrS (pThick bt rlength rmostBytes z106 z107 z108)) (lrN (pThick bt rlength rmostBytes z106 z107 z108)) k127 k128 x129 x130 x131 k132 k133 thicknessG_239 f119 f120 f121 f122 f123 f124) (t246 : SW (lrS (pThick bt rlength rmostBytes z106 z107 z108)) (lrN (pThick bt rlength rmostBytes z106 z107 z108))) (t249 : FLG 1 z107 (lrS (pThick bt rlength rmostBytes z106 z107 z108))) (p266 : rplaceG_257 ≤ rlength) (p267 : rbeginG_259 ≤ 940) (t268 : nI (tK bt rlength rmostBytes (lrP (pThick bt rlength rmostBytes z106 z107 z108))) = (nI 59)) (t269 : RT bt rlength rmostBytes (tT bt rlength rmostBytes (lrP (pThick bt rlength rmostBytes z106 z107 z108))) rkindG_258 rbeginG_259 rplaceG_257 rwordG_260 rnumberG_261 rlettersG_262) (e277 : y276 = x110 ||| (nI 2)) : rplaceG_257 ≤ 940 := by
  have b_rkind := ia_b rkind
  have b_rword := ia_b rword
  have b_rnumber := ia_b rnumber
  have b_x110 := ia_b x110
  have b_x112 := ia_b x112
  have b_x114 := ia_b x114
  have b_x115 := ia_b x115
  have b_x129 := ia_b x129
  have b_x130 := ia_b x130
  have b_x131 := ia_b x131
  have b_r151 := ia_b r151
  have b_rkindG_232 := ia_b rkindG_232
  have b_rwordG_234 := ia_b rwordG_234
  have b_rnumberG_235 := ia_b rnumberG_235
  have b_rkindG_258 := ia_b rkindG_258
  have b_rwordG_260 := ia_b rwordG_260
  have b_rnumberG_261 := ia_b rnumberG_261
  have b_y276 := ia_b y276
  have b_rletters := Int64.toInt_lt rletters
  have b_w116 := Int64.toInt_lt w116
  have b_rlettersG_236 := Int64.toInt_lt rlettersG_236
  have b_rlettersG_262 := Int64.toInt_lt rlettersG_262
  try have k_0 := ia_n 1 (by first | decide | omega)
  try have k_1 := ia_n (tK bt rlength rmostBytes (lrP (pThick bt rlength rmostBytes z106 z107 z108))) (by first | decide | omega)
  try have k_2 := ia_n 59 (by first | decide | omega)
  try have k_3 := ia_n 2 (by first | decide | omega)
  try simp only [ia_lt, ia_le, ia_eq, ia_m1, ia_0, ia_1, ne_eq, true_and, and_true, false_and, and_false, or_false, false_or, or_true, true_or, not_true_eq_false, not_false_eq_true] at *
  all_goals omega
set_option maxRecDepth 20000 in
theorem lf_f_read_16 (bt : Nat → Nat) (rlength : Nat) (rmostBytes : Nat) (rplace : Nat) (rkind : Int32) (rbegin : Nat) (rword : Int32) (rnumber : Int32) (rletters : Int64) (rtapeF : Nat → Int32) (gp : Nat) (k109 : Nat) (x110 : Int32) (k111 : Nat) (x112 : Int32) (k113 : Nat) (x114 : Int32) (x115 : Int32) (w116 : Int64) (f119 : Nat → Int64) (f120 : Nat → Int32) (f121 : Nat → Int64) (f122 : Nat → Int32) (f123 : Nat → Int32) (f124 : Nat → Int32) (k127 : Nat) (k128 : Nat) (x129 : Int32) (x130 : Int32) (x131 : Int32) (k132 : Nat) (k133 : Nat) (f134 : Nat → Int32) (z106 : Nat) (z107 : Nat → Nat) (z108 : Nat → Nat) (n146 : Nat) (r151 : Int32) (rplaceG_231 : Nat) (rkindG_232 : Int32) (rbeginG_233 : Nat) (rwordG_234 : Int32) (rnumberG_235 : Int32) (rlettersG_236 : Int64) (thicknessG_239 : Nat → Int32) (rplaceG_257 : Nat) (rkindG_258 : Int32) (rbeginG_259 : Nat) (rwordG_260 : Int32) (rnumberG_261 : Int32) (rlettersG_262 : Int64) (y276 : Int32) (iv_rreader_0 : rlength ≤ 940) (iv_rreader_1 : rplace ≤ rlength) (iv_rreader_2 : rmostBytes ≤ 900) (iv_rreader_3 : rbegin ≤ 940) (hTC : TC bt rtapeF) (hRT : RT bt rlength rmostBytes gp rkind rbegin rplace rword rnumber rletters) (hgl : gp ≤ rlength) (j135 : k109 ≤ 900) (j136 : k111 ≤ 940) (j137 : k113 ≤ 940) (j138 : k111 ≤ rlength) (j139 : 2 ≤ k127) (j140 : k127 ≤ 6) (j141 : 2 ≤ k128) (j142 : k128 ≤ 6) (j143 : k132 ≤ 6) (j144 : k133 ≤ 6) (jRT : RT bt rlength rmostBytes z106 x112 k113 k111 x114 x115 w116) (jCS : CS z107 z108 k127 k128 x129 x130 x131 k132 k133 f134 f119 f120 f121 f122 f123 f124) (jSW : SW z107 z108) (jTB : TB x110 z107) (jPL : pLoop bt rlength rmostBytes 1000 gp s0 (fun _ => 0) 0 = pLoop bt rlength rmostBytes (1000 - k109) z106 z107 z108 k109) (j2k : 2 * k109 ≤ z106) (jLe : z106 ≤ rlength) (hm148 : 900 - k109 < n146 + 1) (c149 : k109 < 900) (c150 : ¬ x112 = 0) (p152 : r151 = x114) (c156 : r151 = nI 1) (p241 : rplaceG_231 ≤ rlength) (p242 : rbeginG_233 ≤ 940) (t243 : isO (pThick bt rlength rmostBytes z106 z107 z108) = true) (t244 : RT bt rlength rmostBytes (lrP (pThick bt rlength rmostBytes z106 z107 z108)) rkindG_232 rbeginG_233 rplaceG_231 rwordG_234 rnumberG_235 rlettersG_236) (t245 : CS (lrS (pThick bt rlength rmostBytes z106 z107 z108)) (lrN (pThick bt rlength rmostBytes z106 z107 z108)) k127 k128 x129 x130 x131 k132 k133 thicknessG_239 f119 f120 f121 f122 f123 f124) (t246 : SW (lrS (pThick bt rlength rmostBytes z106 z107 z108)) (lrN (pThick bt rlength rmostBytes z106 z107 z108))) (t249 : FLG 1 z107 (lrS (pThick bt rlength rmostBytes z106 z107 z108))) (p266 : rplaceG_257 ≤ rlength) (p267 : rbeginG_259 ≤ 940) (t268 : nI (tK bt rlength rmostBytes (lrP (pThick bt rlength rmostBytes z106 z107 z108))) = (nI 59)) (t269 : RT bt rlength rmostBytes (tT bt rlength rmostBytes (lrP (pThick bt rlength rmostBytes z106 z107 z108))) rkindG_258 rbeginG_259 rplaceG_257 rwordG_260 rnumberG_261 rlettersG_262) (e277 : y276 = x110 ||| (nI 2)) : TB y276 (lrS (pThick bt rlength rmostBytes z106 z107 z108)) := by
  have q := ‹FLG 1 _ _›
  have q2 := TB_or jTB jSW (k := 1) (by decide) q.1 q.2
  subst_vars
  exact q2
set_option maxRecDepth 20000 in
theorem lf_f_read_17 (bt : Nat → Nat) (rlength : Nat) (rmostBytes : Nat) (rplace : Nat) (rkind : Int32) (rbegin : Nat) (rword : Int32) (rnumber : Int32) (rletters : Int64) (rtapeF : Nat → Int32) (gp : Nat) (k109 : Nat) (x110 : Int32) (k111 : Nat) (x112 : Int32) (k113 : Nat) (x114 : Int32) (x115 : Int32) (w116 : Int64) (f119 : Nat → Int64) (f120 : Nat → Int32) (f121 : Nat → Int64) (f122 : Nat → Int32) (f123 : Nat → Int32) (f124 : Nat → Int32) (k127 : Nat) (k128 : Nat) (x129 : Int32) (x130 : Int32) (x131 : Int32) (k132 : Nat) (k133 : Nat) (f134 : Nat → Int32) (z106 : Nat) (z107 : Nat → Nat) (z108 : Nat → Nat) (n146 : Nat) (r151 : Int32) (rplaceG_231 : Nat) (rkindG_232 : Int32) (rbeginG_233 : Nat) (rwordG_234 : Int32) (rnumberG_235 : Int32) (rlettersG_236 : Int64) (thicknessG_239 : Nat → Int32) (rplaceG_257 : Nat) (rkindG_258 : Int32) (rbeginG_259 : Nat) (rwordG_260 : Int32) (rnumberG_261 : Int32) (rlettersG_262 : Int64) (y276 : Int32) (iv_rreader_0 : rlength ≤ 940) (iv_rreader_1 : rplace ≤ rlength) (iv_rreader_2 : rmostBytes ≤ 900) (iv_rreader_3 : rbegin ≤ 940) (hTC : TC bt rtapeF) (hRT : RT bt rlength rmostBytes gp rkind rbegin rplace rword rnumber rletters) (hgl : gp ≤ rlength) (j135 : k109 ≤ 900) (j136 : k111 ≤ 940) (j137 : k113 ≤ 940) (j138 : k111 ≤ rlength) (j139 : 2 ≤ k127) (j140 : k127 ≤ 6) (j141 : 2 ≤ k128) (j142 : k128 ≤ 6) (j143 : k132 ≤ 6) (j144 : k133 ≤ 6) (jRT : RT bt rlength rmostBytes z106 x112 k113 k111 x114 x115 w116) (jCS : CS z107 z108 k127 k128 x129 x130 x131 k132 k133 f134 f119 f120 f121 f122 f123 f124) (jSW : SW z107 z108) (jTB : TB x110 z107) (jPL : pLoop bt rlength rmostBytes 1000 gp s0 (fun _ => 0) 0 = pLoop bt rlength rmostBytes (1000 - k109) z106 z107 z108 k109) (j2k : 2 * k109 ≤ z106) (jLe : z106 ≤ rlength) (hm148 : 900 - k109 < n146 + 1) (c149 : k109 < 900) (c150 : ¬ x112 = 0) (p152 : r151 = x114) (c156 : r151 = nI 1) (p241 : rplaceG_231 ≤ rlength) (p242 : rbeginG_233 ≤ 940) (t243 : isO (pThick bt rlength rmostBytes z106 z107 z108) = true) (t244 : RT bt rlength rmostBytes (lrP (pThick bt rlength rmostBytes z106 z107 z108)) rkindG_232 rbeginG_233 rplaceG_231 rwordG_234 rnumberG_235 rlettersG_236) (t245 : CS (lrS (pThick bt rlength rmostBytes z106 z107 z108)) (lrN (pThick bt rlength rmostBytes z106 z107 z108)) k127 k128 x129 x130 x131 k132 k133 thicknessG_239 f119 f120 f121 f122 f123 f124) (t246 : SW (lrS (pThick bt rlength rmostBytes z106 z107 z108)) (lrN (pThick bt rlength rmostBytes z106 z107 z108))) (t249 : FLG 1 z107 (lrS (pThick bt rlength rmostBytes z106 z107 z108))) (p266 : rplaceG_257 ≤ rlength) (p267 : rbeginG_259 ≤ 940) (t268 : nI (tK bt rlength rmostBytes (lrP (pThick bt rlength rmostBytes z106 z107 z108))) = (nI 59)) (t269 : RT bt rlength rmostBytes (tT bt rlength rmostBytes (lrP (pThick bt rlength rmostBytes z106 z107 z108))) rkindG_258 rbeginG_259 rplaceG_257 rwordG_260 rnumberG_261 rlettersG_262) (e277 : y276 = x110 ||| (nI 2)) : pLoop bt rlength rmostBytes 1000 gp s0 (fun _ => 0) 0 = pLoop bt rlength rmostBytes (1000 - (k109 + 1)) (tT bt rlength rmostBytes (lrP (pThick bt rlength rmostBytes z106 z107 z108))) (lrS (pThick bt rlength rmostBytes z106 z107 z108)) (lrN (pThick bt rlength rmostBytes z106 z107 z108)) (k109 + 1) := by
  have hk0 : tK bt rlength rmostBytes z106 ≠ 0 := fun h9 => absurd ((RT_k jRT (by decide)).mpr h9) (by
    have kk0 := ia_n 0 (by decide)
    have b_rkind := ia_b rkind
    have b_rword := ia_b rword
    have b_rnumber := ia_b rnumber
    have b_x110 := ia_b x110
    have b_x112 := ia_b x112
    have b_x114 := ia_b x114
    have b_x115 := ia_b x115
    have b_x129 := ia_b x129
    have b_x130 := ia_b x130
    have b_x131 := ia_b x131
    have b_r151 := ia_b r151
    have b_rkindG_232 := ia_b rkindG_232
    have b_rwordG_234 := ia_b rwordG_234
    have b_rnumberG_235 := ia_b rnumberG_235
    have b_rkindG_258 := ia_b rkindG_258
    have b_rwordG_260 := ia_b rwordG_260
    have b_rnumberG_261 := ia_b rnumberG_261
    have b_y276 := ia_b y276
    have b_rletters := Int64.toInt_lt rletters
    have b_w116 := Int64.toInt_lt w116
    have b_rlettersG_236 := Int64.toInt_lt rlettersG_236
    have b_rlettersG_262 := Int64.toInt_lt rlettersG_262
    try have k_0 := ia_n 1 (by first | decide | omega)
    try have k_1 := ia_n (tK bt rlength rmostBytes (lrP (pThick bt rlength rmostBytes z106 z107 z108))) (by first | decide | omega)
    try have k_2 := ia_n 59 (by first | decide | omega)
    try have k_3 := ia_n 2 (by first | decide | omega)
    try simp only [ia_lt, ia_le, ia_eq, ia_m1, ia_0, ia_1, ne_eq, true_and, and_true, false_and, and_false, or_false, false_or, or_true, true_or, not_true_eq_false, not_false_eq_true] at *
    all_goals omega)
  have hW : tW bt rlength rmostBytes z106 = 1 := (RT_w jRT (by decide)).mp (by
    have kk1 := ia_n 1 (by decide)
    have b_rkind := ia_b rkind
    have b_rword := ia_b rword
    have b_rnumber := ia_b rnumber
    have b_x110 := ia_b x110
    have b_x112 := ia_b x112
    have b_x114 := ia_b x114
    have b_x115 := ia_b x115
    have b_x129 := ia_b x129
    have b_x130 := ia_b x130
    have b_x131 := ia_b x131
    have b_r151 := ia_b r151
    have b_rkindG_232 := ia_b rkindG_232
    have b_rwordG_234 := ia_b rwordG_234
    have b_rnumberG_235 := ia_b rnumberG_235
    have b_rkindG_258 := ia_b rkindG_258
    have b_rwordG_260 := ia_b rwordG_260
    have b_rnumberG_261 := ia_b rnumberG_261
    have b_y276 := ia_b y276
    have b_rletters := Int64.toInt_lt rletters
    have b_w116 := Int64.toInt_lt w116
    have b_rlettersG_236 := Int64.toInt_lt rlettersG_236
    have b_rlettersG_262 := Int64.toInt_lt rlettersG_262
    try have k_0 := ia_n 1 (by first | decide | omega)
    try have k_1 := ia_n (tK bt rlength rmostBytes (lrP (pThick bt rlength rmostBytes z106 z107 z108))) (by first | decide | omega)
    try have k_2 := ia_n 59 (by first | decide | omega)
    try have k_3 := ia_n 2 (by first | decide | omega)
    try simp only [ia_lt, ia_le, ia_eq, ia_m1, ia_0, ia_1, ne_eq, true_and, and_true, false_and, and_false, or_false, false_or, or_true, true_or, not_true_eq_false, not_false_eq_true] at *
    all_goals omega)
  have hL := ln1 (σ := z107) (ν := z108) hW
  have e9 : 1000 - k109 = (1000 - (k109 + 1)) + 1 := by omega
  have h59 : tK bt rlength rmostBytes (lrP (pLine bt rlength rmostBytes z106 z107 z108)) = 59 := by
    rw [hL]
    have h8 := ‹nI (tK bt rlength rmostBytes (lrP _)) = nI 59›
    have h7 := tK_le bt rlength rmostBytes (lrP (pLine bt rlength rmostBytes z106 z107 z108))
    rw [hL] at h7
    rw [ia_eq, ia_n _ (by omega), ia_n _ (by omega)] at h8
    omega
  have q := pL_step (f := 1000 - (k109 + 1)) (k := k109) hk0 (by rw [hL]; assumption) h59
  rw [hL] at q
  rw [jPL, e9]
  exact q
set_option maxRecDepth 20000 in
theorem lf_f_read_18 (bt : Nat → Nat) (rlength : Nat) (rmostBytes : Nat) (rplace : Nat) (rkind : Int32) (rbegin : Nat) (rword : Int32) (rnumber : Int32) (rletters : Int64) (rtapeF : Nat → Int32) (gp : Nat) (k109 : Nat) (x110 : Int32) (k111 : Nat) (x112 : Int32) (k113 : Nat) (x114 : Int32) (x115 : Int32) (w116 : Int64) (f119 : Nat → Int64) (f120 : Nat → Int32) (f121 : Nat → Int64) (f122 : Nat → Int32) (f123 : Nat → Int32) (f124 : Nat → Int32) (k127 : Nat) (k128 : Nat) (x129 : Int32) (x130 : Int32) (x131 : Int32) (k132 : Nat) (k133 : Nat) (f134 : Nat → Int32) (z106 : Nat) (z107 : Nat → Nat) (z108 : Nat → Nat) (n146 : Nat) (r151 : Int32) (rplaceG_231 : Nat) (rkindG_232 : Int32) (rbeginG_233 : Nat) (rwordG_234 : Int32) (rnumberG_235 : Int32) (rlettersG_236 : Int64) (thicknessG_239 : Nat → Int32) (rplaceG_257 : Nat) (rkindG_258 : Int32) (rbeginG_259 : Nat) (rwordG_260 : Int32) (rnumberG_261 : Int32) (rlettersG_262 : Int64) (y276 : Int32) (iv_rreader_0 : rlength ≤ 940) (iv_rreader_1 : rplace ≤ rlength) (iv_rreader_2 : rmostBytes ≤ 900) (iv_rreader_3 : rbegin ≤ 940) (hTC : TC bt rtapeF) (hRT : RT bt rlength rmostBytes gp rkind rbegin rplace rword rnumber rletters) (hgl : gp ≤ rlength) (j135 : k109 ≤ 900) (j136 : k111 ≤ 940) (j137 : k113 ≤ 940) (j138 : k111 ≤ rlength) (j139 : 2 ≤ k127) (j140 : k127 ≤ 6) (j141 : 2 ≤ k128) (j142 : k128 ≤ 6) (j143 : k132 ≤ 6) (j144 : k133 ≤ 6) (jRT : RT bt rlength rmostBytes z106 x112 k113 k111 x114 x115 w116) (jCS : CS z107 z108 k127 k128 x129 x130 x131 k132 k133 f134 f119 f120 f121 f122 f123 f124) (jSW : SW z107 z108) (jTB : TB x110 z107) (jPL : pLoop bt rlength rmostBytes 1000 gp s0 (fun _ => 0) 0 = pLoop bt rlength rmostBytes (1000 - k109) z106 z107 z108 k109) (j2k : 2 * k109 ≤ z106) (jLe : z106 ≤ rlength) (hm148 : 900 - k109 < n146 + 1) (c149 : k109 < 900) (c150 : ¬ x112 = 0) (p152 : r151 = x114) (c156 : r151 = nI 1) (p241 : rplaceG_231 ≤ rlength) (p242 : rbeginG_233 ≤ 940) (t243 : isO (pThick bt rlength rmostBytes z106 z107 z108) = true) (t244 : RT bt rlength rmostBytes (lrP (pThick bt rlength rmostBytes z106 z107 z108)) rkindG_232 rbeginG_233 rplaceG_231 rwordG_234 rnumberG_235 rlettersG_236) (t245 : CS (lrS (pThick bt rlength rmostBytes z106 z107 z108)) (lrN (pThick bt rlength rmostBytes z106 z107 z108)) k127 k128 x129 x130 x131 k132 k133 thicknessG_239 f119 f120 f121 f122 f123 f124) (t246 : SW (lrS (pThick bt rlength rmostBytes z106 z107 z108)) (lrN (pThick bt rlength rmostBytes z106 z107 z108))) (t249 : FLG 1 z107 (lrS (pThick bt rlength rmostBytes z106 z107 z108))) (p266 : rplaceG_257 ≤ rlength) (p267 : rbeginG_259 ≤ 940) (t268 : nI (tK bt rlength rmostBytes (lrP (pThick bt rlength rmostBytes z106 z107 z108))) = (nI 59)) (t269 : RT bt rlength rmostBytes (tT bt rlength rmostBytes (lrP (pThick bt rlength rmostBytes z106 z107 z108))) rkindG_258 rbeginG_259 rplaceG_257 rwordG_260 rnumberG_261 rlettersG_262) (e277 : y276 = x110 ||| (nI 2)) : 2 * (k109 + 1) ≤ (tT bt rlength rmostBytes (lrP (pThick bt rlength rmostBytes z106 z107 z108))) := by
  have hk0 : tK bt rlength rmostBytes z106 ≠ 0 := fun h9 => absurd ((RT_k jRT (by decide)).mpr h9) (by
    have kk0 := ia_n 0 (by decide)
    have b_rkind := ia_b rkind
    have b_rword := ia_b rword
    have b_rnumber := ia_b rnumber
    have b_x110 := ia_b x110
    have b_x112 := ia_b x112
    have b_x114 := ia_b x114
    have b_x115 := ia_b x115
    have b_x129 := ia_b x129
    have b_x130 := ia_b x130
    have b_x131 := ia_b x131
    have b_r151 := ia_b r151
    have b_rkindG_232 := ia_b rkindG_232
    have b_rwordG_234 := ia_b rwordG_234
    have b_rnumberG_235 := ia_b rnumberG_235
    have b_rkindG_258 := ia_b rkindG_258
    have b_rwordG_260 := ia_b rwordG_260
    have b_rnumberG_261 := ia_b rnumberG_261
    have b_y276 := ia_b y276
    have b_rletters := Int64.toInt_lt rletters
    have b_w116 := Int64.toInt_lt w116
    have b_rlettersG_236 := Int64.toInt_lt rlettersG_236
    have b_rlettersG_262 := Int64.toInt_lt rlettersG_262
    try have k_0 := ia_n 1 (by first | decide | omega)
    try have k_1 := ia_n (tK bt rlength rmostBytes (lrP (pThick bt rlength rmostBytes z106 z107 z108))) (by first | decide | omega)
    try have k_2 := ia_n 59 (by first | decide | omega)
    try have k_3 := ia_n 2 (by first | decide | omega)
    try simp only [ia_lt, ia_le, ia_eq, ia_m1, ia_0, ia_1, ne_eq, true_and, and_true, false_and, and_false, or_false, false_or, or_true, true_or, not_true_eq_false, not_false_eq_true] at *
    all_goals omega)
  have hW : tW bt rlength rmostBytes z106 = 1 := (RT_w jRT (by decide)).mp (by
    have kk1 := ia_n 1 (by decide)
    have b_rkind := ia_b rkind
    have b_rword := ia_b rword
    have b_rnumber := ia_b rnumber
    have b_x110 := ia_b x110
    have b_x112 := ia_b x112
    have b_x114 := ia_b x114
    have b_x115 := ia_b x115
    have b_x129 := ia_b x129
    have b_x130 := ia_b x130
    have b_x131 := ia_b x131
    have b_r151 := ia_b r151
    have b_rkindG_232 := ia_b rkindG_232
    have b_rwordG_234 := ia_b rwordG_234
    have b_rnumberG_235 := ia_b rnumberG_235
    have b_rkindG_258 := ia_b rkindG_258
    have b_rwordG_260 := ia_b rwordG_260
    have b_rnumberG_261 := ia_b rnumberG_261
    have b_y276 := ia_b y276
    have b_rletters := Int64.toInt_lt rletters
    have b_w116 := Int64.toInt_lt w116
    have b_rlettersG_236 := Int64.toInt_lt rlettersG_236
    have b_rlettersG_262 := Int64.toInt_lt rlettersG_262
    try have k_0 := ia_n 1 (by first | decide | omega)
    try have k_1 := ia_n (tK bt rlength rmostBytes (lrP (pThick bt rlength rmostBytes z106 z107 z108))) (by first | decide | omega)
    try have k_2 := ia_n 59 (by first | decide | omega)
    try have k_3 := ia_n 2 (by first | decide | omega)
    try simp only [ia_lt, ia_le, ia_eq, ia_m1, ia_0, ia_1, ne_eq, true_and, and_true, false_and, and_false, or_false, false_or, or_true, true_or, not_true_eq_false, not_false_eq_true] at *
    all_goals omega)
  have hL := ln1 (σ := z107) (ν := z108) hW
  have e9 : 1000 - k109 = (1000 - (k109 + 1)) + 1 := by omega
  have h59 : tK bt rlength rmostBytes (lrP (pLine bt rlength rmostBytes z106 z107 z108)) = 59 := by
    rw [hL]
    have h8 := ‹nI (tK bt rlength rmostBytes (lrP _)) = nI 59›
    have h7 := tK_le bt rlength rmostBytes (lrP (pLine bt rlength rmostBytes z106 z107 z108))
    rw [hL] at h7
    rw [ia_eq, ia_n _ (by omega), ia_n _ (by omega)] at h8
    omega
  have q := pLine_pos (B := bt) (m := rmostBytes) (σ := z107) (ν := z108) jLe (by rw [hL]; assumption)
  have q2 := tT_gt (B := bt) (n := rlength) (m := rmostBytes) (p := lrP (pLine bt rlength rmostBytes z106 z107 z108)) (by omega) (by omega)
  have q3 := tT_le (B := bt) rmostBytes q.2
  rw [hL] at q q2 q3
  omega
set_option maxRecDepth 20000 in
theorem lf_f_read_19 (bt : Nat → Nat) (rlength : Nat) (rmostBytes : Nat) (rplace : Nat) (rkind : Int32) (rbegin : Nat) (rword : Int32) (rnumber : Int32) (rletters : Int64) (rtapeF : Nat → Int32) (gp : Nat) (k109 : Nat) (x110 : Int32) (k111 : Nat) (x112 : Int32) (k113 : Nat) (x114 : Int32) (x115 : Int32) (w116 : Int64) (f119 : Nat → Int64) (f120 : Nat → Int32) (f121 : Nat → Int64) (f122 : Nat → Int32) (f123 : Nat → Int32) (f124 : Nat → Int32) (k127 : Nat) (k128 : Nat) (x129 : Int32) (x130 : Int32) (x131 : Int32) (k132 : Nat) (k133 : Nat) (f134 : Nat → Int32) (z106 : Nat) (z107 : Nat → Nat) (z108 : Nat → Nat) (n146 : Nat) (r151 : Int32) (rplaceG_231 : Nat) (rkindG_232 : Int32) (rbeginG_233 : Nat) (rwordG_234 : Int32) (rnumberG_235 : Int32) (rlettersG_236 : Int64) (thicknessG_239 : Nat → Int32) (rplaceG_257 : Nat) (rkindG_258 : Int32) (rbeginG_259 : Nat) (rwordG_260 : Int32) (rnumberG_261 : Int32) (rlettersG_262 : Int64) (y276 : Int32) (iv_rreader_0 : rlength ≤ 940) (iv_rreader_1 : rplace ≤ rlength) (iv_rreader_2 : rmostBytes ≤ 900) (iv_rreader_3 : rbegin ≤ 940) (hTC : TC bt rtapeF) (hRT : RT bt rlength rmostBytes gp rkind rbegin rplace rword rnumber rletters) (hgl : gp ≤ rlength) (j135 : k109 ≤ 900) (j136 : k111 ≤ 940) (j137 : k113 ≤ 940) (j138 : k111 ≤ rlength) (j139 : 2 ≤ k127) (j140 : k127 ≤ 6) (j141 : 2 ≤ k128) (j142 : k128 ≤ 6) (j143 : k132 ≤ 6) (j144 : k133 ≤ 6) (jRT : RT bt rlength rmostBytes z106 x112 k113 k111 x114 x115 w116) (jCS : CS z107 z108 k127 k128 x129 x130 x131 k132 k133 f134 f119 f120 f121 f122 f123 f124) (jSW : SW z107 z108) (jTB : TB x110 z107) (jPL : pLoop bt rlength rmostBytes 1000 gp s0 (fun _ => 0) 0 = pLoop bt rlength rmostBytes (1000 - k109) z106 z107 z108 k109) (j2k : 2 * k109 ≤ z106) (jLe : z106 ≤ rlength) (hm148 : 900 - k109 < n146 + 1) (c149 : k109 < 900) (c150 : ¬ x112 = 0) (p152 : r151 = x114) (c156 : r151 = nI 1) (p241 : rplaceG_231 ≤ rlength) (p242 : rbeginG_233 ≤ 940) (t243 : isO (pThick bt rlength rmostBytes z106 z107 z108) = true) (t244 : RT bt rlength rmostBytes (lrP (pThick bt rlength rmostBytes z106 z107 z108)) rkindG_232 rbeginG_233 rplaceG_231 rwordG_234 rnumberG_235 rlettersG_236) (t245 : CS (lrS (pThick bt rlength rmostBytes z106 z107 z108)) (lrN (pThick bt rlength rmostBytes z106 z107 z108)) k127 k128 x129 x130 x131 k132 k133 thicknessG_239 f119 f120 f121 f122 f123 f124) (t246 : SW (lrS (pThick bt rlength rmostBytes z106 z107 z108)) (lrN (pThick bt rlength rmostBytes z106 z107 z108))) (t249 : FLG 1 z107 (lrS (pThick bt rlength rmostBytes z106 z107 z108))) (p266 : rplaceG_257 ≤ rlength) (p267 : rbeginG_259 ≤ 940) (t268 : nI (tK bt rlength rmostBytes (lrP (pThick bt rlength rmostBytes z106 z107 z108))) = (nI 59)) (t269 : RT bt rlength rmostBytes (tT bt rlength rmostBytes (lrP (pThick bt rlength rmostBytes z106 z107 z108))) rkindG_258 rbeginG_259 rplaceG_257 rwordG_260 rnumberG_261 rlettersG_262) (e277 : y276 = x110 ||| (nI 2)) : (tT bt rlength rmostBytes (lrP (pThick bt rlength rmostBytes z106 z107 z108))) ≤ rlength := by
  have hk0 : tK bt rlength rmostBytes z106 ≠ 0 := fun h9 => absurd ((RT_k jRT (by decide)).mpr h9) (by
    have kk0 := ia_n 0 (by decide)
    have b_rkind := ia_b rkind
    have b_rword := ia_b rword
    have b_rnumber := ia_b rnumber
    have b_x110 := ia_b x110
    have b_x112 := ia_b x112
    have b_x114 := ia_b x114
    have b_x115 := ia_b x115
    have b_x129 := ia_b x129
    have b_x130 := ia_b x130
    have b_x131 := ia_b x131
    have b_r151 := ia_b r151
    have b_rkindG_232 := ia_b rkindG_232
    have b_rwordG_234 := ia_b rwordG_234
    have b_rnumberG_235 := ia_b rnumberG_235
    have b_rkindG_258 := ia_b rkindG_258
    have b_rwordG_260 := ia_b rwordG_260
    have b_rnumberG_261 := ia_b rnumberG_261
    have b_y276 := ia_b y276
    have b_rletters := Int64.toInt_lt rletters
    have b_w116 := Int64.toInt_lt w116
    have b_rlettersG_236 := Int64.toInt_lt rlettersG_236
    have b_rlettersG_262 := Int64.toInt_lt rlettersG_262
    try have k_0 := ia_n 1 (by first | decide | omega)
    try have k_1 := ia_n (tK bt rlength rmostBytes (lrP (pThick bt rlength rmostBytes z106 z107 z108))) (by first | decide | omega)
    try have k_2 := ia_n 59 (by first | decide | omega)
    try have k_3 := ia_n 2 (by first | decide | omega)
    try simp only [ia_lt, ia_le, ia_eq, ia_m1, ia_0, ia_1, ne_eq, true_and, and_true, false_and, and_false, or_false, false_or, or_true, true_or, not_true_eq_false, not_false_eq_true] at *
    all_goals omega)
  have hW : tW bt rlength rmostBytes z106 = 1 := (RT_w jRT (by decide)).mp (by
    have kk1 := ia_n 1 (by decide)
    have b_rkind := ia_b rkind
    have b_rword := ia_b rword
    have b_rnumber := ia_b rnumber
    have b_x110 := ia_b x110
    have b_x112 := ia_b x112
    have b_x114 := ia_b x114
    have b_x115 := ia_b x115
    have b_x129 := ia_b x129
    have b_x130 := ia_b x130
    have b_x131 := ia_b x131
    have b_r151 := ia_b r151
    have b_rkindG_232 := ia_b rkindG_232
    have b_rwordG_234 := ia_b rwordG_234
    have b_rnumberG_235 := ia_b rnumberG_235
    have b_rkindG_258 := ia_b rkindG_258
    have b_rwordG_260 := ia_b rwordG_260
    have b_rnumberG_261 := ia_b rnumberG_261
    have b_y276 := ia_b y276
    have b_rletters := Int64.toInt_lt rletters
    have b_w116 := Int64.toInt_lt w116
    have b_rlettersG_236 := Int64.toInt_lt rlettersG_236
    have b_rlettersG_262 := Int64.toInt_lt rlettersG_262
    try have k_0 := ia_n 1 (by first | decide | omega)
    try have k_1 := ia_n (tK bt rlength rmostBytes (lrP (pThick bt rlength rmostBytes z106 z107 z108))) (by first | decide | omega)
    try have k_2 := ia_n 59 (by first | decide | omega)
    try have k_3 := ia_n 2 (by first | decide | omega)
    try simp only [ia_lt, ia_le, ia_eq, ia_m1, ia_0, ia_1, ne_eq, true_and, and_true, false_and, and_false, or_false, false_or, or_true, true_or, not_true_eq_false, not_false_eq_true] at *
    all_goals omega)
  have hL := ln1 (σ := z107) (ν := z108) hW
  have e9 : 1000 - k109 = (1000 - (k109 + 1)) + 1 := by omega
  have h59 : tK bt rlength rmostBytes (lrP (pLine bt rlength rmostBytes z106 z107 z108)) = 59 := by
    rw [hL]
    have h8 := ‹nI (tK bt rlength rmostBytes (lrP _)) = nI 59›
    have h7 := tK_le bt rlength rmostBytes (lrP (pLine bt rlength rmostBytes z106 z107 z108))
    rw [hL] at h7
    rw [ia_eq, ia_n _ (by omega), ia_n _ (by omega)] at h8
    omega
  have q := pLine_pos (B := bt) (m := rmostBytes) (σ := z107) (ν := z108) jLe (by rw [hL]; assumption)
  have q2 := tT_gt (B := bt) (n := rlength) (m := rmostBytes) (p := lrP (pLine bt rlength rmostBytes z106 z107 z108)) (by omega) (by omega)
  have q3 := tT_le (B := bt) rmostBytes q.2
  rw [hL] at q q2 q3
  omega
set_option maxRecDepth 20000 in
theorem lf_f_read_20 (adK : Nat → Nat) (adV : Nat → Nat) (st : Nat) (qtoldWords : Int32) (bt : Nat → Nat) (reader : Nat) (rtape : Nat) (rlength : Nat) (rmostBytes : Nat) (rplace : Nat) (rkind : Int32) (rbegin : Nat) (rword : Int32) (rnumber : Int32) (rletters : Int64) (rfaultKind : Int32) (rfaultPlace : Int32) (rtapeF : Nat → Int32) (a : Nat) (wide : Nat) (high : Nat) (heat : Int32) (cools : Int32) (skinHeat : Int32) (today : Int32) (stirs : Int32) (steps : Int32) (lumps : Nat) (boats : Nat) (thickness : Nat) (lumpNames : Nat) (lumpCells : Nat) (boatNames : Nat) (boatCells : Nat) (loads : Nat) (spoons : Nat) (spoonsLeft : Nat) (depths : Nat) (thicknessF : Nat → Int32) (lumpNamesF : Nat → Int64) (lumpCellsF : Nat → Int32) (boatNamesF : Nat → Int64) (boatCellsF : Nat → Int32) (loadsF : Nat → Int32) (spoonsF : Nat → Int32) (spoonsLeftF : Nat → Int32) (depthsF : Nat → Int32) (gp : Nat) (wideG_3 : Nat) (highG_4 : Nat) (heatG_5 : Int32) (coolsG_6 : Int32) (skinHeatG_7 : Int32) (todayG_8 : Int32) (stirsG_9 : Int32) (stepsG_10 : Int32) (lumpsG_11 : Nat) (boatsG_12 : Nat) (thicknessG_13 : Nat → Int32) (k109 : Nat) (x110 : Int32) (k111 : Nat) (x112 : Int32) (k113 : Nat) (x114 : Int32) (x115 : Int32) (w116 : Int64) (x117 : Int32) (x118 : Int32) (f119 : Nat → Int64) (f120 : Nat → Int32) (f121 : Nat → Int64) (f122 : Nat → Int32) (f123 : Nat → Int32) (f124 : Nat → Int32) (f125 : Nat → Int32) (f126 : Nat → Int32) (k127 : Nat) (k128 : Nat) (x129 : Int32) (x130 : Int32) (x131 : Int32) (k132 : Nat) (k133 : Nat) (f134 : Nat → Int32) (z106 : Nat) (z107 : Nat → Nat) (z108 : Nat → Nat) (n146 : Nat) (r151 : Int32) (rplaceG_231 : Nat) (rkindG_232 : Int32) (rbeginG_233 : Nat) (rwordG_234 : Int32) (rnumberG_235 : Int32) (rlettersG_236 : Int64) (rfaultKindG_237 : Int32) (rfaultPlaceG_238 : Int32) (thicknessG_239 : Nat → Int32) (rplaceG_257 : Nat) (rkindG_258 : Int32) (rbeginG_259 : Nat) (rwordG_260 : Int32) (rnumberG_261 : Int32) (rlettersG_262 : Int64) (rfaultKindG_263 : Int32) (rfaultPlaceG_264 : Int32) (y276 : Int32) (iv_rreader_0 : rlength ≤ 940) (iv_rreader_1 : rplace ≤ rlength) (iv_rreader_2 : rmostBytes ≤ 900) (iv_rreader_3 : rbegin ≤ 940) (hTC : TC bt rtapeF) (iv_a_0 : 2 ≤ wide) (iv_a_1 : wide ≤ 6) (iv_a_2 : 2 ≤ high) (iv_a_3 : high ≤ 6) (iv_a_4 : lumps ≤ 6) (iv_a_5 : boats ≤ 6) (hRT : RT bt rlength rmostBytes gp rkind rbegin rplace rword rnumber rletters) (hgl : gp ≤ rlength) (p14 : 2 ≤ wideG_3) (p15 : wideG_3 ≤ 6) (p16 : 2 ≤ highG_4) (p17 : highG_4 ≤ 6) (p18 : lumpsG_11 ≤ 6) (p19 : boatsG_12 ≤ 6) (p20 : wideG_3 = 4) (p21 : highG_4 = 4) (p22 : heatG_5 = nI 10) (p23 : coolsG_6 = nI 1) (p24 : skinHeatG_7 = nI 3) (p25 : lumpsG_11 = 0) (p26 : boatsG_12 = 0) (p27 : ∀ c, c < 36 → thicknessG_13 c = nI 0) (j135 : k109 ≤ 900) (j136 : k111 ≤ 940) (j137 : k113 ≤ 940) (j138 : k111 ≤ rlength) (j139 : 2 ≤ k127) (j140 : k127 ≤ 6) (j141 : 2 ≤ k128) (j142 : k128 ≤ 6) (j143 : k132 ≤ 6) (j144 : k133 ≤ 6) (jRT : RT bt rlength rmostBytes z106 x112 k113 k111 x114 x115 w116) (jCS : CS z107 z108 k127 k128 x129 x130 x131 k132 k133 f134 f119 f120 f121 f122 f123 f124) (jSW : SW z107 z108) (jTB : TB x110 z107) (jPL : pLoop bt rlength rmostBytes 1000 gp s0 (fun _ => 0) 0 = pLoop bt rlength rmostBytes (1000 - k109) z106 z107 z108 k109) (j2k : 2 * k109 ≤ z106) (jLe : z106 ≤ rlength) (jFk : x117 = rfaultKind) (hm148 : 900 - k109 < n146 + 1) (c149 : k109 < 900) (c150 : ¬ x112 = 0) (p152 : r151 = x114) (c156 : r151 = nI 1) (p241 : rplaceG_231 ≤ rlength) (p242 : rbeginG_233 ≤ 940) (t243 : isO (pThick bt rlength rmostBytes z106 z107 z108) = true) (t244 : RT bt rlength rmostBytes (lrP (pThick bt rlength rmostBytes z106 z107 z108)) rkindG_232 rbeginG_233 rplaceG_231 rwordG_234 rnumberG_235 rlettersG_236) (t245 : CS (lrS (pThick bt rlength rmostBytes z106 z107 z108)) (lrN (pThick bt rlength rmostBytes z106 z107 z108)) k127 k128 x129 x130 x131 k132 k133 thicknessG_239 f119 f120 f121 f122 f123 f124) (t246 : SW (lrS (pThick bt rlength rmostBytes z106 z107 z108)) (lrN (pThick bt rlength rmostBytes z106 z107 z108))) (t247 : rfaultKindG_237 = x117) (t248 : rfaultPlaceG_238 = x118) (t249 : FLG 1 z107 (lrS (pThick bt rlength rmostBytes z106 z107 z108))) (p266 : rplaceG_257 ≤ rlength) (p267 : rbeginG_259 ≤ 940) (t268 : nI (tK bt rlength rmostBytes (lrP (pThick bt rlength rmostBytes z106 z107 z108))) = (nI 59)) (t269 : RT bt rlength rmostBytes (tT bt rlength rmostBytes (lrP (pThick bt rlength rmostBytes z106 z107 z108))) rkindG_258 rbeginG_259 rplaceG_257 rwordG_260 rnumberG_261 rlettersG_262) (t270 : rfaultKindG_263 = rfaultKindG_237) (t271 : rfaultPlaceG_264 = rfaultPlaceG_238) (e277 : y276 = x110 ||| (nI 2)) : rfaultKindG_263 = rfaultKind := by
  subst_vars
  first
    | rfl
    | assumption
set_option maxRecDepth 20000 in
theorem lf_f_read_21 (bt : Nat → Nat) (rlength : Nat) (rmostBytes : Nat) (rplace : Nat) (rkind : Int32) (rbegin : Nat) (rword : Int32) (rnumber : Int32) (rletters : Int64) (rtapeF : Nat → Int32) (gp : Nat) (k109 : Nat) (x110 : Int32) (k111 : Nat) (x112 : Int32) (k113 : Nat) (x114 : Int32) (x115 : Int32) (w116 : Int64) (f119 : Nat → Int64) (f120 : Nat → Int32) (f121 : Nat → Int64) (f122 : Nat → Int32) (f123 : Nat → Int32) (f124 : Nat → Int32) (k127 : Nat) (k128 : Nat) (x129 : Int32) (x130 : Int32) (x131 : Int32) (k132 : Nat) (k133 : Nat) (f134 : Nat → Int32) (z106 : Nat) (z107 : Nat → Nat) (z108 : Nat → Nat) (n146 : Nat) (r151 : Int32) (rplaceG_231 : Nat) (rkindG_232 : Int32) (rbeginG_233 : Nat) (rwordG_234 : Int32) (rnumberG_235 : Int32) (rlettersG_236 : Int64) (thicknessG_239 : Nat → Int32) (rplaceG_257 : Nat) (rkindG_258 : Int32) (rbeginG_259 : Nat) (rwordG_260 : Int32) (rnumberG_261 : Int32) (rlettersG_262 : Int64) (y276 : Int32) (iv_rreader_0 : rlength ≤ 940) (iv_rreader_1 : rplace ≤ rlength) (iv_rreader_2 : rmostBytes ≤ 900) (iv_rreader_3 : rbegin ≤ 940) (hTC : TC bt rtapeF) (hRT : RT bt rlength rmostBytes gp rkind rbegin rplace rword rnumber rletters) (hgl : gp ≤ rlength) (j135 : k109 ≤ 900) (j136 : k111 ≤ 940) (j137 : k113 ≤ 940) (j138 : k111 ≤ rlength) (j139 : 2 ≤ k127) (j140 : k127 ≤ 6) (j141 : 2 ≤ k128) (j142 : k128 ≤ 6) (j143 : k132 ≤ 6) (j144 : k133 ≤ 6) (jRT : RT bt rlength rmostBytes z106 x112 k113 k111 x114 x115 w116) (jCS : CS z107 z108 k127 k128 x129 x130 x131 k132 k133 f134 f119 f120 f121 f122 f123 f124) (jSW : SW z107 z108) (jTB : TB x110 z107) (jPL : pLoop bt rlength rmostBytes 1000 gp s0 (fun _ => 0) 0 = pLoop bt rlength rmostBytes (1000 - k109) z106 z107 z108 k109) (j2k : 2 * k109 ≤ z106) (jLe : z106 ≤ rlength) (hm148 : 900 - k109 < n146 + 1) (c149 : k109 < 900) (c150 : ¬ x112 = 0) (p152 : r151 = x114) (c156 : r151 = nI 1) (p241 : rplaceG_231 ≤ rlength) (p242 : rbeginG_233 ≤ 940) (t243 : isO (pThick bt rlength rmostBytes z106 z107 z108) = true) (t244 : RT bt rlength rmostBytes (lrP (pThick bt rlength rmostBytes z106 z107 z108)) rkindG_232 rbeginG_233 rplaceG_231 rwordG_234 rnumberG_235 rlettersG_236) (t245 : CS (lrS (pThick bt rlength rmostBytes z106 z107 z108)) (lrN (pThick bt rlength rmostBytes z106 z107 z108)) k127 k128 x129 x130 x131 k132 k133 thicknessG_239 f119 f120 f121 f122 f123 f124) (t246 : SW (lrS (pThick bt rlength rmostBytes z106 z107 z108)) (lrN (pThick bt rlength rmostBytes z106 z107 z108))) (t249 : FLG 1 z107 (lrS (pThick bt rlength rmostBytes z106 z107 z108))) (p266 : rplaceG_257 ≤ rlength) (p267 : rbeginG_259 ≤ 940) (t268 : nI (tK bt rlength rmostBytes (lrP (pThick bt rlength rmostBytes z106 z107 z108))) = (nI 59)) (t269 : RT bt rlength rmostBytes (tT bt rlength rmostBytes (lrP (pThick bt rlength rmostBytes z106 z107 z108))) rkindG_258 rbeginG_259 rplaceG_257 rwordG_260 rnumberG_261 rlettersG_262) (e277 : y276 = x110 ||| (nI 2)) : 900 - (k109 + 1) < n146 := by
  have b_rkind := ia_b rkind
  have b_rword := ia_b rword
  have b_rnumber := ia_b rnumber
  have b_x110 := ia_b x110
  have b_x112 := ia_b x112
  have b_x114 := ia_b x114
  have b_x115 := ia_b x115
  have b_x129 := ia_b x129
  have b_x130 := ia_b x130
  have b_x131 := ia_b x131
  have b_r151 := ia_b r151
  have b_rkindG_232 := ia_b rkindG_232
  have b_rwordG_234 := ia_b rwordG_234
  have b_rnumberG_235 := ia_b rnumberG_235
  have b_rkindG_258 := ia_b rkindG_258
  have b_rwordG_260 := ia_b rwordG_260
  have b_rnumberG_261 := ia_b rnumberG_261
  have b_y276 := ia_b y276
  have b_rletters := Int64.toInt_lt rletters
  have b_w116 := Int64.toInt_lt w116
  have b_rlettersG_236 := Int64.toInt_lt rlettersG_236
  have b_rlettersG_262 := Int64.toInt_lt rlettersG_262
  try have k_0 := ia_n 1 (by first | decide | omega)
  try have k_1 := ia_n (tK bt rlength rmostBytes (lrP (pThick bt rlength rmostBytes z106 z107 z108))) (by first | decide | omega)
  try have k_2 := ia_n 59 (by first | decide | omega)
  try have k_3 := ia_n 2 (by first | decide | omega)
  try simp only [ia_lt, ia_le, ia_eq, ia_m1, ia_0, ia_1, ne_eq, true_and, and_true, false_and, and_false, or_false, false_or, or_true, true_or, not_true_eq_false, not_false_eq_true] at *
  all_goals omega
set_option maxRecDepth 20000 in
theorem lf_f_read_22 (bt : Nat → Nat) (rlength : Nat) (rmostBytes : Nat) (rplace : Nat) (rkind : Int32) (rbegin : Nat) (rword : Int32) (rnumber : Int32) (rletters : Int64) (rtapeF : Nat → Int32) (gp : Nat) (k109 : Nat) (x110 : Int32) (k111 : Nat) (x112 : Int32) (k113 : Nat) (x114 : Int32) (x115 : Int32) (w116 : Int64) (f119 : Nat → Int64) (f120 : Nat → Int32) (f121 : Nat → Int64) (f122 : Nat → Int32) (f123 : Nat → Int32) (f124 : Nat → Int32) (k127 : Nat) (k128 : Nat) (x129 : Int32) (x130 : Int32) (x131 : Int32) (k132 : Nat) (k133 : Nat) (f134 : Nat → Int32) (z106 : Nat) (z107 : Nat → Nat) (z108 : Nat → Nat) (n146 : Nat) (r151 : Int32) (rplaceG_231 : Nat) (rkindG_232 : Int32) (rbeginG_233 : Nat) (rwordG_234 : Int32) (rnumberG_235 : Int32) (rlettersG_236 : Int64) (thicknessG_239 : Nat → Int32) (rplaceG_257 : Nat) (rfaultKindG_263 : Int32) (rfaultPlaceG_264 : Int32) (iv_rreader_0 : rlength ≤ 940) (iv_rreader_1 : rplace ≤ rlength) (iv_rreader_2 : rmostBytes ≤ 900) (iv_rreader_3 : rbegin ≤ 940) (hTC : TC bt rtapeF) (hRT : RT bt rlength rmostBytes gp rkind rbegin rplace rword rnumber rletters) (hgl : gp ≤ rlength) (j135 : k109 ≤ 900) (j136 : k111 ≤ 940) (j137 : k113 ≤ 940) (j138 : k111 ≤ rlength) (j139 : 2 ≤ k127) (j140 : k127 ≤ 6) (j141 : 2 ≤ k128) (j142 : k128 ≤ 6) (j143 : k132 ≤ 6) (j144 : k133 ≤ 6) (jRT : RT bt rlength rmostBytes z106 x112 k113 k111 x114 x115 w116) (jCS : CS z107 z108 k127 k128 x129 x130 x131 k132 k133 f134 f119 f120 f121 f122 f123 f124) (jSW : SW z107 z108) (jTB : TB x110 z107) (jPL : pLoop bt rlength rmostBytes 1000 gp s0 (fun _ => 0) 0 = pLoop bt rlength rmostBytes (1000 - k109) z106 z107 z108 k109) (j2k : 2 * k109 ≤ z106) (jLe : z106 ≤ rlength) (hm148 : 900 - k109 < n146 + 1) (c149 : k109 < 900) (c150 : ¬ x112 = 0) (p152 : r151 = x114) (c156 : r151 = nI 1) (p241 : rplaceG_231 ≤ rlength) (p242 : rbeginG_233 ≤ 940) (t243 : isO (pThick bt rlength rmostBytes z106 z107 z108) = true) (t244 : RT bt rlength rmostBytes (lrP (pThick bt rlength rmostBytes z106 z107 z108)) rkindG_232 rbeginG_233 rplaceG_231 rwordG_234 rnumberG_235 rlettersG_236) (t245 : CS (lrS (pThick bt rlength rmostBytes z106 z107 z108)) (lrN (pThick bt rlength rmostBytes z106 z107 z108)) k127 k128 x129 x130 x131 k132 k133 thicknessG_239 f119 f120 f121 f122 f123 f124) (t246 : SW (lrS (pThick bt rlength rmostBytes z106 z107 z108)) (lrN (pThick bt rlength rmostBytes z106 z107 z108))) (t249 : FLG 1 z107 (lrS (pThick bt rlength rmostBytes z106 z107 z108))) (p266 : rplaceG_257 ≤ rlength) (t272 : ¬ nI (tK bt rlength rmostBytes (lrP (pThick bt rlength rmostBytes z106 z107 z108))) = (nI 59)) (t273 : rfaultKindG_263 = nI 1) (t274 : rfaultPlaceG_264 = nI (tF bt rlength rmostBytes (lrP (pThick bt rlength rmostBytes z106 z107 z108)))) : isO (pLoop bt rlength rmostBytes 1000 gp s0 (fun _ => 0) 0) = false ∧ rfaultKindG_263 = nI (erA (pLoop bt rlength rmostBytes 1000 gp s0 (fun _ => 0) 0)) ∧ rfaultPlaceG_264 = nI (erB (pLoop bt rlength rmostBytes 1000 gp s0 (fun _ => 0) 0)) := by
  have hk0 : tK bt rlength rmostBytes z106 ≠ 0 := fun h9 => absurd ((RT_k jRT (by decide)).mpr h9) (by
    have kk0 := ia_n 0 (by decide)
    have b_rkind := ia_b rkind
    have b_rword := ia_b rword
    have b_rnumber := ia_b rnumber
    have b_x110 := ia_b x110
    have b_x112 := ia_b x112
    have b_x114 := ia_b x114
    have b_x115 := ia_b x115
    have b_x129 := ia_b x129
    have b_x130 := ia_b x130
    have b_x131 := ia_b x131
    have b_r151 := ia_b r151
    have b_rkindG_232 := ia_b rkindG_232
    have b_rwordG_234 := ia_b rwordG_234
    have b_rnumberG_235 := ia_b rnumberG_235
    have b_rfaultKindG_263 := ia_b rfaultKindG_263
    have b_rfaultPlaceG_264 := ia_b rfaultPlaceG_264
    have b_rletters := Int64.toInt_lt rletters
    have b_w116 := Int64.toInt_lt w116
    have b_rlettersG_236 := Int64.toInt_lt rlettersG_236
    try have k_0 := ia_n 1 (by first | decide | omega)
    try have k_1 := ia_n (tK bt rlength rmostBytes (lrP (pThick bt rlength rmostBytes z106 z107 z108))) (by first | decide | omega)
    try have k_2 := ia_n 59 (by first | decide | omega)
    try have k_3 := ia_n (tF bt rlength rmostBytes (lrP (pThick bt rlength rmostBytes z106 z107 z108))) (by first | decide | omega)
    try have k_4 := ia_n (erA (pLoop bt rlength rmostBytes 1000 gp s0 (fun _ => 0) 0)) (by first | decide | omega)
    try have k_5 := ia_n (erB (pLoop bt rlength rmostBytes 1000 gp s0 (fun _ => 0) 0)) (by first | decide | omega)
    try simp only [ia_lt, ia_le, ia_eq, ia_m1, ia_0, ia_1, ne_eq, true_and, and_true, false_and, and_false, or_false, false_or, or_true, true_or, not_true_eq_false, not_false_eq_true] at *
    all_goals omega)
  have hW : tW bt rlength rmostBytes z106 = 1 := (RT_w jRT (by decide)).mp (by
    have kk1 := ia_n 1 (by decide)
    have b_rkind := ia_b rkind
    have b_rword := ia_b rword
    have b_rnumber := ia_b rnumber
    have b_x110 := ia_b x110
    have b_x112 := ia_b x112
    have b_x114 := ia_b x114
    have b_x115 := ia_b x115
    have b_x129 := ia_b x129
    have b_x130 := ia_b x130
    have b_x131 := ia_b x131
    have b_r151 := ia_b r151
    have b_rkindG_232 := ia_b rkindG_232
    have b_rwordG_234 := ia_b rwordG_234
    have b_rnumberG_235 := ia_b rnumberG_235
    have b_rfaultKindG_263 := ia_b rfaultKindG_263
    have b_rfaultPlaceG_264 := ia_b rfaultPlaceG_264
    have b_rletters := Int64.toInt_lt rletters
    have b_w116 := Int64.toInt_lt w116
    have b_rlettersG_236 := Int64.toInt_lt rlettersG_236
    try have k_0 := ia_n 1 (by first | decide | omega)
    try have k_1 := ia_n (tK bt rlength rmostBytes (lrP (pThick bt rlength rmostBytes z106 z107 z108))) (by first | decide | omega)
    try have k_2 := ia_n 59 (by first | decide | omega)
    try have k_3 := ia_n (tF bt rlength rmostBytes (lrP (pThick bt rlength rmostBytes z106 z107 z108))) (by first | decide | omega)
    try have k_4 := ia_n (erA (pLoop bt rlength rmostBytes 1000 gp s0 (fun _ => 0) 0)) (by first | decide | omega)
    try have k_5 := ia_n (erB (pLoop bt rlength rmostBytes 1000 gp s0 (fun _ => 0) 0)) (by first | decide | omega)
    try simp only [ia_lt, ia_le, ia_eq, ia_m1, ia_0, ia_1, ne_eq, true_and, and_true, false_and, and_false, or_false, false_or, or_true, true_or, not_true_eq_false, not_false_eq_true] at *
    all_goals omega)
  have hL := ln1 (σ := z107) (ν := z108) hW
  have e9 : 1000 - k109 = (1000 - (k109 + 1)) + 1 := by omega
  have h59 : ¬ tK bt rlength rmostBytes (lrP (pLine bt rlength rmostBytes z106 z107 z108)) = 59 := by
    rw [hL]
    have h8 := ‹¬ nI (tK bt rlength rmostBytes (lrP _)) = nI 59›
    have h7 := tK_le bt rlength rmostBytes (lrP (pLine bt rlength rmostBytes z106 z107 z108))
    rw [hL] at h7
    rw [ia_eq, ia_n _ (by omega), ia_n _ (by omega)] at h8
    omega
  have q := pL_sgn (f := 1000 - (k109 + 1)) (k := k109) hk0 (by rw [hL]; assumption) h59
  rw [hL] at q
  rw [jPL, e9, q]
  exact ⟨rfl, ‹_›, ‹_›⟩
set_option maxRecDepth 20000 in
theorem lf_f_read_23 (bt : Nat → Nat) (rlength : Nat) (rmostBytes : Nat) (rplace : Nat) (rkind : Int32) (rbegin : Nat) (rword : Int32) (rnumber : Int32) (rletters : Int64) (rtapeF : Nat → Int32) (gp : Nat) (k109 : Nat) (x110 : Int32) (k111 : Nat) (x112 : Int32) (k113 : Nat) (x114 : Int32) (x115 : Int32) (w116 : Int64) (f119 : Nat → Int64) (f120 : Nat → Int32) (f121 : Nat → Int64) (f122 : Nat → Int32) (f123 : Nat → Int32) (f124 : Nat → Int32) (k127 : Nat) (k128 : Nat) (x129 : Int32) (x130 : Int32) (x131 : Int32) (k132 : Nat) (k133 : Nat) (f134 : Nat → Int32) (z106 : Nat) (z107 : Nat → Nat) (z108 : Nat → Nat) (n146 : Nat) (r151 : Int32) (rplaceG_231 : Nat) (rfaultKindG_237 : Int32) (rfaultPlaceG_238 : Int32) (iv_rreader_0 : rlength ≤ 940) (iv_rreader_1 : rplace ≤ rlength) (iv_rreader_2 : rmostBytes ≤ 900) (iv_rreader_3 : rbegin ≤ 940) (hTC : TC bt rtapeF) (hRT : RT bt rlength rmostBytes gp rkind rbegin rplace rword rnumber rletters) (hgl : gp ≤ rlength) (j135 : k109 ≤ 900) (j136 : k111 ≤ 940) (j137 : k113 ≤ 940) (j138 : k111 ≤ rlength) (j139 : 2 ≤ k127) (j140 : k127 ≤ 6) (j141 : 2 ≤ k128) (j142 : k128 ≤ 6) (j143 : k132 ≤ 6) (j144 : k133 ≤ 6) (jRT : RT bt rlength rmostBytes z106 x112 k113 k111 x114 x115 w116) (jCS : CS z107 z108 k127 k128 x129 x130 x131 k132 k133 f134 f119 f120 f121 f122 f123 f124) (jSW : SW z107 z108) (jTB : TB x110 z107) (jPL : pLoop bt rlength rmostBytes 1000 gp s0 (fun _ => 0) 0 = pLoop bt rlength rmostBytes (1000 - k109) z106 z107 z108 k109) (j2k : 2 * k109 ≤ z106) (jLe : z106 ≤ rlength) (hm148 : 900 - k109 < n146 + 1) (c149 : k109 < 900) (c150 : ¬ x112 = 0) (p152 : r151 = x114) (c156 : r151 = nI 1) (p241 : rplaceG_231 ≤ rlength) (t250 : isO (pThick bt rlength rmostBytes z106 z107 z108) = false) (t251 : rfaultKindG_237 = nI (erA (pThick bt rlength rmostBytes z106 z107 z108))) (t252 : rfaultPlaceG_238 = nI (erB (pThick bt rlength rmostBytes z106 z107 z108))) : isO (pLoop bt rlength rmostBytes 1000 gp s0 (fun _ => 0) 0) = false ∧ rfaultKindG_237 = nI (erA (pLoop bt rlength rmostBytes 1000 gp s0 (fun _ => 0) 0)) ∧ rfaultPlaceG_238 = nI (erB (pLoop bt rlength rmostBytes 1000 gp s0 (fun _ => 0) 0)) := by
  have hk0 : tK bt rlength rmostBytes z106 ≠ 0 := fun h9 => absurd ((RT_k jRT (by decide)).mpr h9) (by
    have kk0 := ia_n 0 (by decide)
    have b_rkind := ia_b rkind
    have b_rword := ia_b rword
    have b_rnumber := ia_b rnumber
    have b_x110 := ia_b x110
    have b_x112 := ia_b x112
    have b_x114 := ia_b x114
    have b_x115 := ia_b x115
    have b_x129 := ia_b x129
    have b_x130 := ia_b x130
    have b_x131 := ia_b x131
    have b_r151 := ia_b r151
    have b_rfaultKindG_237 := ia_b rfaultKindG_237
    have b_rfaultPlaceG_238 := ia_b rfaultPlaceG_238
    have b_rletters := Int64.toInt_lt rletters
    have b_w116 := Int64.toInt_lt w116
    try have k_0 := ia_n 1 (by first | decide | omega)
    try have k_1 := ia_n (erA (pThick bt rlength rmostBytes z106 z107 z108)) (by first | decide | omega)
    try have k_2 := ia_n (erB (pThick bt rlength rmostBytes z106 z107 z108)) (by first | decide | omega)
    try have k_3 := ia_n (erA (pLoop bt rlength rmostBytes 1000 gp s0 (fun _ => 0) 0)) (by first | decide | omega)
    try have k_4 := ia_n (erB (pLoop bt rlength rmostBytes 1000 gp s0 (fun _ => 0) 0)) (by first | decide | omega)
    try simp only [ia_lt, ia_le, ia_eq, ia_m1, ia_0, ia_1, ne_eq, true_and, and_true, false_and, and_false, or_false, false_or, or_true, true_or, not_true_eq_false, not_false_eq_true] at *
    all_goals omega)
  have hW : tW bt rlength rmostBytes z106 = 1 := (RT_w jRT (by decide)).mp (by
    have kk1 := ia_n 1 (by decide)
    have b_rkind := ia_b rkind
    have b_rword := ia_b rword
    have b_rnumber := ia_b rnumber
    have b_x110 := ia_b x110
    have b_x112 := ia_b x112
    have b_x114 := ia_b x114
    have b_x115 := ia_b x115
    have b_x129 := ia_b x129
    have b_x130 := ia_b x130
    have b_x131 := ia_b x131
    have b_r151 := ia_b r151
    have b_rfaultKindG_237 := ia_b rfaultKindG_237
    have b_rfaultPlaceG_238 := ia_b rfaultPlaceG_238
    have b_rletters := Int64.toInt_lt rletters
    have b_w116 := Int64.toInt_lt w116
    try have k_0 := ia_n 1 (by first | decide | omega)
    try have k_1 := ia_n (erA (pThick bt rlength rmostBytes z106 z107 z108)) (by first | decide | omega)
    try have k_2 := ia_n (erB (pThick bt rlength rmostBytes z106 z107 z108)) (by first | decide | omega)
    try have k_3 := ia_n (erA (pLoop bt rlength rmostBytes 1000 gp s0 (fun _ => 0) 0)) (by first | decide | omega)
    try have k_4 := ia_n (erB (pLoop bt rlength rmostBytes 1000 gp s0 (fun _ => 0) 0)) (by first | decide | omega)
    try simp only [ia_lt, ia_le, ia_eq, ia_m1, ia_0, ia_1, ne_eq, true_and, and_true, false_and, and_false, or_false, false_or, or_true, true_or, not_true_eq_false, not_false_eq_true] at *
    all_goals omega)
  have hL := ln1 (σ := z107) (ν := z108) hW
  have e9 : 1000 - k109 = (1000 - (k109 + 1)) + 1 := by omega
  have q := pL_err (f := 1000 - (k109 + 1)) (k := k109) hk0 (by rw [hL]; assumption)
  rw [hL] at q
  rw [jPL, e9, q]
  exact ⟨rfl, ‹_›, ‹_›⟩
set_option maxRecDepth 20000 in
theorem lf_f_read_24 (bt : Nat → Nat) (rlength : Nat) (rmostBytes : Nat) (rplace : Nat) (rkind : Int32) (rbegin : Nat) (rword : Int32) (rnumber : Int32) (rletters : Int64) (rtapeF : Nat → Int32) (gp : Nat) (k109 : Nat) (x110 : Int32) (k111 : Nat) (x112 : Int32) (k113 : Nat) (x114 : Int32) (x115 : Int32) (w116 : Int64) (f119 : Nat → Int64) (f120 : Nat → Int32) (f121 : Nat → Int64) (f122 : Nat → Int32) (f123 : Nat → Int32) (f124 : Nat → Int32) (k127 : Nat) (k128 : Nat) (x129 : Int32) (x130 : Int32) (x131 : Int32) (k132 : Nat) (k133 : Nat) (f134 : Nat → Int32) (z106 : Nat) (z107 : Nat → Nat) (z108 : Nat → Nat) (n146 : Nat) (r151 : Int32) (rplaceG_283 : Nat) (rkindG_284 : Int32) (rbeginG_285 : Nat) (rwordG_286 : Int32) (rnumberG_287 : Int32) (rlettersG_288 : Int64) (lumpsG_291 : Nat) (lumpNamesG_292 : Nat → Int64) (lumpCellsG_293 : Nat → Int32) (rplaceG_312 : Nat) (rkindG_313 : Int32) (rbeginG_314 : Nat) (rwordG_315 : Int32) (rnumberG_316 : Int32) (rlettersG_317 : Int64) (y331 : Int32) (iv_rreader_0 : rlength ≤ 940) (iv_rreader_1 : rplace ≤ rlength) (iv_rreader_2 : rmostBytes ≤ 900) (iv_rreader_3 : rbegin ≤ 940) (hTC : TC bt rtapeF) (hRT : RT bt rlength rmostBytes gp rkind rbegin rplace rword rnumber rletters) (hgl : gp ≤ rlength) (j135 : k109 ≤ 900) (j136 : k111 ≤ 940) (j137 : k113 ≤ 940) (j138 : k111 ≤ rlength) (j139 : 2 ≤ k127) (j140 : k127 ≤ 6) (j141 : 2 ≤ k128) (j142 : k128 ≤ 6) (j143 : k132 ≤ 6) (j144 : k133 ≤ 6) (jRT : RT bt rlength rmostBytes z106 x112 k113 k111 x114 x115 w116) (jCS : CS z107 z108 k127 k128 x129 x130 x131 k132 k133 f134 f119 f120 f121 f122 f123 f124) (jSW : SW z107 z108) (jTB : TB x110 z107) (jPL : pLoop bt rlength rmostBytes 1000 gp s0 (fun _ => 0) 0 = pLoop bt rlength rmostBytes (1000 - k109) z106 z107 z108 k109) (j2k : 2 * k109 ≤ z106) (jLe : z106 ≤ rlength) (hm148 : 900 - k109 < n146 + 1) (c149 : k109 < 900) (c150 : ¬ x112 = 0) (p152 : r151 = x114) (c157 : r151 = nI 2) (p295 : rplaceG_283 ≤ rlength) (p296 : rbeginG_285 ≤ 940) (p297 : lumpsG_291 ≤ 6) (t298 : isO (pLump bt rlength rmostBytes z106 z107 z108) = true) (t299 : RT bt rlength rmostBytes (lrP (pLump bt rlength rmostBytes z106 z107 z108)) rkindG_284 rbeginG_285 rplaceG_283 rwordG_286 rnumberG_287 rlettersG_288) (t300 : CS (lrS (pLump bt rlength rmostBytes z106 z107 z108)) (lrN (pLump bt rlength rmostBytes z106 z107 z108)) k127 k128 x129 x130 x131 lumpsG_291 k133 f134 lumpNamesG_292 lumpCellsG_293 f121 f122 f123 f124) (t301 : SW (lrS (pLump bt rlength rmostBytes z106 z107 z108)) (lrN (pLump bt rlength rmostBytes z106 z107 z108))) (t304 : FLG 2 z107 (lrS (pLump bt rlength rmostBytes z106 z107 z108))) (p321 : rplaceG_312 ≤ rlength) (p322 : rbeginG_314 ≤ 940) (t323 : nI (tK bt rlength rmostBytes (lrP (pLump bt rlength rmostBytes z106 z107 z108))) = (nI 59)) (t324 : RT bt rlength rmostBytes (tT bt rlength rmostBytes (lrP (pLump bt rlength rmostBytes z106 z107 z108))) rkindG_313 rbeginG_314 rplaceG_312 rwordG_315 rnumberG_316 rlettersG_317) (e332 : y331 = x110 ||| (nI 4)) : (k109 + 1) ≤ 900 := by
  have b_rkind := ia_b rkind
  have b_rword := ia_b rword
  have b_rnumber := ia_b rnumber
  have b_x110 := ia_b x110
  have b_x112 := ia_b x112
  have b_x114 := ia_b x114
  have b_x115 := ia_b x115
  have b_x129 := ia_b x129
  have b_x130 := ia_b x130
  have b_x131 := ia_b x131
  have b_r151 := ia_b r151
  have b_rkindG_284 := ia_b rkindG_284
  have b_rwordG_286 := ia_b rwordG_286
  have b_rnumberG_287 := ia_b rnumberG_287
  have b_rkindG_313 := ia_b rkindG_313
  have b_rwordG_315 := ia_b rwordG_315
  have b_rnumberG_316 := ia_b rnumberG_316
  have b_y331 := ia_b y331
  have b_rletters := Int64.toInt_lt rletters
  have b_w116 := Int64.toInt_lt w116
  have b_rlettersG_288 := Int64.toInt_lt rlettersG_288
  have b_rlettersG_317 := Int64.toInt_lt rlettersG_317
  try have k_0 := ia_n 2 (by first | decide | omega)
  try have k_1 := ia_n (tK bt rlength rmostBytes (lrP (pLump bt rlength rmostBytes z106 z107 z108))) (by first | decide | omega)
  try have k_2 := ia_n 59 (by first | decide | omega)
  try have k_3 := ia_n 4 (by first | decide | omega)
  try simp only [ia_lt, ia_le, ia_eq, ia_m1, ia_0, ia_1, ne_eq, true_and, and_true, false_and, and_false, or_false, false_or, or_true, true_or, not_true_eq_false, not_false_eq_true] at *
  all_goals omega
set_option maxRecDepth 20000 in
theorem lf_f_read_25 (bt : Nat → Nat) (rlength : Nat) (rmostBytes : Nat) (rplace : Nat) (rkind : Int32) (rbegin : Nat) (rword : Int32) (rnumber : Int32) (rletters : Int64) (rtapeF : Nat → Int32) (gp : Nat) (k109 : Nat) (x110 : Int32) (k111 : Nat) (x112 : Int32) (k113 : Nat) (x114 : Int32) (x115 : Int32) (w116 : Int64) (f119 : Nat → Int64) (f120 : Nat → Int32) (f121 : Nat → Int64) (f122 : Nat → Int32) (f123 : Nat → Int32) (f124 : Nat → Int32) (k127 : Nat) (k128 : Nat) (x129 : Int32) (x130 : Int32) (x131 : Int32) (k132 : Nat) (k133 : Nat) (f134 : Nat → Int32) (z106 : Nat) (z107 : Nat → Nat) (z108 : Nat → Nat) (n146 : Nat) (r151 : Int32) (rplaceG_283 : Nat) (rkindG_284 : Int32) (rbeginG_285 : Nat) (rwordG_286 : Int32) (rnumberG_287 : Int32) (rlettersG_288 : Int64) (lumpsG_291 : Nat) (lumpNamesG_292 : Nat → Int64) (lumpCellsG_293 : Nat → Int32) (rplaceG_312 : Nat) (rkindG_313 : Int32) (rbeginG_314 : Nat) (rwordG_315 : Int32) (rnumberG_316 : Int32) (rlettersG_317 : Int64) (y331 : Int32) (iv_rreader_0 : rlength ≤ 940) (iv_rreader_1 : rplace ≤ rlength) (iv_rreader_2 : rmostBytes ≤ 900) (iv_rreader_3 : rbegin ≤ 940) (hTC : TC bt rtapeF) (hRT : RT bt rlength rmostBytes gp rkind rbegin rplace rword rnumber rletters) (hgl : gp ≤ rlength) (j135 : k109 ≤ 900) (j136 : k111 ≤ 940) (j137 : k113 ≤ 940) (j138 : k111 ≤ rlength) (j139 : 2 ≤ k127) (j140 : k127 ≤ 6) (j141 : 2 ≤ k128) (j142 : k128 ≤ 6) (j143 : k132 ≤ 6) (j144 : k133 ≤ 6) (jRT : RT bt rlength rmostBytes z106 x112 k113 k111 x114 x115 w116) (jCS : CS z107 z108 k127 k128 x129 x130 x131 k132 k133 f134 f119 f120 f121 f122 f123 f124) (jSW : SW z107 z108) (jTB : TB x110 z107) (jPL : pLoop bt rlength rmostBytes 1000 gp s0 (fun _ => 0) 0 = pLoop bt rlength rmostBytes (1000 - k109) z106 z107 z108 k109) (j2k : 2 * k109 ≤ z106) (jLe : z106 ≤ rlength) (hm148 : 900 - k109 < n146 + 1) (c149 : k109 < 900) (c150 : ¬ x112 = 0) (p152 : r151 = x114) (c157 : r151 = nI 2) (p295 : rplaceG_283 ≤ rlength) (p296 : rbeginG_285 ≤ 940) (p297 : lumpsG_291 ≤ 6) (t298 : isO (pLump bt rlength rmostBytes z106 z107 z108) = true) (t299 : RT bt rlength rmostBytes (lrP (pLump bt rlength rmostBytes z106 z107 z108)) rkindG_284 rbeginG_285 rplaceG_283 rwordG_286 rnumberG_287 rlettersG_288) (t300 : CS (lrS (pLump bt rlength rmostBytes z106 z107 z108)) (lrN (pLump bt rlength rmostBytes z106 z107 z108)) k127 k128 x129 x130 x131 lumpsG_291 k133 f134 lumpNamesG_292 lumpCellsG_293 f121 f122 f123 f124) (t301 : SW (lrS (pLump bt rlength rmostBytes z106 z107 z108)) (lrN (pLump bt rlength rmostBytes z106 z107 z108))) (t304 : FLG 2 z107 (lrS (pLump bt rlength rmostBytes z106 z107 z108))) (p321 : rplaceG_312 ≤ rlength) (p322 : rbeginG_314 ≤ 940) (t323 : nI (tK bt rlength rmostBytes (lrP (pLump bt rlength rmostBytes z106 z107 z108))) = (nI 59)) (t324 : RT bt rlength rmostBytes (tT bt rlength rmostBytes (lrP (pLump bt rlength rmostBytes z106 z107 z108))) rkindG_313 rbeginG_314 rplaceG_312 rwordG_315 rnumberG_316 rlettersG_317) (e332 : y331 = x110 ||| (nI 4)) : rplaceG_312 ≤ 940 := by
  have b_rkind := ia_b rkind
  have b_rword := ia_b rword
  have b_rnumber := ia_b rnumber
  have b_x110 := ia_b x110
  have b_x112 := ia_b x112
  have b_x114 := ia_b x114
  have b_x115 := ia_b x115
  have b_x129 := ia_b x129
  have b_x130 := ia_b x130
  have b_x131 := ia_b x131
  have b_r151 := ia_b r151
  have b_rkindG_284 := ia_b rkindG_284
  have b_rwordG_286 := ia_b rwordG_286
  have b_rnumberG_287 := ia_b rnumberG_287
  have b_rkindG_313 := ia_b rkindG_313
  have b_rwordG_315 := ia_b rwordG_315
  have b_rnumberG_316 := ia_b rnumberG_316
  have b_y331 := ia_b y331
  have b_rletters := Int64.toInt_lt rletters
  have b_w116 := Int64.toInt_lt w116
  have b_rlettersG_288 := Int64.toInt_lt rlettersG_288
  have b_rlettersG_317 := Int64.toInt_lt rlettersG_317
  try have k_0 := ia_n 2 (by first | decide | omega)
  try have k_1 := ia_n (tK bt rlength rmostBytes (lrP (pLump bt rlength rmostBytes z106 z107 z108))) (by first | decide | omega)
  try have k_2 := ia_n 59 (by first | decide | omega)
  try have k_3 := ia_n 4 (by first | decide | omega)
  try simp only [ia_lt, ia_le, ia_eq, ia_m1, ia_0, ia_1, ne_eq, true_and, and_true, false_and, and_false, or_false, false_or, or_true, true_or, not_true_eq_false, not_false_eq_true] at *
  all_goals omega
set_option maxRecDepth 20000 in
theorem lf_f_read_26 (bt : Nat → Nat) (rlength : Nat) (rmostBytes : Nat) (rplace : Nat) (rkind : Int32) (rbegin : Nat) (rword : Int32) (rnumber : Int32) (rletters : Int64) (rtapeF : Nat → Int32) (gp : Nat) (k109 : Nat) (x110 : Int32) (k111 : Nat) (x112 : Int32) (k113 : Nat) (x114 : Int32) (x115 : Int32) (w116 : Int64) (f119 : Nat → Int64) (f120 : Nat → Int32) (f121 : Nat → Int64) (f122 : Nat → Int32) (f123 : Nat → Int32) (f124 : Nat → Int32) (k127 : Nat) (k128 : Nat) (x129 : Int32) (x130 : Int32) (x131 : Int32) (k132 : Nat) (k133 : Nat) (f134 : Nat → Int32) (z106 : Nat) (z107 : Nat → Nat) (z108 : Nat → Nat) (n146 : Nat) (r151 : Int32) (rplaceG_283 : Nat) (rkindG_284 : Int32) (rbeginG_285 : Nat) (rwordG_286 : Int32) (rnumberG_287 : Int32) (rlettersG_288 : Int64) (lumpsG_291 : Nat) (lumpNamesG_292 : Nat → Int64) (lumpCellsG_293 : Nat → Int32) (rplaceG_312 : Nat) (rkindG_313 : Int32) (rbeginG_314 : Nat) (rwordG_315 : Int32) (rnumberG_316 : Int32) (rlettersG_317 : Int64) (y331 : Int32) (iv_rreader_0 : rlength ≤ 940) (iv_rreader_1 : rplace ≤ rlength) (iv_rreader_2 : rmostBytes ≤ 900) (iv_rreader_3 : rbegin ≤ 940) (hTC : TC bt rtapeF) (hRT : RT bt rlength rmostBytes gp rkind rbegin rplace rword rnumber rletters) (hgl : gp ≤ rlength) (j135 : k109 ≤ 900) (j136 : k111 ≤ 940) (j137 : k113 ≤ 940) (j138 : k111 ≤ rlength) (j139 : 2 ≤ k127) (j140 : k127 ≤ 6) (j141 : 2 ≤ k128) (j142 : k128 ≤ 6) (j143 : k132 ≤ 6) (j144 : k133 ≤ 6) (jRT : RT bt rlength rmostBytes z106 x112 k113 k111 x114 x115 w116) (jCS : CS z107 z108 k127 k128 x129 x130 x131 k132 k133 f134 f119 f120 f121 f122 f123 f124) (jSW : SW z107 z108) (jTB : TB x110 z107) (jPL : pLoop bt rlength rmostBytes 1000 gp s0 (fun _ => 0) 0 = pLoop bt rlength rmostBytes (1000 - k109) z106 z107 z108 k109) (j2k : 2 * k109 ≤ z106) (jLe : z106 ≤ rlength) (hm148 : 900 - k109 < n146 + 1) (c149 : k109 < 900) (c150 : ¬ x112 = 0) (p152 : r151 = x114) (c157 : r151 = nI 2) (p295 : rplaceG_283 ≤ rlength) (p296 : rbeginG_285 ≤ 940) (p297 : lumpsG_291 ≤ 6) (t298 : isO (pLump bt rlength rmostBytes z106 z107 z108) = true) (t299 : RT bt rlength rmostBytes (lrP (pLump bt rlength rmostBytes z106 z107 z108)) rkindG_284 rbeginG_285 rplaceG_283 rwordG_286 rnumberG_287 rlettersG_288) (t300 : CS (lrS (pLump bt rlength rmostBytes z106 z107 z108)) (lrN (pLump bt rlength rmostBytes z106 z107 z108)) k127 k128 x129 x130 x131 lumpsG_291 k133 f134 lumpNamesG_292 lumpCellsG_293 f121 f122 f123 f124) (t301 : SW (lrS (pLump bt rlength rmostBytes z106 z107 z108)) (lrN (pLump bt rlength rmostBytes z106 z107 z108))) (t304 : FLG 2 z107 (lrS (pLump bt rlength rmostBytes z106 z107 z108))) (p321 : rplaceG_312 ≤ rlength) (p322 : rbeginG_314 ≤ 940) (t323 : nI (tK bt rlength rmostBytes (lrP (pLump bt rlength rmostBytes z106 z107 z108))) = (nI 59)) (t324 : RT bt rlength rmostBytes (tT bt rlength rmostBytes (lrP (pLump bt rlength rmostBytes z106 z107 z108))) rkindG_313 rbeginG_314 rplaceG_312 rwordG_315 rnumberG_316 rlettersG_317) (e332 : y331 = x110 ||| (nI 4)) : TB y331 (lrS (pLump bt rlength rmostBytes z106 z107 z108)) := by
  have q := ‹FLG 2 _ _›
  have q2 := TB_or jTB jSW (k := 2) (by decide) q.1 q.2
  subst_vars
  exact q2
set_option maxRecDepth 20000 in
theorem lf_f_read_27 (bt : Nat → Nat) (rlength : Nat) (rmostBytes : Nat) (rplace : Nat) (rkind : Int32) (rbegin : Nat) (rword : Int32) (rnumber : Int32) (rletters : Int64) (rtapeF : Nat → Int32) (gp : Nat) (k109 : Nat) (x110 : Int32) (k111 : Nat) (x112 : Int32) (k113 : Nat) (x114 : Int32) (x115 : Int32) (w116 : Int64) (f119 : Nat → Int64) (f120 : Nat → Int32) (f121 : Nat → Int64) (f122 : Nat → Int32) (f123 : Nat → Int32) (f124 : Nat → Int32) (k127 : Nat) (k128 : Nat) (x129 : Int32) (x130 : Int32) (x131 : Int32) (k132 : Nat) (k133 : Nat) (f134 : Nat → Int32) (z106 : Nat) (z107 : Nat → Nat) (z108 : Nat → Nat) (n146 : Nat) (r151 : Int32) (rplaceG_283 : Nat) (rkindG_284 : Int32) (rbeginG_285 : Nat) (rwordG_286 : Int32) (rnumberG_287 : Int32) (rlettersG_288 : Int64) (lumpsG_291 : Nat) (lumpNamesG_292 : Nat → Int64) (lumpCellsG_293 : Nat → Int32) (rplaceG_312 : Nat) (rkindG_313 : Int32) (rbeginG_314 : Nat) (rwordG_315 : Int32) (rnumberG_316 : Int32) (rlettersG_317 : Int64) (y331 : Int32) (iv_rreader_0 : rlength ≤ 940) (iv_rreader_1 : rplace ≤ rlength) (iv_rreader_2 : rmostBytes ≤ 900) (iv_rreader_3 : rbegin ≤ 940) (hTC : TC bt rtapeF) (hRT : RT bt rlength rmostBytes gp rkind rbegin rplace rword rnumber rletters) (hgl : gp ≤ rlength) (j135 : k109 ≤ 900) (j136 : k111 ≤ 940) (j137 : k113 ≤ 940) (j138 : k111 ≤ rlength) (j139 : 2 ≤ k127) (j140 : k127 ≤ 6) (j141 : 2 ≤ k128) (j142 : k128 ≤ 6) (j143 : k132 ≤ 6) (j144 : k133 ≤ 6) (jRT : RT bt rlength rmostBytes z106 x112 k113 k111 x114 x115 w116) (jCS : CS z107 z108 k127 k128 x129 x130 x131 k132 k133 f134 f119 f120 f121 f122 f123 f124) (jSW : SW z107 z108) (jTB : TB x110 z107) (jPL : pLoop bt rlength rmostBytes 1000 gp s0 (fun _ => 0) 0 = pLoop bt rlength rmostBytes (1000 - k109) z106 z107 z108 k109) (j2k : 2 * k109 ≤ z106) (jLe : z106 ≤ rlength) (hm148 : 900 - k109 < n146 + 1) (c149 : k109 < 900) (c150 : ¬ x112 = 0) (p152 : r151 = x114) (c157 : r151 = nI 2) (p295 : rplaceG_283 ≤ rlength) (p296 : rbeginG_285 ≤ 940) (p297 : lumpsG_291 ≤ 6) (t298 : isO (pLump bt rlength rmostBytes z106 z107 z108) = true) (t299 : RT bt rlength rmostBytes (lrP (pLump bt rlength rmostBytes z106 z107 z108)) rkindG_284 rbeginG_285 rplaceG_283 rwordG_286 rnumberG_287 rlettersG_288) (t300 : CS (lrS (pLump bt rlength rmostBytes z106 z107 z108)) (lrN (pLump bt rlength rmostBytes z106 z107 z108)) k127 k128 x129 x130 x131 lumpsG_291 k133 f134 lumpNamesG_292 lumpCellsG_293 f121 f122 f123 f124) (t301 : SW (lrS (pLump bt rlength rmostBytes z106 z107 z108)) (lrN (pLump bt rlength rmostBytes z106 z107 z108))) (t304 : FLG 2 z107 (lrS (pLump bt rlength rmostBytes z106 z107 z108))) (p321 : rplaceG_312 ≤ rlength) (p322 : rbeginG_314 ≤ 940) (t323 : nI (tK bt rlength rmostBytes (lrP (pLump bt rlength rmostBytes z106 z107 z108))) = (nI 59)) (t324 : RT bt rlength rmostBytes (tT bt rlength rmostBytes (lrP (pLump bt rlength rmostBytes z106 z107 z108))) rkindG_313 rbeginG_314 rplaceG_312 rwordG_315 rnumberG_316 rlettersG_317) (e332 : y331 = x110 ||| (nI 4)) : pLoop bt rlength rmostBytes 1000 gp s0 (fun _ => 0) 0 = pLoop bt rlength rmostBytes (1000 - (k109 + 1)) (tT bt rlength rmostBytes (lrP (pLump bt rlength rmostBytes z106 z107 z108))) (lrS (pLump bt rlength rmostBytes z106 z107 z108)) (lrN (pLump bt rlength rmostBytes z106 z107 z108)) (k109 + 1) := by
  have hk0 : tK bt rlength rmostBytes z106 ≠ 0 := fun h9 => absurd ((RT_k jRT (by decide)).mpr h9) (by
    have kk0 := ia_n 0 (by decide)
    have b_rkind := ia_b rkind
    have b_rword := ia_b rword
    have b_rnumber := ia_b rnumber
    have b_x110 := ia_b x110
    have b_x112 := ia_b x112
    have b_x114 := ia_b x114
    have b_x115 := ia_b x115
    have b_x129 := ia_b x129
    have b_x130 := ia_b x130
    have b_x131 := ia_b x131
    have b_r151 := ia_b r151
    have b_rkindG_284 := ia_b rkindG_284
    have b_rwordG_286 := ia_b rwordG_286
    have b_rnumberG_287 := ia_b rnumberG_287
    have b_rkindG_313 := ia_b rkindG_313
    have b_rwordG_315 := ia_b rwordG_315
    have b_rnumberG_316 := ia_b rnumberG_316
    have b_y331 := ia_b y331
    have b_rletters := Int64.toInt_lt rletters
    have b_w116 := Int64.toInt_lt w116
    have b_rlettersG_288 := Int64.toInt_lt rlettersG_288
    have b_rlettersG_317 := Int64.toInt_lt rlettersG_317
    try have k_0 := ia_n 2 (by first | decide | omega)
    try have k_1 := ia_n (tK bt rlength rmostBytes (lrP (pLump bt rlength rmostBytes z106 z107 z108))) (by first | decide | omega)
    try have k_2 := ia_n 59 (by first | decide | omega)
    try have k_3 := ia_n 4 (by first | decide | omega)
    try simp only [ia_lt, ia_le, ia_eq, ia_m1, ia_0, ia_1, ne_eq, true_and, and_true, false_and, and_false, or_false, false_or, or_true, true_or, not_true_eq_false, not_false_eq_true] at *
    all_goals omega)
  have hW : tW bt rlength rmostBytes z106 = 2 := (RT_w jRT (by decide)).mp (by
    have kk2 := ia_n 2 (by decide)
    have b_rkind := ia_b rkind
    have b_rword := ia_b rword
    have b_rnumber := ia_b rnumber
    have b_x110 := ia_b x110
    have b_x112 := ia_b x112
    have b_x114 := ia_b x114
    have b_x115 := ia_b x115
    have b_x129 := ia_b x129
    have b_x130 := ia_b x130
    have b_x131 := ia_b x131
    have b_r151 := ia_b r151
    have b_rkindG_284 := ia_b rkindG_284
    have b_rwordG_286 := ia_b rwordG_286
    have b_rnumberG_287 := ia_b rnumberG_287
    have b_rkindG_313 := ia_b rkindG_313
    have b_rwordG_315 := ia_b rwordG_315
    have b_rnumberG_316 := ia_b rnumberG_316
    have b_y331 := ia_b y331
    have b_rletters := Int64.toInt_lt rletters
    have b_w116 := Int64.toInt_lt w116
    have b_rlettersG_288 := Int64.toInt_lt rlettersG_288
    have b_rlettersG_317 := Int64.toInt_lt rlettersG_317
    try have k_0 := ia_n 2 (by first | decide | omega)
    try have k_1 := ia_n (tK bt rlength rmostBytes (lrP (pLump bt rlength rmostBytes z106 z107 z108))) (by first | decide | omega)
    try have k_2 := ia_n 59 (by first | decide | omega)
    try have k_3 := ia_n 4 (by first | decide | omega)
    try simp only [ia_lt, ia_le, ia_eq, ia_m1, ia_0, ia_1, ne_eq, true_and, and_true, false_and, and_false, or_false, false_or, or_true, true_or, not_true_eq_false, not_false_eq_true] at *
    all_goals omega)
  have hL := ln2 (σ := z107) (ν := z108) hW
  have e9 : 1000 - k109 = (1000 - (k109 + 1)) + 1 := by omega
  have h59 : tK bt rlength rmostBytes (lrP (pLine bt rlength rmostBytes z106 z107 z108)) = 59 := by
    rw [hL]
    have h8 := ‹nI (tK bt rlength rmostBytes (lrP _)) = nI 59›
    have h7 := tK_le bt rlength rmostBytes (lrP (pLine bt rlength rmostBytes z106 z107 z108))
    rw [hL] at h7
    rw [ia_eq, ia_n _ (by omega), ia_n _ (by omega)] at h8
    omega
  have q := pL_step (f := 1000 - (k109 + 1)) (k := k109) hk0 (by rw [hL]; assumption) h59
  rw [hL] at q
  rw [jPL, e9]
  exact q
set_option maxRecDepth 20000 in
theorem lf_f_read_28 (bt : Nat → Nat) (rlength : Nat) (rmostBytes : Nat) (rplace : Nat) (rkind : Int32) (rbegin : Nat) (rword : Int32) (rnumber : Int32) (rletters : Int64) (rtapeF : Nat → Int32) (gp : Nat) (k109 : Nat) (x110 : Int32) (k111 : Nat) (x112 : Int32) (k113 : Nat) (x114 : Int32) (x115 : Int32) (w116 : Int64) (f119 : Nat → Int64) (f120 : Nat → Int32) (f121 : Nat → Int64) (f122 : Nat → Int32) (f123 : Nat → Int32) (f124 : Nat → Int32) (k127 : Nat) (k128 : Nat) (x129 : Int32) (x130 : Int32) (x131 : Int32) (k132 : Nat) (k133 : Nat) (f134 : Nat → Int32) (z106 : Nat) (z107 : Nat → Nat) (z108 : Nat → Nat) (n146 : Nat) (r151 : Int32) (rplaceG_283 : Nat) (rkindG_284 : Int32) (rbeginG_285 : Nat) (rwordG_286 : Int32) (rnumberG_287 : Int32) (rlettersG_288 : Int64) (lumpsG_291 : Nat) (lumpNamesG_292 : Nat → Int64) (lumpCellsG_293 : Nat → Int32) (rplaceG_312 : Nat) (rkindG_313 : Int32) (rbeginG_314 : Nat) (rwordG_315 : Int32) (rnumberG_316 : Int32) (rlettersG_317 : Int64) (y331 : Int32) (iv_rreader_0 : rlength ≤ 940) (iv_rreader_1 : rplace ≤ rlength) (iv_rreader_2 : rmostBytes ≤ 900) (iv_rreader_3 : rbegin ≤ 940) (hTC : TC bt rtapeF) (hRT : RT bt rlength rmostBytes gp rkind rbegin rplace rword rnumber rletters) (hgl : gp ≤ rlength) (j135 : k109 ≤ 900) (j136 : k111 ≤ 940) (j137 : k113 ≤ 940) (j138 : k111 ≤ rlength) (j139 : 2 ≤ k127) (j140 : k127 ≤ 6) (j141 : 2 ≤ k128) (j142 : k128 ≤ 6) (j143 : k132 ≤ 6) (j144 : k133 ≤ 6) (jRT : RT bt rlength rmostBytes z106 x112 k113 k111 x114 x115 w116) (jCS : CS z107 z108 k127 k128 x129 x130 x131 k132 k133 f134 f119 f120 f121 f122 f123 f124) (jSW : SW z107 z108) (jTB : TB x110 z107) (jPL : pLoop bt rlength rmostBytes 1000 gp s0 (fun _ => 0) 0 = pLoop bt rlength rmostBytes (1000 - k109) z106 z107 z108 k109) (j2k : 2 * k109 ≤ z106) (jLe : z106 ≤ rlength) (hm148 : 900 - k109 < n146 + 1) (c149 : k109 < 900) (c150 : ¬ x112 = 0) (p152 : r151 = x114) (c157 : r151 = nI 2) (p295 : rplaceG_283 ≤ rlength) (p296 : rbeginG_285 ≤ 940) (p297 : lumpsG_291 ≤ 6) (t298 : isO (pLump bt rlength rmostBytes z106 z107 z108) = true) (t299 : RT bt rlength rmostBytes (lrP (pLump bt rlength rmostBytes z106 z107 z108)) rkindG_284 rbeginG_285 rplaceG_283 rwordG_286 rnumberG_287 rlettersG_288) (t300 : CS (lrS (pLump bt rlength rmostBytes z106 z107 z108)) (lrN (pLump bt rlength rmostBytes z106 z107 z108)) k127 k128 x129 x130 x131 lumpsG_291 k133 f134 lumpNamesG_292 lumpCellsG_293 f121 f122 f123 f124) (t301 : SW (lrS (pLump bt rlength rmostBytes z106 z107 z108)) (lrN (pLump bt rlength rmostBytes z106 z107 z108))) (t304 : FLG 2 z107 (lrS (pLump bt rlength rmostBytes z106 z107 z108))) (p321 : rplaceG_312 ≤ rlength) (p322 : rbeginG_314 ≤ 940) (t323 : nI (tK bt rlength rmostBytes (lrP (pLump bt rlength rmostBytes z106 z107 z108))) = (nI 59)) (t324 : RT bt rlength rmostBytes (tT bt rlength rmostBytes (lrP (pLump bt rlength rmostBytes z106 z107 z108))) rkindG_313 rbeginG_314 rplaceG_312 rwordG_315 rnumberG_316 rlettersG_317) (e332 : y331 = x110 ||| (nI 4)) : 2 * (k109 + 1) ≤ (tT bt rlength rmostBytes (lrP (pLump bt rlength rmostBytes z106 z107 z108))) := by
  have hk0 : tK bt rlength rmostBytes z106 ≠ 0 := fun h9 => absurd ((RT_k jRT (by decide)).mpr h9) (by
    have kk0 := ia_n 0 (by decide)
    have b_rkind := ia_b rkind
    have b_rword := ia_b rword
    have b_rnumber := ia_b rnumber
    have b_x110 := ia_b x110
    have b_x112 := ia_b x112
    have b_x114 := ia_b x114
    have b_x115 := ia_b x115
    have b_x129 := ia_b x129
    have b_x130 := ia_b x130
    have b_x131 := ia_b x131
    have b_r151 := ia_b r151
    have b_rkindG_284 := ia_b rkindG_284
    have b_rwordG_286 := ia_b rwordG_286
    have b_rnumberG_287 := ia_b rnumberG_287
    have b_rkindG_313 := ia_b rkindG_313
    have b_rwordG_315 := ia_b rwordG_315
    have b_rnumberG_316 := ia_b rnumberG_316
    have b_y331 := ia_b y331
    have b_rletters := Int64.toInt_lt rletters
    have b_w116 := Int64.toInt_lt w116
    have b_rlettersG_288 := Int64.toInt_lt rlettersG_288
    have b_rlettersG_317 := Int64.toInt_lt rlettersG_317
    try have k_0 := ia_n 2 (by first | decide | omega)
    try have k_1 := ia_n (tK bt rlength rmostBytes (lrP (pLump bt rlength rmostBytes z106 z107 z108))) (by first | decide | omega)
    try have k_2 := ia_n 59 (by first | decide | omega)
    try have k_3 := ia_n 4 (by first | decide | omega)
    try simp only [ia_lt, ia_le, ia_eq, ia_m1, ia_0, ia_1, ne_eq, true_and, and_true, false_and, and_false, or_false, false_or, or_true, true_or, not_true_eq_false, not_false_eq_true] at *
    all_goals omega)
  have hW : tW bt rlength rmostBytes z106 = 2 := (RT_w jRT (by decide)).mp (by
    have kk2 := ia_n 2 (by decide)
    have b_rkind := ia_b rkind
    have b_rword := ia_b rword
    have b_rnumber := ia_b rnumber
    have b_x110 := ia_b x110
    have b_x112 := ia_b x112
    have b_x114 := ia_b x114
    have b_x115 := ia_b x115
    have b_x129 := ia_b x129
    have b_x130 := ia_b x130
    have b_x131 := ia_b x131
    have b_r151 := ia_b r151
    have b_rkindG_284 := ia_b rkindG_284
    have b_rwordG_286 := ia_b rwordG_286
    have b_rnumberG_287 := ia_b rnumberG_287
    have b_rkindG_313 := ia_b rkindG_313
    have b_rwordG_315 := ia_b rwordG_315
    have b_rnumberG_316 := ia_b rnumberG_316
    have b_y331 := ia_b y331
    have b_rletters := Int64.toInt_lt rletters
    have b_w116 := Int64.toInt_lt w116
    have b_rlettersG_288 := Int64.toInt_lt rlettersG_288
    have b_rlettersG_317 := Int64.toInt_lt rlettersG_317
    try have k_0 := ia_n 2 (by first | decide | omega)
    try have k_1 := ia_n (tK bt rlength rmostBytes (lrP (pLump bt rlength rmostBytes z106 z107 z108))) (by first | decide | omega)
    try have k_2 := ia_n 59 (by first | decide | omega)
    try have k_3 := ia_n 4 (by first | decide | omega)
    try simp only [ia_lt, ia_le, ia_eq, ia_m1, ia_0, ia_1, ne_eq, true_and, and_true, false_and, and_false, or_false, false_or, or_true, true_or, not_true_eq_false, not_false_eq_true] at *
    all_goals omega)
  have hL := ln2 (σ := z107) (ν := z108) hW
  have e9 : 1000 - k109 = (1000 - (k109 + 1)) + 1 := by omega
  have h59 : tK bt rlength rmostBytes (lrP (pLine bt rlength rmostBytes z106 z107 z108)) = 59 := by
    rw [hL]
    have h8 := ‹nI (tK bt rlength rmostBytes (lrP _)) = nI 59›
    have h7 := tK_le bt rlength rmostBytes (lrP (pLine bt rlength rmostBytes z106 z107 z108))
    rw [hL] at h7
    rw [ia_eq, ia_n _ (by omega), ia_n _ (by omega)] at h8
    omega
  have q := pLine_pos (B := bt) (m := rmostBytes) (σ := z107) (ν := z108) jLe (by rw [hL]; assumption)
  have q2 := tT_gt (B := bt) (n := rlength) (m := rmostBytes) (p := lrP (pLine bt rlength rmostBytes z106 z107 z108)) (by omega) (by omega)
  have q3 := tT_le (B := bt) rmostBytes q.2
  rw [hL] at q q2 q3
  omega
set_option maxRecDepth 20000 in
theorem lf_f_read_29 (bt : Nat → Nat) (rlength : Nat) (rmostBytes : Nat) (rplace : Nat) (rkind : Int32) (rbegin : Nat) (rword : Int32) (rnumber : Int32) (rletters : Int64) (rtapeF : Nat → Int32) (gp : Nat) (k109 : Nat) (x110 : Int32) (k111 : Nat) (x112 : Int32) (k113 : Nat) (x114 : Int32) (x115 : Int32) (w116 : Int64) (f119 : Nat → Int64) (f120 : Nat → Int32) (f121 : Nat → Int64) (f122 : Nat → Int32) (f123 : Nat → Int32) (f124 : Nat → Int32) (k127 : Nat) (k128 : Nat) (x129 : Int32) (x130 : Int32) (x131 : Int32) (k132 : Nat) (k133 : Nat) (f134 : Nat → Int32) (z106 : Nat) (z107 : Nat → Nat) (z108 : Nat → Nat) (n146 : Nat) (r151 : Int32) (rplaceG_283 : Nat) (rkindG_284 : Int32) (rbeginG_285 : Nat) (rwordG_286 : Int32) (rnumberG_287 : Int32) (rlettersG_288 : Int64) (lumpsG_291 : Nat) (lumpNamesG_292 : Nat → Int64) (lumpCellsG_293 : Nat → Int32) (rplaceG_312 : Nat) (rkindG_313 : Int32) (rbeginG_314 : Nat) (rwordG_315 : Int32) (rnumberG_316 : Int32) (rlettersG_317 : Int64) (y331 : Int32) (iv_rreader_0 : rlength ≤ 940) (iv_rreader_1 : rplace ≤ rlength) (iv_rreader_2 : rmostBytes ≤ 900) (iv_rreader_3 : rbegin ≤ 940) (hTC : TC bt rtapeF) (hRT : RT bt rlength rmostBytes gp rkind rbegin rplace rword rnumber rletters) (hgl : gp ≤ rlength) (j135 : k109 ≤ 900) (j136 : k111 ≤ 940) (j137 : k113 ≤ 940) (j138 : k111 ≤ rlength) (j139 : 2 ≤ k127) (j140 : k127 ≤ 6) (j141 : 2 ≤ k128) (j142 : k128 ≤ 6) (j143 : k132 ≤ 6) (j144 : k133 ≤ 6) (jRT : RT bt rlength rmostBytes z106 x112 k113 k111 x114 x115 w116) (jCS : CS z107 z108 k127 k128 x129 x130 x131 k132 k133 f134 f119 f120 f121 f122 f123 f124) (jSW : SW z107 z108) (jTB : TB x110 z107) (jPL : pLoop bt rlength rmostBytes 1000 gp s0 (fun _ => 0) 0 = pLoop bt rlength rmostBytes (1000 - k109) z106 z107 z108 k109) (j2k : 2 * k109 ≤ z106) (jLe : z106 ≤ rlength) (hm148 : 900 - k109 < n146 + 1) (c149 : k109 < 900) (c150 : ¬ x112 = 0) (p152 : r151 = x114) (c157 : r151 = nI 2) (p295 : rplaceG_283 ≤ rlength) (p296 : rbeginG_285 ≤ 940) (p297 : lumpsG_291 ≤ 6) (t298 : isO (pLump bt rlength rmostBytes z106 z107 z108) = true) (t299 : RT bt rlength rmostBytes (lrP (pLump bt rlength rmostBytes z106 z107 z108)) rkindG_284 rbeginG_285 rplaceG_283 rwordG_286 rnumberG_287 rlettersG_288) (t300 : CS (lrS (pLump bt rlength rmostBytes z106 z107 z108)) (lrN (pLump bt rlength rmostBytes z106 z107 z108)) k127 k128 x129 x130 x131 lumpsG_291 k133 f134 lumpNamesG_292 lumpCellsG_293 f121 f122 f123 f124) (t301 : SW (lrS (pLump bt rlength rmostBytes z106 z107 z108)) (lrN (pLump bt rlength rmostBytes z106 z107 z108))) (t304 : FLG 2 z107 (lrS (pLump bt rlength rmostBytes z106 z107 z108))) (p321 : rplaceG_312 ≤ rlength) (p322 : rbeginG_314 ≤ 940) (t323 : nI (tK bt rlength rmostBytes (lrP (pLump bt rlength rmostBytes z106 z107 z108))) = (nI 59)) (t324 : RT bt rlength rmostBytes (tT bt rlength rmostBytes (lrP (pLump bt rlength rmostBytes z106 z107 z108))) rkindG_313 rbeginG_314 rplaceG_312 rwordG_315 rnumberG_316 rlettersG_317) (e332 : y331 = x110 ||| (nI 4)) : (tT bt rlength rmostBytes (lrP (pLump bt rlength rmostBytes z106 z107 z108))) ≤ rlength := by
  have hk0 : tK bt rlength rmostBytes z106 ≠ 0 := fun h9 => absurd ((RT_k jRT (by decide)).mpr h9) (by
    have kk0 := ia_n 0 (by decide)
    have b_rkind := ia_b rkind
    have b_rword := ia_b rword
    have b_rnumber := ia_b rnumber
    have b_x110 := ia_b x110
    have b_x112 := ia_b x112
    have b_x114 := ia_b x114
    have b_x115 := ia_b x115
    have b_x129 := ia_b x129
    have b_x130 := ia_b x130
    have b_x131 := ia_b x131
    have b_r151 := ia_b r151
    have b_rkindG_284 := ia_b rkindG_284
    have b_rwordG_286 := ia_b rwordG_286
    have b_rnumberG_287 := ia_b rnumberG_287
    have b_rkindG_313 := ia_b rkindG_313
    have b_rwordG_315 := ia_b rwordG_315
    have b_rnumberG_316 := ia_b rnumberG_316
    have b_y331 := ia_b y331
    have b_rletters := Int64.toInt_lt rletters
    have b_w116 := Int64.toInt_lt w116
    have b_rlettersG_288 := Int64.toInt_lt rlettersG_288
    have b_rlettersG_317 := Int64.toInt_lt rlettersG_317
    try have k_0 := ia_n 2 (by first | decide | omega)
    try have k_1 := ia_n (tK bt rlength rmostBytes (lrP (pLump bt rlength rmostBytes z106 z107 z108))) (by first | decide | omega)
    try have k_2 := ia_n 59 (by first | decide | omega)
    try have k_3 := ia_n 4 (by first | decide | omega)
    try simp only [ia_lt, ia_le, ia_eq, ia_m1, ia_0, ia_1, ne_eq, true_and, and_true, false_and, and_false, or_false, false_or, or_true, true_or, not_true_eq_false, not_false_eq_true] at *
    all_goals omega)
  have hW : tW bt rlength rmostBytes z106 = 2 := (RT_w jRT (by decide)).mp (by
    have kk2 := ia_n 2 (by decide)
    have b_rkind := ia_b rkind
    have b_rword := ia_b rword
    have b_rnumber := ia_b rnumber
    have b_x110 := ia_b x110
    have b_x112 := ia_b x112
    have b_x114 := ia_b x114
    have b_x115 := ia_b x115
    have b_x129 := ia_b x129
    have b_x130 := ia_b x130
    have b_x131 := ia_b x131
    have b_r151 := ia_b r151
    have b_rkindG_284 := ia_b rkindG_284
    have b_rwordG_286 := ia_b rwordG_286
    have b_rnumberG_287 := ia_b rnumberG_287
    have b_rkindG_313 := ia_b rkindG_313
    have b_rwordG_315 := ia_b rwordG_315
    have b_rnumberG_316 := ia_b rnumberG_316
    have b_y331 := ia_b y331
    have b_rletters := Int64.toInt_lt rletters
    have b_w116 := Int64.toInt_lt w116
    have b_rlettersG_288 := Int64.toInt_lt rlettersG_288
    have b_rlettersG_317 := Int64.toInt_lt rlettersG_317
    try have k_0 := ia_n 2 (by first | decide | omega)
    try have k_1 := ia_n (tK bt rlength rmostBytes (lrP (pLump bt rlength rmostBytes z106 z107 z108))) (by first | decide | omega)
    try have k_2 := ia_n 59 (by first | decide | omega)
    try have k_3 := ia_n 4 (by first | decide | omega)
    try simp only [ia_lt, ia_le, ia_eq, ia_m1, ia_0, ia_1, ne_eq, true_and, and_true, false_and, and_false, or_false, false_or, or_true, true_or, not_true_eq_false, not_false_eq_true] at *
    all_goals omega)
  have hL := ln2 (σ := z107) (ν := z108) hW
  have e9 : 1000 - k109 = (1000 - (k109 + 1)) + 1 := by omega
  have h59 : tK bt rlength rmostBytes (lrP (pLine bt rlength rmostBytes z106 z107 z108)) = 59 := by
    rw [hL]
    have h8 := ‹nI (tK bt rlength rmostBytes (lrP _)) = nI 59›
    have h7 := tK_le bt rlength rmostBytes (lrP (pLine bt rlength rmostBytes z106 z107 z108))
    rw [hL] at h7
    rw [ia_eq, ia_n _ (by omega), ia_n _ (by omega)] at h8
    omega
  have q := pLine_pos (B := bt) (m := rmostBytes) (σ := z107) (ν := z108) jLe (by rw [hL]; assumption)
  have q2 := tT_gt (B := bt) (n := rlength) (m := rmostBytes) (p := lrP (pLine bt rlength rmostBytes z106 z107 z108)) (by omega) (by omega)
  have q3 := tT_le (B := bt) rmostBytes q.2
  rw [hL] at q q2 q3
  omega
set_option maxRecDepth 20000 in
theorem lf_f_read_30 (adK : Nat → Nat) (adV : Nat → Nat) (st : Nat) (qtoldWords : Int32) (bt : Nat → Nat) (reader : Nat) (rtape : Nat) (rlength : Nat) (rmostBytes : Nat) (rplace : Nat) (rkind : Int32) (rbegin : Nat) (rword : Int32) (rnumber : Int32) (rletters : Int64) (rfaultKind : Int32) (rfaultPlace : Int32) (rtapeF : Nat → Int32) (a : Nat) (wide : Nat) (high : Nat) (heat : Int32) (cools : Int32) (skinHeat : Int32) (today : Int32) (stirs : Int32) (steps : Int32) (lumps : Nat) (boats : Nat) (thickness : Nat) (lumpNames : Nat) (lumpCells : Nat) (boatNames : Nat) (boatCells : Nat) (loads : Nat) (spoons : Nat) (spoonsLeft : Nat) (depths : Nat) (thicknessF : Nat → Int32) (lumpNamesF : Nat → Int64) (lumpCellsF : Nat → Int32) (boatNamesF : Nat → Int64) (boatCellsF : Nat → Int32) (loadsF : Nat → Int32) (spoonsF : Nat → Int32) (spoonsLeftF : Nat → Int32) (depthsF : Nat → Int32) (gp : Nat) (wideG_3 : Nat) (highG_4 : Nat) (heatG_5 : Int32) (coolsG_6 : Int32) (skinHeatG_7 : Int32) (todayG_8 : Int32) (stirsG_9 : Int32) (stepsG_10 : Int32) (lumpsG_11 : Nat) (boatsG_12 : Nat) (thicknessG_13 : Nat → Int32) (k109 : Nat) (x110 : Int32) (k111 : Nat) (x112 : Int32) (k113 : Nat) (x114 : Int32) (x115 : Int32) (w116 : Int64) (x117 : Int32) (x118 : Int32) (f119 : Nat → Int64) (f120 : Nat → Int32) (f121 : Nat → Int64) (f122 : Nat → Int32) (f123 : Nat → Int32) (f124 : Nat → Int32) (f125 : Nat → Int32) (f126 : Nat → Int32) (k127 : Nat) (k128 : Nat) (x129 : Int32) (x130 : Int32) (x131 : Int32) (k132 : Nat) (k133 : Nat) (f134 : Nat → Int32) (z106 : Nat) (z107 : Nat → Nat) (z108 : Nat → Nat) (n146 : Nat) (r151 : Int32) (rplaceG_283 : Nat) (rkindG_284 : Int32) (rbeginG_285 : Nat) (rwordG_286 : Int32) (rnumberG_287 : Int32) (rlettersG_288 : Int64) (rfaultKindG_289 : Int32) (rfaultPlaceG_290 : Int32) (lumpsG_291 : Nat) (lumpNamesG_292 : Nat → Int64) (lumpCellsG_293 : Nat → Int32) (rplaceG_312 : Nat) (rkindG_313 : Int32) (rbeginG_314 : Nat) (rwordG_315 : Int32) (rnumberG_316 : Int32) (rlettersG_317 : Int64) (rfaultKindG_318 : Int32) (rfaultPlaceG_319 : Int32) (y331 : Int32) (iv_rreader_0 : rlength ≤ 940) (iv_rreader_1 : rplace ≤ rlength) (iv_rreader_2 : rmostBytes ≤ 900) (iv_rreader_3 : rbegin ≤ 940) (hTC : TC bt rtapeF) (iv_a_0 : 2 ≤ wide) (iv_a_1 : wide ≤ 6) (iv_a_2 : 2 ≤ high) (iv_a_3 : high ≤ 6) (iv_a_4 : lumps ≤ 6) (iv_a_5 : boats ≤ 6) (hRT : RT bt rlength rmostBytes gp rkind rbegin rplace rword rnumber rletters) (hgl : gp ≤ rlength) (p14 : 2 ≤ wideG_3) (p15 : wideG_3 ≤ 6) (p16 : 2 ≤ highG_4) (p17 : highG_4 ≤ 6) (p18 : lumpsG_11 ≤ 6) (p19 : boatsG_12 ≤ 6) (p20 : wideG_3 = 4) (p21 : highG_4 = 4) (p22 : heatG_5 = nI 10) (p23 : coolsG_6 = nI 1) (p24 : skinHeatG_7 = nI 3) (p25 : lumpsG_11 = 0) (p26 : boatsG_12 = 0) (p27 : ∀ c, c < 36 → thicknessG_13 c = nI 0) (j135 : k109 ≤ 900) (j136 : k111 ≤ 940) (j137 : k113 ≤ 940) (j138 : k111 ≤ rlength) (j139 : 2 ≤ k127) (j140 : k127 ≤ 6) (j141 : 2 ≤ k128) (j142 : k128 ≤ 6) (j143 : k132 ≤ 6) (j144 : k133 ≤ 6) (jRT : RT bt rlength rmostBytes z106 x112 k113 k111 x114 x115 w116) (jCS : CS z107 z108 k127 k128 x129 x130 x131 k132 k133 f134 f119 f120 f121 f122 f123 f124) (jSW : SW z107 z108) (jTB : TB x110 z107) (jPL : pLoop bt rlength rmostBytes 1000 gp s0 (fun _ => 0) 0 = pLoop bt rlength rmostBytes (1000 - k109) z106 z107 z108 k109) (j2k : 2 * k109 ≤ z106) (jLe : z106 ≤ rlength) (jFk : x117 = rfaultKind) (hm148 : 900 - k109 < n146 + 1) (c149 : k109 < 900) (c150 : ¬ x112 = 0) (p152 : r151 = x114) (c157 : r151 = nI 2) (p295 : rplaceG_283 ≤ rlength) (p296 : rbeginG_285 ≤ 940) (p297 : lumpsG_291 ≤ 6) (t298 : isO (pLump bt rlength rmostBytes z106 z107 z108) = true) (t299 : RT bt rlength rmostBytes (lrP (pLump bt rlength rmostBytes z106 z107 z108)) rkindG_284 rbeginG_285 rplaceG_283 rwordG_286 rnumberG_287 rlettersG_288) (t300 : CS (lrS (pLump bt rlength rmostBytes z106 z107 z108)) (lrN (pLump bt rlength rmostBytes z106 z107 z108)) k127 k128 x129 x130 x131 lumpsG_291 k133 f134 lumpNamesG_292 lumpCellsG_293 f121 f122 f123 f124) (t301 : SW (lrS (pLump bt rlength rmostBytes z106 z107 z108)) (lrN (pLump bt rlength rmostBytes z106 z107 z108))) (t302 : rfaultKindG_289 = x117) (t303 : rfaultPlaceG_290 = x118) (t304 : FLG 2 z107 (lrS (pLump bt rlength rmostBytes z106 z107 z108))) (p321 : rplaceG_312 ≤ rlength) (p322 : rbeginG_314 ≤ 940) (t323 : nI (tK bt rlength rmostBytes (lrP (pLump bt rlength rmostBytes z106 z107 z108))) = (nI 59)) (t324 : RT bt rlength rmostBytes (tT bt rlength rmostBytes (lrP (pLump bt rlength rmostBytes z106 z107 z108))) rkindG_313 rbeginG_314 rplaceG_312 rwordG_315 rnumberG_316 rlettersG_317) (t325 : rfaultKindG_318 = rfaultKindG_289) (t326 : rfaultPlaceG_319 = rfaultPlaceG_290) (e332 : y331 = x110 ||| (nI 4)) : rfaultKindG_318 = rfaultKind := by
  subst_vars
  first
    | rfl
    | assumption
set_option maxRecDepth 20000 in
theorem lf_f_read_31 (bt : Nat → Nat) (rlength : Nat) (rmostBytes : Nat) (rplace : Nat) (rkind : Int32) (rbegin : Nat) (rword : Int32) (rnumber : Int32) (rletters : Int64) (rtapeF : Nat → Int32) (gp : Nat) (k109 : Nat) (x110 : Int32) (k111 : Nat) (x112 : Int32) (k113 : Nat) (x114 : Int32) (x115 : Int32) (w116 : Int64) (f119 : Nat → Int64) (f120 : Nat → Int32) (f121 : Nat → Int64) (f122 : Nat → Int32) (f123 : Nat → Int32) (f124 : Nat → Int32) (k127 : Nat) (k128 : Nat) (x129 : Int32) (x130 : Int32) (x131 : Int32) (k132 : Nat) (k133 : Nat) (f134 : Nat → Int32) (z106 : Nat) (z107 : Nat → Nat) (z108 : Nat → Nat) (n146 : Nat) (r151 : Int32) (rplaceG_283 : Nat) (rkindG_284 : Int32) (rbeginG_285 : Nat) (rwordG_286 : Int32) (rnumberG_287 : Int32) (rlettersG_288 : Int64) (lumpsG_291 : Nat) (lumpNamesG_292 : Nat → Int64) (lumpCellsG_293 : Nat → Int32) (rplaceG_312 : Nat) (rkindG_313 : Int32) (rbeginG_314 : Nat) (rwordG_315 : Int32) (rnumberG_316 : Int32) (rlettersG_317 : Int64) (y331 : Int32) (iv_rreader_0 : rlength ≤ 940) (iv_rreader_1 : rplace ≤ rlength) (iv_rreader_2 : rmostBytes ≤ 900) (iv_rreader_3 : rbegin ≤ 940) (hTC : TC bt rtapeF) (hRT : RT bt rlength rmostBytes gp rkind rbegin rplace rword rnumber rletters) (hgl : gp ≤ rlength) (j135 : k109 ≤ 900) (j136 : k111 ≤ 940) (j137 : k113 ≤ 940) (j138 : k111 ≤ rlength) (j139 : 2 ≤ k127) (j140 : k127 ≤ 6) (j141 : 2 ≤ k128) (j142 : k128 ≤ 6) (j143 : k132 ≤ 6) (j144 : k133 ≤ 6) (jRT : RT bt rlength rmostBytes z106 x112 k113 k111 x114 x115 w116) (jCS : CS z107 z108 k127 k128 x129 x130 x131 k132 k133 f134 f119 f120 f121 f122 f123 f124) (jSW : SW z107 z108) (jTB : TB x110 z107) (jPL : pLoop bt rlength rmostBytes 1000 gp s0 (fun _ => 0) 0 = pLoop bt rlength rmostBytes (1000 - k109) z106 z107 z108 k109) (j2k : 2 * k109 ≤ z106) (jLe : z106 ≤ rlength) (hm148 : 900 - k109 < n146 + 1) (c149 : k109 < 900) (c150 : ¬ x112 = 0) (p152 : r151 = x114) (c157 : r151 = nI 2) (p295 : rplaceG_283 ≤ rlength) (p296 : rbeginG_285 ≤ 940) (p297 : lumpsG_291 ≤ 6) (t298 : isO (pLump bt rlength rmostBytes z106 z107 z108) = true) (t299 : RT bt rlength rmostBytes (lrP (pLump bt rlength rmostBytes z106 z107 z108)) rkindG_284 rbeginG_285 rplaceG_283 rwordG_286 rnumberG_287 rlettersG_288) (t300 : CS (lrS (pLump bt rlength rmostBytes z106 z107 z108)) (lrN (pLump bt rlength rmostBytes z106 z107 z108)) k127 k128 x129 x130 x131 lumpsG_291 k133 f134 lumpNamesG_292 lumpCellsG_293 f121 f122 f123 f124) (t301 : SW (lrS (pLump bt rlength rmostBytes z106 z107 z108)) (lrN (pLump bt rlength rmostBytes z106 z107 z108))) (t304 : FLG 2 z107 (lrS (pLump bt rlength rmostBytes z106 z107 z108))) (p321 : rplaceG_312 ≤ rlength) (p322 : rbeginG_314 ≤ 940) (t323 : nI (tK bt rlength rmostBytes (lrP (pLump bt rlength rmostBytes z106 z107 z108))) = (nI 59)) (t324 : RT bt rlength rmostBytes (tT bt rlength rmostBytes (lrP (pLump bt rlength rmostBytes z106 z107 z108))) rkindG_313 rbeginG_314 rplaceG_312 rwordG_315 rnumberG_316 rlettersG_317) (e332 : y331 = x110 ||| (nI 4)) : 900 - (k109 + 1) < n146 := by
  have b_rkind := ia_b rkind
  have b_rword := ia_b rword
  have b_rnumber := ia_b rnumber
  have b_x110 := ia_b x110
  have b_x112 := ia_b x112
  have b_x114 := ia_b x114
  have b_x115 := ia_b x115
  have b_x129 := ia_b x129
  have b_x130 := ia_b x130
  have b_x131 := ia_b x131
  have b_r151 := ia_b r151
  have b_rkindG_284 := ia_b rkindG_284
  have b_rwordG_286 := ia_b rwordG_286
  have b_rnumberG_287 := ia_b rnumberG_287
  have b_rkindG_313 := ia_b rkindG_313
  have b_rwordG_315 := ia_b rwordG_315
  have b_rnumberG_316 := ia_b rnumberG_316
  have b_y331 := ia_b y331
  have b_rletters := Int64.toInt_lt rletters
  have b_w116 := Int64.toInt_lt w116
  have b_rlettersG_288 := Int64.toInt_lt rlettersG_288
  have b_rlettersG_317 := Int64.toInt_lt rlettersG_317
  try have k_0 := ia_n 2 (by first | decide | omega)
  try have k_1 := ia_n (tK bt rlength rmostBytes (lrP (pLump bt rlength rmostBytes z106 z107 z108))) (by first | decide | omega)
  try have k_2 := ia_n 59 (by first | decide | omega)
  try have k_3 := ia_n 4 (by first | decide | omega)
  try simp only [ia_lt, ia_le, ia_eq, ia_m1, ia_0, ia_1, ne_eq, true_and, and_true, false_and, and_false, or_false, false_or, or_true, true_or, not_true_eq_false, not_false_eq_true] at *
  all_goals omega
set_option maxRecDepth 20000 in
theorem lf_f_read_32 (bt : Nat → Nat) (rlength : Nat) (rmostBytes : Nat) (rplace : Nat) (rkind : Int32) (rbegin : Nat) (rword : Int32) (rnumber : Int32) (rletters : Int64) (rtapeF : Nat → Int32) (gp : Nat) (k109 : Nat) (x110 : Int32) (k111 : Nat) (x112 : Int32) (k113 : Nat) (x114 : Int32) (x115 : Int32) (w116 : Int64) (f119 : Nat → Int64) (f120 : Nat → Int32) (f121 : Nat → Int64) (f122 : Nat → Int32) (f123 : Nat → Int32) (f124 : Nat → Int32) (k127 : Nat) (k128 : Nat) (x129 : Int32) (x130 : Int32) (x131 : Int32) (k132 : Nat) (k133 : Nat) (f134 : Nat → Int32) (z106 : Nat) (z107 : Nat → Nat) (z108 : Nat → Nat) (n146 : Nat) (r151 : Int32) (rplaceG_283 : Nat) (rkindG_284 : Int32) (rbeginG_285 : Nat) (rwordG_286 : Int32) (rnumberG_287 : Int32) (rlettersG_288 : Int64) (lumpsG_291 : Nat) (lumpNamesG_292 : Nat → Int64) (lumpCellsG_293 : Nat → Int32) (rplaceG_312 : Nat) (rfaultKindG_318 : Int32) (rfaultPlaceG_319 : Int32) (iv_rreader_0 : rlength ≤ 940) (iv_rreader_1 : rplace ≤ rlength) (iv_rreader_2 : rmostBytes ≤ 900) (iv_rreader_3 : rbegin ≤ 940) (hTC : TC bt rtapeF) (hRT : RT bt rlength rmostBytes gp rkind rbegin rplace rword rnumber rletters) (hgl : gp ≤ rlength) (j135 : k109 ≤ 900) (j136 : k111 ≤ 940) (j137 : k113 ≤ 940) (j138 : k111 ≤ rlength) (j139 : 2 ≤ k127) (j140 : k127 ≤ 6) (j141 : 2 ≤ k128) (j142 : k128 ≤ 6) (j143 : k132 ≤ 6) (j144 : k133 ≤ 6) (jRT : RT bt rlength rmostBytes z106 x112 k113 k111 x114 x115 w116) (jCS : CS z107 z108 k127 k128 x129 x130 x131 k132 k133 f134 f119 f120 f121 f122 f123 f124) (jSW : SW z107 z108) (jTB : TB x110 z107) (jPL : pLoop bt rlength rmostBytes 1000 gp s0 (fun _ => 0) 0 = pLoop bt rlength rmostBytes (1000 - k109) z106 z107 z108 k109) (j2k : 2 * k109 ≤ z106) (jLe : z106 ≤ rlength) (hm148 : 900 - k109 < n146 + 1) (c149 : k109 < 900) (c150 : ¬ x112 = 0) (p152 : r151 = x114) (c157 : r151 = nI 2) (p295 : rplaceG_283 ≤ rlength) (p296 : rbeginG_285 ≤ 940) (p297 : lumpsG_291 ≤ 6) (t298 : isO (pLump bt rlength rmostBytes z106 z107 z108) = true) (t299 : RT bt rlength rmostBytes (lrP (pLump bt rlength rmostBytes z106 z107 z108)) rkindG_284 rbeginG_285 rplaceG_283 rwordG_286 rnumberG_287 rlettersG_288) (t300 : CS (lrS (pLump bt rlength rmostBytes z106 z107 z108)) (lrN (pLump bt rlength rmostBytes z106 z107 z108)) k127 k128 x129 x130 x131 lumpsG_291 k133 f134 lumpNamesG_292 lumpCellsG_293 f121 f122 f123 f124) (t301 : SW (lrS (pLump bt rlength rmostBytes z106 z107 z108)) (lrN (pLump bt rlength rmostBytes z106 z107 z108))) (t304 : FLG 2 z107 (lrS (pLump bt rlength rmostBytes z106 z107 z108))) (p321 : rplaceG_312 ≤ rlength) (t327 : ¬ nI (tK bt rlength rmostBytes (lrP (pLump bt rlength rmostBytes z106 z107 z108))) = (nI 59)) (t328 : rfaultKindG_318 = nI 1) (t329 : rfaultPlaceG_319 = nI (tF bt rlength rmostBytes (lrP (pLump bt rlength rmostBytes z106 z107 z108)))) : isO (pLoop bt rlength rmostBytes 1000 gp s0 (fun _ => 0) 0) = false ∧ rfaultKindG_318 = nI (erA (pLoop bt rlength rmostBytes 1000 gp s0 (fun _ => 0) 0)) ∧ rfaultPlaceG_319 = nI (erB (pLoop bt rlength rmostBytes 1000 gp s0 (fun _ => 0) 0)) := by
  have hk0 : tK bt rlength rmostBytes z106 ≠ 0 := fun h9 => absurd ((RT_k jRT (by decide)).mpr h9) (by
    have kk0 := ia_n 0 (by decide)
    have b_rkind := ia_b rkind
    have b_rword := ia_b rword
    have b_rnumber := ia_b rnumber
    have b_x110 := ia_b x110
    have b_x112 := ia_b x112
    have b_x114 := ia_b x114
    have b_x115 := ia_b x115
    have b_x129 := ia_b x129
    have b_x130 := ia_b x130
    have b_x131 := ia_b x131
    have b_r151 := ia_b r151
    have b_rkindG_284 := ia_b rkindG_284
    have b_rwordG_286 := ia_b rwordG_286
    have b_rnumberG_287 := ia_b rnumberG_287
    have b_rfaultKindG_318 := ia_b rfaultKindG_318
    have b_rfaultPlaceG_319 := ia_b rfaultPlaceG_319
    have b_rletters := Int64.toInt_lt rletters
    have b_w116 := Int64.toInt_lt w116
    have b_rlettersG_288 := Int64.toInt_lt rlettersG_288
    try have k_0 := ia_n 2 (by first | decide | omega)
    try have k_1 := ia_n (tK bt rlength rmostBytes (lrP (pLump bt rlength rmostBytes z106 z107 z108))) (by first | decide | omega)
    try have k_2 := ia_n 59 (by first | decide | omega)
    try have k_3 := ia_n 1 (by first | decide | omega)
    try have k_4 := ia_n (tF bt rlength rmostBytes (lrP (pLump bt rlength rmostBytes z106 z107 z108))) (by first | decide | omega)
    try have k_5 := ia_n (erA (pLoop bt rlength rmostBytes 1000 gp s0 (fun _ => 0) 0)) (by first | decide | omega)
    try have k_6 := ia_n (erB (pLoop bt rlength rmostBytes 1000 gp s0 (fun _ => 0) 0)) (by first | decide | omega)
    try simp only [ia_lt, ia_le, ia_eq, ia_m1, ia_0, ia_1, ne_eq, true_and, and_true, false_and, and_false, or_false, false_or, or_true, true_or, not_true_eq_false, not_false_eq_true] at *
    all_goals omega)
  have hW : tW bt rlength rmostBytes z106 = 2 := (RT_w jRT (by decide)).mp (by
    have kk2 := ia_n 2 (by decide)
    have b_rkind := ia_b rkind
    have b_rword := ia_b rword
    have b_rnumber := ia_b rnumber
    have b_x110 := ia_b x110
    have b_x112 := ia_b x112
    have b_x114 := ia_b x114
    have b_x115 := ia_b x115
    have b_x129 := ia_b x129
    have b_x130 := ia_b x130
    have b_x131 := ia_b x131
    have b_r151 := ia_b r151
    have b_rkindG_284 := ia_b rkindG_284
    have b_rwordG_286 := ia_b rwordG_286
    have b_rnumberG_287 := ia_b rnumberG_287
    have b_rfaultKindG_318 := ia_b rfaultKindG_318
    have b_rfaultPlaceG_319 := ia_b rfaultPlaceG_319
    have b_rletters := Int64.toInt_lt rletters
    have b_w116 := Int64.toInt_lt w116
    have b_rlettersG_288 := Int64.toInt_lt rlettersG_288
    try have k_0 := ia_n 2 (by first | decide | omega)
    try have k_1 := ia_n (tK bt rlength rmostBytes (lrP (pLump bt rlength rmostBytes z106 z107 z108))) (by first | decide | omega)
    try have k_2 := ia_n 59 (by first | decide | omega)
    try have k_3 := ia_n 1 (by first | decide | omega)
    try have k_4 := ia_n (tF bt rlength rmostBytes (lrP (pLump bt rlength rmostBytes z106 z107 z108))) (by first | decide | omega)
    try have k_5 := ia_n (erA (pLoop bt rlength rmostBytes 1000 gp s0 (fun _ => 0) 0)) (by first | decide | omega)
    try have k_6 := ia_n (erB (pLoop bt rlength rmostBytes 1000 gp s0 (fun _ => 0) 0)) (by first | decide | omega)
    try simp only [ia_lt, ia_le, ia_eq, ia_m1, ia_0, ia_1, ne_eq, true_and, and_true, false_and, and_false, or_false, false_or, or_true, true_or, not_true_eq_false, not_false_eq_true] at *
    all_goals omega)
  have hL := ln2 (σ := z107) (ν := z108) hW
  have e9 : 1000 - k109 = (1000 - (k109 + 1)) + 1 := by omega
  have h59 : ¬ tK bt rlength rmostBytes (lrP (pLine bt rlength rmostBytes z106 z107 z108)) = 59 := by
    rw [hL]
    have h8 := ‹¬ nI (tK bt rlength rmostBytes (lrP _)) = nI 59›
    have h7 := tK_le bt rlength rmostBytes (lrP (pLine bt rlength rmostBytes z106 z107 z108))
    rw [hL] at h7
    rw [ia_eq, ia_n _ (by omega), ia_n _ (by omega)] at h8
    omega
  have q := pL_sgn (f := 1000 - (k109 + 1)) (k := k109) hk0 (by rw [hL]; assumption) h59
  rw [hL] at q
  rw [jPL, e9, q]
  exact ⟨rfl, ‹_›, ‹_›⟩
set_option maxRecDepth 20000 in
theorem lf_f_read_33 (bt : Nat → Nat) (rlength : Nat) (rmostBytes : Nat) (rplace : Nat) (rkind : Int32) (rbegin : Nat) (rword : Int32) (rnumber : Int32) (rletters : Int64) (rtapeF : Nat → Int32) (gp : Nat) (k109 : Nat) (x110 : Int32) (k111 : Nat) (x112 : Int32) (k113 : Nat) (x114 : Int32) (x115 : Int32) (w116 : Int64) (f119 : Nat → Int64) (f120 : Nat → Int32) (f121 : Nat → Int64) (f122 : Nat → Int32) (f123 : Nat → Int32) (f124 : Nat → Int32) (k127 : Nat) (k128 : Nat) (x129 : Int32) (x130 : Int32) (x131 : Int32) (k132 : Nat) (k133 : Nat) (f134 : Nat → Int32) (z106 : Nat) (z107 : Nat → Nat) (z108 : Nat → Nat) (n146 : Nat) (r151 : Int32) (rplaceG_283 : Nat) (rfaultKindG_289 : Int32) (rfaultPlaceG_290 : Int32) (iv_rreader_0 : rlength ≤ 940) (iv_rreader_1 : rplace ≤ rlength) (iv_rreader_2 : rmostBytes ≤ 900) (iv_rreader_3 : rbegin ≤ 940) (hTC : TC bt rtapeF) (hRT : RT bt rlength rmostBytes gp rkind rbegin rplace rword rnumber rletters) (hgl : gp ≤ rlength) (j135 : k109 ≤ 900) (j136 : k111 ≤ 940) (j137 : k113 ≤ 940) (j138 : k111 ≤ rlength) (j139 : 2 ≤ k127) (j140 : k127 ≤ 6) (j141 : 2 ≤ k128) (j142 : k128 ≤ 6) (j143 : k132 ≤ 6) (j144 : k133 ≤ 6) (jRT : RT bt rlength rmostBytes z106 x112 k113 k111 x114 x115 w116) (jCS : CS z107 z108 k127 k128 x129 x130 x131 k132 k133 f134 f119 f120 f121 f122 f123 f124) (jSW : SW z107 z108) (jTB : TB x110 z107) (jPL : pLoop bt rlength rmostBytes 1000 gp s0 (fun _ => 0) 0 = pLoop bt rlength rmostBytes (1000 - k109) z106 z107 z108 k109) (j2k : 2 * k109 ≤ z106) (jLe : z106 ≤ rlength) (hm148 : 900 - k109 < n146 + 1) (c149 : k109 < 900) (c150 : ¬ x112 = 0) (p152 : r151 = x114) (c157 : r151 = nI 2) (p295 : rplaceG_283 ≤ rlength) (t305 : isO (pLump bt rlength rmostBytes z106 z107 z108) = false) (t306 : rfaultKindG_289 = nI (erA (pLump bt rlength rmostBytes z106 z107 z108))) (t307 : rfaultPlaceG_290 = nI (erB (pLump bt rlength rmostBytes z106 z107 z108))) : isO (pLoop bt rlength rmostBytes 1000 gp s0 (fun _ => 0) 0) = false ∧ rfaultKindG_289 = nI (erA (pLoop bt rlength rmostBytes 1000 gp s0 (fun _ => 0) 0)) ∧ rfaultPlaceG_290 = nI (erB (pLoop bt rlength rmostBytes 1000 gp s0 (fun _ => 0) 0)) := by
  have hk0 : tK bt rlength rmostBytes z106 ≠ 0 := fun h9 => absurd ((RT_k jRT (by decide)).mpr h9) (by
    have kk0 := ia_n 0 (by decide)
    have b_rkind := ia_b rkind
    have b_rword := ia_b rword
    have b_rnumber := ia_b rnumber
    have b_x110 := ia_b x110
    have b_x112 := ia_b x112
    have b_x114 := ia_b x114
    have b_x115 := ia_b x115
    have b_x129 := ia_b x129
    have b_x130 := ia_b x130
    have b_x131 := ia_b x131
    have b_r151 := ia_b r151
    have b_rfaultKindG_289 := ia_b rfaultKindG_289
    have b_rfaultPlaceG_290 := ia_b rfaultPlaceG_290
    have b_rletters := Int64.toInt_lt rletters
    have b_w116 := Int64.toInt_lt w116
    try have k_0 := ia_n 2 (by first | decide | omega)
    try have k_1 := ia_n (erA (pLump bt rlength rmostBytes z106 z107 z108)) (by first | decide | omega)
    try have k_2 := ia_n (erB (pLump bt rlength rmostBytes z106 z107 z108)) (by first | decide | omega)
    try have k_3 := ia_n (erA (pLoop bt rlength rmostBytes 1000 gp s0 (fun _ => 0) 0)) (by first | decide | omega)
    try have k_4 := ia_n (erB (pLoop bt rlength rmostBytes 1000 gp s0 (fun _ => 0) 0)) (by first | decide | omega)
    try simp only [ia_lt, ia_le, ia_eq, ia_m1, ia_0, ia_1, ne_eq, true_and, and_true, false_and, and_false, or_false, false_or, or_true, true_or, not_true_eq_false, not_false_eq_true] at *
    all_goals omega)
  have hW : tW bt rlength rmostBytes z106 = 2 := (RT_w jRT (by decide)).mp (by
    have kk2 := ia_n 2 (by decide)
    have b_rkind := ia_b rkind
    have b_rword := ia_b rword
    have b_rnumber := ia_b rnumber
    have b_x110 := ia_b x110
    have b_x112 := ia_b x112
    have b_x114 := ia_b x114
    have b_x115 := ia_b x115
    have b_x129 := ia_b x129
    have b_x130 := ia_b x130
    have b_x131 := ia_b x131
    have b_r151 := ia_b r151
    have b_rfaultKindG_289 := ia_b rfaultKindG_289
    have b_rfaultPlaceG_290 := ia_b rfaultPlaceG_290
    have b_rletters := Int64.toInt_lt rletters
    have b_w116 := Int64.toInt_lt w116
    try have k_0 := ia_n 2 (by first | decide | omega)
    try have k_1 := ia_n (erA (pLump bt rlength rmostBytes z106 z107 z108)) (by first | decide | omega)
    try have k_2 := ia_n (erB (pLump bt rlength rmostBytes z106 z107 z108)) (by first | decide | omega)
    try have k_3 := ia_n (erA (pLoop bt rlength rmostBytes 1000 gp s0 (fun _ => 0) 0)) (by first | decide | omega)
    try have k_4 := ia_n (erB (pLoop bt rlength rmostBytes 1000 gp s0 (fun _ => 0) 0)) (by first | decide | omega)
    try simp only [ia_lt, ia_le, ia_eq, ia_m1, ia_0, ia_1, ne_eq, true_and, and_true, false_and, and_false, or_false, false_or, or_true, true_or, not_true_eq_false, not_false_eq_true] at *
    all_goals omega)
  have hL := ln2 (σ := z107) (ν := z108) hW
  have e9 : 1000 - k109 = (1000 - (k109 + 1)) + 1 := by omega
  have q := pL_err (f := 1000 - (k109 + 1)) (k := k109) hk0 (by rw [hL]; assumption)
  rw [hL] at q
  rw [jPL, e9, q]
  exact ⟨rfl, ‹_›, ‹_›⟩
set_option maxRecDepth 20000 in
theorem lf_f_read_34 (bt : Nat → Nat) (rlength : Nat) (rmostBytes : Nat) (rplace : Nat) (rkind : Int32) (rbegin : Nat) (rword : Int32) (rnumber : Int32) (rletters : Int64) (rtapeF : Nat → Int32) (gp : Nat) (k109 : Nat) (x110 : Int32) (k111 : Nat) (x112 : Int32) (k113 : Nat) (x114 : Int32) (x115 : Int32) (w116 : Int64) (f119 : Nat → Int64) (f120 : Nat → Int32) (f121 : Nat → Int64) (f122 : Nat → Int32) (f123 : Nat → Int32) (f124 : Nat → Int32) (k127 : Nat) (k128 : Nat) (x129 : Int32) (x130 : Int32) (x131 : Int32) (k132 : Nat) (k133 : Nat) (f134 : Nat → Int32) (z106 : Nat) (z107 : Nat → Nat) (z108 : Nat → Nat) (n146 : Nat) (r151 : Int32) (rplaceG_338 : Nat) (rkindG_339 : Int32) (rbeginG_340 : Nat) (rwordG_341 : Int32) (rnumberG_342 : Int32) (rlettersG_343 : Int64) (boatsG_346 : Nat) (boatNamesG_347 : Nat → Int64) (boatCellsG_348 : Nat → Int32) (loadsG_349 : Nat → Int32) (spoonsG_350 : Nat → Int32) (rplaceG_371 : Nat) (rkindG_372 : Int32) (rbeginG_373 : Nat) (rwordG_374 : Int32) (rnumberG_375 : Int32) (rlettersG_376 : Int64) (y390 : Int32) (iv_rreader_0 : rlength ≤ 940) (iv_rreader_1 : rplace ≤ rlength) (iv_rreader_2 : rmostBytes ≤ 900) (iv_rreader_3 : rbegin ≤ 940) (hTC : TC bt rtapeF) (hRT : RT bt rlength rmostBytes gp rkind rbegin rplace rword rnumber rletters) (hgl : gp ≤ rlength) (j135 : k109 ≤ 900) (j136 : k111 ≤ 940) (j137 : k113 ≤ 940) (j138 : k111 ≤ rlength) (j139 : 2 ≤ k127) (j140 : k127 ≤ 6) (j141 : 2 ≤ k128) (j142 : k128 ≤ 6) (j143 : k132 ≤ 6) (j144 : k133 ≤ 6) (jRT : RT bt rlength rmostBytes z106 x112 k113 k111 x114 x115 w116) (jCS : CS z107 z108 k127 k128 x129 x130 x131 k132 k133 f134 f119 f120 f121 f122 f123 f124) (jSW : SW z107 z108) (jTB : TB x110 z107) (jPL : pLoop bt rlength rmostBytes 1000 gp s0 (fun _ => 0) 0 = pLoop bt rlength rmostBytes (1000 - k109) z106 z107 z108 k109) (j2k : 2 * k109 ≤ z106) (jLe : z106 ≤ rlength) (hm148 : 900 - k109 < n146 + 1) (c149 : k109 < 900) (c150 : ¬ x112 = 0) (p152 : r151 = x114) (c158 : r151 = nI 3) (p354 : rplaceG_338 ≤ rlength) (p355 : rbeginG_340 ≤ 940) (p356 : boatsG_346 ≤ 6) (t357 : isO (pBoat bt rlength rmostBytes z106 z107 z108) = true) (t358 : RT bt rlength rmostBytes (lrP (pBoat bt rlength rmostBytes z106 z107 z108)) rkindG_339 rbeginG_340 rplaceG_338 rwordG_341 rnumberG_342 rlettersG_343) (t359 : CS (lrS (pBoat bt rlength rmostBytes z106 z107 z108)) (lrN (pBoat bt rlength rmostBytes z106 z107 z108)) k127 k128 x129 x130 x131 k132 boatsG_346 f134 f119 f120 boatNamesG_347 boatCellsG_348 loadsG_349 spoonsG_350) (t360 : SW (lrS (pBoat bt rlength rmostBytes z106 z107 z108)) (lrN (pBoat bt rlength rmostBytes z106 z107 z108))) (t363 : FLG 3 z107 (lrS (pBoat bt rlength rmostBytes z106 z107 z108))) (p380 : rplaceG_371 ≤ rlength) (p381 : rbeginG_373 ≤ 940) (t382 : nI (tK bt rlength rmostBytes (lrP (pBoat bt rlength rmostBytes z106 z107 z108))) = (nI 59)) (t383 : RT bt rlength rmostBytes (tT bt rlength rmostBytes (lrP (pBoat bt rlength rmostBytes z106 z107 z108))) rkindG_372 rbeginG_373 rplaceG_371 rwordG_374 rnumberG_375 rlettersG_376) (e391 : y390 = x110 ||| (nI 8)) : (k109 + 1) ≤ 900 := by
  have b_rkind := ia_b rkind
  have b_rword := ia_b rword
  have b_rnumber := ia_b rnumber
  have b_x110 := ia_b x110
  have b_x112 := ia_b x112
  have b_x114 := ia_b x114
  have b_x115 := ia_b x115
  have b_x129 := ia_b x129
  have b_x130 := ia_b x130
  have b_x131 := ia_b x131
  have b_r151 := ia_b r151
  have b_rkindG_339 := ia_b rkindG_339
  have b_rwordG_341 := ia_b rwordG_341
  have b_rnumberG_342 := ia_b rnumberG_342
  have b_rkindG_372 := ia_b rkindG_372
  have b_rwordG_374 := ia_b rwordG_374
  have b_rnumberG_375 := ia_b rnumberG_375
  have b_y390 := ia_b y390
  have b_rletters := Int64.toInt_lt rletters
  have b_w116 := Int64.toInt_lt w116
  have b_rlettersG_343 := Int64.toInt_lt rlettersG_343
  have b_rlettersG_376 := Int64.toInt_lt rlettersG_376
  try have k_0 := ia_n 3 (by first | decide | omega)
  try have k_1 := ia_n (tK bt rlength rmostBytes (lrP (pBoat bt rlength rmostBytes z106 z107 z108))) (by first | decide | omega)
  try have k_2 := ia_n 59 (by first | decide | omega)
  try have k_3 := ia_n 8 (by first | decide | omega)
  try simp only [ia_lt, ia_le, ia_eq, ia_m1, ia_0, ia_1, ne_eq, true_and, and_true, false_and, and_false, or_false, false_or, or_true, true_or, not_true_eq_false, not_false_eq_true] at *
  all_goals omega
set_option maxRecDepth 20000 in
theorem lf_f_read_35 (bt : Nat → Nat) (rlength : Nat) (rmostBytes : Nat) (rplace : Nat) (rkind : Int32) (rbegin : Nat) (rword : Int32) (rnumber : Int32) (rletters : Int64) (rtapeF : Nat → Int32) (gp : Nat) (k109 : Nat) (x110 : Int32) (k111 : Nat) (x112 : Int32) (k113 : Nat) (x114 : Int32) (x115 : Int32) (w116 : Int64) (f119 : Nat → Int64) (f120 : Nat → Int32) (f121 : Nat → Int64) (f122 : Nat → Int32) (f123 : Nat → Int32) (f124 : Nat → Int32) (k127 : Nat) (k128 : Nat) (x129 : Int32) (x130 : Int32) (x131 : Int32) (k132 : Nat) (k133 : Nat) (f134 : Nat → Int32) (z106 : Nat) (z107 : Nat → Nat) (z108 : Nat → Nat) (n146 : Nat) (r151 : Int32) (rplaceG_338 : Nat) (rkindG_339 : Int32) (rbeginG_340 : Nat) (rwordG_341 : Int32) (rnumberG_342 : Int32) (rlettersG_343 : Int64) (boatsG_346 : Nat) (boatNamesG_347 : Nat → Int64) (boatCellsG_348 : Nat → Int32) (loadsG_349 : Nat → Int32) (spoonsG_350 : Nat → Int32) (rplaceG_371 : Nat) (rkindG_372 : Int32) (rbeginG_373 : Nat) (rwordG_374 : Int32) (rnumberG_375 : Int32) (rlettersG_376 : Int64) (y390 : Int32) (iv_rreader_0 : rlength ≤ 940) (iv_rreader_1 : rplace ≤ rlength) (iv_rreader_2 : rmostBytes ≤ 900) (iv_rreader_3 : rbegin ≤ 940) (hTC : TC bt rtapeF) (hRT : RT bt rlength rmostBytes gp rkind rbegin rplace rword rnumber rletters) (hgl : gp ≤ rlength) (j135 : k109 ≤ 900) (j136 : k111 ≤ 940) (j137 : k113 ≤ 940) (j138 : k111 ≤ rlength) (j139 : 2 ≤ k127) (j140 : k127 ≤ 6) (j141 : 2 ≤ k128) (j142 : k128 ≤ 6) (j143 : k132 ≤ 6) (j144 : k133 ≤ 6) (jRT : RT bt rlength rmostBytes z106 x112 k113 k111 x114 x115 w116) (jCS : CS z107 z108 k127 k128 x129 x130 x131 k132 k133 f134 f119 f120 f121 f122 f123 f124) (jSW : SW z107 z108) (jTB : TB x110 z107) (jPL : pLoop bt rlength rmostBytes 1000 gp s0 (fun _ => 0) 0 = pLoop bt rlength rmostBytes (1000 - k109) z106 z107 z108 k109) (j2k : 2 * k109 ≤ z106) (jLe : z106 ≤ rlength) (hm148 : 900 - k109 < n146 + 1) (c149 : k109 < 900) (c150 : ¬ x112 = 0) (p152 : r151 = x114) (c158 : r151 = nI 3) (p354 : rplaceG_338 ≤ rlength) (p355 : rbeginG_340 ≤ 940) (p356 : boatsG_346 ≤ 6) (t357 : isO (pBoat bt rlength rmostBytes z106 z107 z108) = true) (t358 : RT bt rlength rmostBytes (lrP (pBoat bt rlength rmostBytes z106 z107 z108)) rkindG_339 rbeginG_340 rplaceG_338 rwordG_341 rnumberG_342 rlettersG_343) (t359 : CS (lrS (pBoat bt rlength rmostBytes z106 z107 z108)) (lrN (pBoat bt rlength rmostBytes z106 z107 z108)) k127 k128 x129 x130 x131 k132 boatsG_346 f134 f119 f120 boatNamesG_347 boatCellsG_348 loadsG_349 spoonsG_350) (t360 : SW (lrS (pBoat bt rlength rmostBytes z106 z107 z108)) (lrN (pBoat bt rlength rmostBytes z106 z107 z108))) (t363 : FLG 3 z107 (lrS (pBoat bt rlength rmostBytes z106 z107 z108))) (p380 : rplaceG_371 ≤ rlength) (p381 : rbeginG_373 ≤ 940) (t382 : nI (tK bt rlength rmostBytes (lrP (pBoat bt rlength rmostBytes z106 z107 z108))) = (nI 59)) (t383 : RT bt rlength rmostBytes (tT bt rlength rmostBytes (lrP (pBoat bt rlength rmostBytes z106 z107 z108))) rkindG_372 rbeginG_373 rplaceG_371 rwordG_374 rnumberG_375 rlettersG_376) (e391 : y390 = x110 ||| (nI 8)) : rplaceG_371 ≤ 940 := by
  have b_rkind := ia_b rkind
  have b_rword := ia_b rword
  have b_rnumber := ia_b rnumber
  have b_x110 := ia_b x110
  have b_x112 := ia_b x112
  have b_x114 := ia_b x114
  have b_x115 := ia_b x115
  have b_x129 := ia_b x129
  have b_x130 := ia_b x130
  have b_x131 := ia_b x131
  have b_r151 := ia_b r151
  have b_rkindG_339 := ia_b rkindG_339
  have b_rwordG_341 := ia_b rwordG_341
  have b_rnumberG_342 := ia_b rnumberG_342
  have b_rkindG_372 := ia_b rkindG_372
  have b_rwordG_374 := ia_b rwordG_374
  have b_rnumberG_375 := ia_b rnumberG_375
  have b_y390 := ia_b y390
  have b_rletters := Int64.toInt_lt rletters
  have b_w116 := Int64.toInt_lt w116
  have b_rlettersG_343 := Int64.toInt_lt rlettersG_343
  have b_rlettersG_376 := Int64.toInt_lt rlettersG_376
  try have k_0 := ia_n 3 (by first | decide | omega)
  try have k_1 := ia_n (tK bt rlength rmostBytes (lrP (pBoat bt rlength rmostBytes z106 z107 z108))) (by first | decide | omega)
  try have k_2 := ia_n 59 (by first | decide | omega)
  try have k_3 := ia_n 8 (by first | decide | omega)
  try simp only [ia_lt, ia_le, ia_eq, ia_m1, ia_0, ia_1, ne_eq, true_and, and_true, false_and, and_false, or_false, false_or, or_true, true_or, not_true_eq_false, not_false_eq_true] at *
  all_goals omega
set_option maxRecDepth 20000 in
theorem lf_f_read_36 (bt : Nat → Nat) (rlength : Nat) (rmostBytes : Nat) (rplace : Nat) (rkind : Int32) (rbegin : Nat) (rword : Int32) (rnumber : Int32) (rletters : Int64) (rtapeF : Nat → Int32) (gp : Nat) (k109 : Nat) (x110 : Int32) (k111 : Nat) (x112 : Int32) (k113 : Nat) (x114 : Int32) (x115 : Int32) (w116 : Int64) (f119 : Nat → Int64) (f120 : Nat → Int32) (f121 : Nat → Int64) (f122 : Nat → Int32) (f123 : Nat → Int32) (f124 : Nat → Int32) (k127 : Nat) (k128 : Nat) (x129 : Int32) (x130 : Int32) (x131 : Int32) (k132 : Nat) (k133 : Nat) (f134 : Nat → Int32) (z106 : Nat) (z107 : Nat → Nat) (z108 : Nat → Nat) (n146 : Nat) (r151 : Int32) (rplaceG_338 : Nat) (rkindG_339 : Int32) (rbeginG_340 : Nat) (rwordG_341 : Int32) (rnumberG_342 : Int32) (rlettersG_343 : Int64) (boatsG_346 : Nat) (boatNamesG_347 : Nat → Int64) (boatCellsG_348 : Nat → Int32) (loadsG_349 : Nat → Int32) (spoonsG_350 : Nat → Int32) (rplaceG_371 : Nat) (rkindG_372 : Int32) (rbeginG_373 : Nat) (rwordG_374 : Int32) (rnumberG_375 : Int32) (rlettersG_376 : Int64) (y390 : Int32) (iv_rreader_0 : rlength ≤ 940) (iv_rreader_1 : rplace ≤ rlength) (iv_rreader_2 : rmostBytes ≤ 900) (iv_rreader_3 : rbegin ≤ 940) (hTC : TC bt rtapeF) (hRT : RT bt rlength rmostBytes gp rkind rbegin rplace rword rnumber rletters) (hgl : gp ≤ rlength) (j135 : k109 ≤ 900) (j136 : k111 ≤ 940) (j137 : k113 ≤ 940) (j138 : k111 ≤ rlength) (j139 : 2 ≤ k127) (j140 : k127 ≤ 6) (j141 : 2 ≤ k128) (j142 : k128 ≤ 6) (j143 : k132 ≤ 6) (j144 : k133 ≤ 6) (jRT : RT bt rlength rmostBytes z106 x112 k113 k111 x114 x115 w116) (jCS : CS z107 z108 k127 k128 x129 x130 x131 k132 k133 f134 f119 f120 f121 f122 f123 f124) (jSW : SW z107 z108) (jTB : TB x110 z107) (jPL : pLoop bt rlength rmostBytes 1000 gp s0 (fun _ => 0) 0 = pLoop bt rlength rmostBytes (1000 - k109) z106 z107 z108 k109) (j2k : 2 * k109 ≤ z106) (jLe : z106 ≤ rlength) (hm148 : 900 - k109 < n146 + 1) (c149 : k109 < 900) (c150 : ¬ x112 = 0) (p152 : r151 = x114) (c158 : r151 = nI 3) (p354 : rplaceG_338 ≤ rlength) (p355 : rbeginG_340 ≤ 940) (p356 : boatsG_346 ≤ 6) (t357 : isO (pBoat bt rlength rmostBytes z106 z107 z108) = true) (t358 : RT bt rlength rmostBytes (lrP (pBoat bt rlength rmostBytes z106 z107 z108)) rkindG_339 rbeginG_340 rplaceG_338 rwordG_341 rnumberG_342 rlettersG_343) (t359 : CS (lrS (pBoat bt rlength rmostBytes z106 z107 z108)) (lrN (pBoat bt rlength rmostBytes z106 z107 z108)) k127 k128 x129 x130 x131 k132 boatsG_346 f134 f119 f120 boatNamesG_347 boatCellsG_348 loadsG_349 spoonsG_350) (t360 : SW (lrS (pBoat bt rlength rmostBytes z106 z107 z108)) (lrN (pBoat bt rlength rmostBytes z106 z107 z108))) (t363 : FLG 3 z107 (lrS (pBoat bt rlength rmostBytes z106 z107 z108))) (p380 : rplaceG_371 ≤ rlength) (p381 : rbeginG_373 ≤ 940) (t382 : nI (tK bt rlength rmostBytes (lrP (pBoat bt rlength rmostBytes z106 z107 z108))) = (nI 59)) (t383 : RT bt rlength rmostBytes (tT bt rlength rmostBytes (lrP (pBoat bt rlength rmostBytes z106 z107 z108))) rkindG_372 rbeginG_373 rplaceG_371 rwordG_374 rnumberG_375 rlettersG_376) (e391 : y390 = x110 ||| (nI 8)) : TB y390 (lrS (pBoat bt rlength rmostBytes z106 z107 z108)) := by
  have q := ‹FLG 3 _ _›
  have q2 := TB_or jTB jSW (k := 3) (by decide) q.1 q.2
  subst_vars
  exact q2
set_option maxRecDepth 20000 in
theorem lf_f_read_37 (bt : Nat → Nat) (rlength : Nat) (rmostBytes : Nat) (rplace : Nat) (rkind : Int32) (rbegin : Nat) (rword : Int32) (rnumber : Int32) (rletters : Int64) (rtapeF : Nat → Int32) (gp : Nat) (k109 : Nat) (x110 : Int32) (k111 : Nat) (x112 : Int32) (k113 : Nat) (x114 : Int32) (x115 : Int32) (w116 : Int64) (f119 : Nat → Int64) (f120 : Nat → Int32) (f121 : Nat → Int64) (f122 : Nat → Int32) (f123 : Nat → Int32) (f124 : Nat → Int32) (k127 : Nat) (k128 : Nat) (x129 : Int32) (x130 : Int32) (x131 : Int32) (k132 : Nat) (k133 : Nat) (f134 : Nat → Int32) (z106 : Nat) (z107 : Nat → Nat) (z108 : Nat → Nat) (n146 : Nat) (r151 : Int32) (rplaceG_338 : Nat) (rkindG_339 : Int32) (rbeginG_340 : Nat) (rwordG_341 : Int32) (rnumberG_342 : Int32) (rlettersG_343 : Int64) (boatsG_346 : Nat) (boatNamesG_347 : Nat → Int64) (boatCellsG_348 : Nat → Int32) (loadsG_349 : Nat → Int32) (spoonsG_350 : Nat → Int32) (rplaceG_371 : Nat) (rkindG_372 : Int32) (rbeginG_373 : Nat) (rwordG_374 : Int32) (rnumberG_375 : Int32) (rlettersG_376 : Int64) (y390 : Int32) (iv_rreader_0 : rlength ≤ 940) (iv_rreader_1 : rplace ≤ rlength) (iv_rreader_2 : rmostBytes ≤ 900) (iv_rreader_3 : rbegin ≤ 940) (hTC : TC bt rtapeF) (hRT : RT bt rlength rmostBytes gp rkind rbegin rplace rword rnumber rletters) (hgl : gp ≤ rlength) (j135 : k109 ≤ 900) (j136 : k111 ≤ 940) (j137 : k113 ≤ 940) (j138 : k111 ≤ rlength) (j139 : 2 ≤ k127) (j140 : k127 ≤ 6) (j141 : 2 ≤ k128) (j142 : k128 ≤ 6) (j143 : k132 ≤ 6) (j144 : k133 ≤ 6) (jRT : RT bt rlength rmostBytes z106 x112 k113 k111 x114 x115 w116) (jCS : CS z107 z108 k127 k128 x129 x130 x131 k132 k133 f134 f119 f120 f121 f122 f123 f124) (jSW : SW z107 z108) (jTB : TB x110 z107) (jPL : pLoop bt rlength rmostBytes 1000 gp s0 (fun _ => 0) 0 = pLoop bt rlength rmostBytes (1000 - k109) z106 z107 z108 k109) (j2k : 2 * k109 ≤ z106) (jLe : z106 ≤ rlength) (hm148 : 900 - k109 < n146 + 1) (c149 : k109 < 900) (c150 : ¬ x112 = 0) (p152 : r151 = x114) (c158 : r151 = nI 3) (p354 : rplaceG_338 ≤ rlength) (p355 : rbeginG_340 ≤ 940) (p356 : boatsG_346 ≤ 6) (t357 : isO (pBoat bt rlength rmostBytes z106 z107 z108) = true) (t358 : RT bt rlength rmostBytes (lrP (pBoat bt rlength rmostBytes z106 z107 z108)) rkindG_339 rbeginG_340 rplaceG_338 rwordG_341 rnumberG_342 rlettersG_343) (t359 : CS (lrS (pBoat bt rlength rmostBytes z106 z107 z108)) (lrN (pBoat bt rlength rmostBytes z106 z107 z108)) k127 k128 x129 x130 x131 k132 boatsG_346 f134 f119 f120 boatNamesG_347 boatCellsG_348 loadsG_349 spoonsG_350) (t360 : SW (lrS (pBoat bt rlength rmostBytes z106 z107 z108)) (lrN (pBoat bt rlength rmostBytes z106 z107 z108))) (t363 : FLG 3 z107 (lrS (pBoat bt rlength rmostBytes z106 z107 z108))) (p380 : rplaceG_371 ≤ rlength) (p381 : rbeginG_373 ≤ 940) (t382 : nI (tK bt rlength rmostBytes (lrP (pBoat bt rlength rmostBytes z106 z107 z108))) = (nI 59)) (t383 : RT bt rlength rmostBytes (tT bt rlength rmostBytes (lrP (pBoat bt rlength rmostBytes z106 z107 z108))) rkindG_372 rbeginG_373 rplaceG_371 rwordG_374 rnumberG_375 rlettersG_376) (e391 : y390 = x110 ||| (nI 8)) : pLoop bt rlength rmostBytes 1000 gp s0 (fun _ => 0) 0 = pLoop bt rlength rmostBytes (1000 - (k109 + 1)) (tT bt rlength rmostBytes (lrP (pBoat bt rlength rmostBytes z106 z107 z108))) (lrS (pBoat bt rlength rmostBytes z106 z107 z108)) (lrN (pBoat bt rlength rmostBytes z106 z107 z108)) (k109 + 1) := by
  have hk0 : tK bt rlength rmostBytes z106 ≠ 0 := fun h9 => absurd ((RT_k jRT (by decide)).mpr h9) (by
    have kk0 := ia_n 0 (by decide)
    have b_rkind := ia_b rkind
    have b_rword := ia_b rword
    have b_rnumber := ia_b rnumber
    have b_x110 := ia_b x110
    have b_x112 := ia_b x112
    have b_x114 := ia_b x114
    have b_x115 := ia_b x115
    have b_x129 := ia_b x129
    have b_x130 := ia_b x130
    have b_x131 := ia_b x131
    have b_r151 := ia_b r151
    have b_rkindG_339 := ia_b rkindG_339
    have b_rwordG_341 := ia_b rwordG_341
    have b_rnumberG_342 := ia_b rnumberG_342
    have b_rkindG_372 := ia_b rkindG_372
    have b_rwordG_374 := ia_b rwordG_374
    have b_rnumberG_375 := ia_b rnumberG_375
    have b_y390 := ia_b y390
    have b_rletters := Int64.toInt_lt rletters
    have b_w116 := Int64.toInt_lt w116
    have b_rlettersG_343 := Int64.toInt_lt rlettersG_343
    have b_rlettersG_376 := Int64.toInt_lt rlettersG_376
    try have k_0 := ia_n 3 (by first | decide | omega)
    try have k_1 := ia_n (tK bt rlength rmostBytes (lrP (pBoat bt rlength rmostBytes z106 z107 z108))) (by first | decide | omega)
    try have k_2 := ia_n 59 (by first | decide | omega)
    try have k_3 := ia_n 8 (by first | decide | omega)
    try simp only [ia_lt, ia_le, ia_eq, ia_m1, ia_0, ia_1, ne_eq, true_and, and_true, false_and, and_false, or_false, false_or, or_true, true_or, not_true_eq_false, not_false_eq_true] at *
    all_goals omega)
  have hW : tW bt rlength rmostBytes z106 = 3 := (RT_w jRT (by decide)).mp (by
    have kk3 := ia_n 3 (by decide)
    have b_rkind := ia_b rkind
    have b_rword := ia_b rword
    have b_rnumber := ia_b rnumber
    have b_x110 := ia_b x110
    have b_x112 := ia_b x112
    have b_x114 := ia_b x114
    have b_x115 := ia_b x115
    have b_x129 := ia_b x129
    have b_x130 := ia_b x130
    have b_x131 := ia_b x131
    have b_r151 := ia_b r151
    have b_rkindG_339 := ia_b rkindG_339
    have b_rwordG_341 := ia_b rwordG_341
    have b_rnumberG_342 := ia_b rnumberG_342
    have b_rkindG_372 := ia_b rkindG_372
    have b_rwordG_374 := ia_b rwordG_374
    have b_rnumberG_375 := ia_b rnumberG_375
    have b_y390 := ia_b y390
    have b_rletters := Int64.toInt_lt rletters
    have b_w116 := Int64.toInt_lt w116
    have b_rlettersG_343 := Int64.toInt_lt rlettersG_343
    have b_rlettersG_376 := Int64.toInt_lt rlettersG_376
    try have k_0 := ia_n 3 (by first | decide | omega)
    try have k_1 := ia_n (tK bt rlength rmostBytes (lrP (pBoat bt rlength rmostBytes z106 z107 z108))) (by first | decide | omega)
    try have k_2 := ia_n 59 (by first | decide | omega)
    try have k_3 := ia_n 8 (by first | decide | omega)
    try simp only [ia_lt, ia_le, ia_eq, ia_m1, ia_0, ia_1, ne_eq, true_and, and_true, false_and, and_false, or_false, false_or, or_true, true_or, not_true_eq_false, not_false_eq_true] at *
    all_goals omega)
  have hL := ln3 (σ := z107) (ν := z108) hW
  have e9 : 1000 - k109 = (1000 - (k109 + 1)) + 1 := by omega
  have h59 : tK bt rlength rmostBytes (lrP (pLine bt rlength rmostBytes z106 z107 z108)) = 59 := by
    rw [hL]
    have h8 := ‹nI (tK bt rlength rmostBytes (lrP _)) = nI 59›
    have h7 := tK_le bt rlength rmostBytes (lrP (pLine bt rlength rmostBytes z106 z107 z108))
    rw [hL] at h7
    rw [ia_eq, ia_n _ (by omega), ia_n _ (by omega)] at h8
    omega
  have q := pL_step (f := 1000 - (k109 + 1)) (k := k109) hk0 (by rw [hL]; assumption) h59
  rw [hL] at q
  rw [jPL, e9]
  exact q
set_option maxRecDepth 20000 in
theorem lf_f_read_38 (bt : Nat → Nat) (rlength : Nat) (rmostBytes : Nat) (rplace : Nat) (rkind : Int32) (rbegin : Nat) (rword : Int32) (rnumber : Int32) (rletters : Int64) (rtapeF : Nat → Int32) (gp : Nat) (k109 : Nat) (x110 : Int32) (k111 : Nat) (x112 : Int32) (k113 : Nat) (x114 : Int32) (x115 : Int32) (w116 : Int64) (f119 : Nat → Int64) (f120 : Nat → Int32) (f121 : Nat → Int64) (f122 : Nat → Int32) (f123 : Nat → Int32) (f124 : Nat → Int32) (k127 : Nat) (k128 : Nat) (x129 : Int32) (x130 : Int32) (x131 : Int32) (k132 : Nat) (k133 : Nat) (f134 : Nat → Int32) (z106 : Nat) (z107 : Nat → Nat) (z108 : Nat → Nat) (n146 : Nat) (r151 : Int32) (rplaceG_338 : Nat) (rkindG_339 : Int32) (rbeginG_340 : Nat) (rwordG_341 : Int32) (rnumberG_342 : Int32) (rlettersG_343 : Int64) (boatsG_346 : Nat) (boatNamesG_347 : Nat → Int64) (boatCellsG_348 : Nat → Int32) (loadsG_349 : Nat → Int32) (spoonsG_350 : Nat → Int32) (rplaceG_371 : Nat) (rkindG_372 : Int32) (rbeginG_373 : Nat) (rwordG_374 : Int32) (rnumberG_375 : Int32) (rlettersG_376 : Int64) (y390 : Int32) (iv_rreader_0 : rlength ≤ 940) (iv_rreader_1 : rplace ≤ rlength) (iv_rreader_2 : rmostBytes ≤ 900) (iv_rreader_3 : rbegin ≤ 940) (hTC : TC bt rtapeF) (hRT : RT bt rlength rmostBytes gp rkind rbegin rplace rword rnumber rletters) (hgl : gp ≤ rlength) (j135 : k109 ≤ 900) (j136 : k111 ≤ 940) (j137 : k113 ≤ 940) (j138 : k111 ≤ rlength) (j139 : 2 ≤ k127) (j140 : k127 ≤ 6) (j141 : 2 ≤ k128) (j142 : k128 ≤ 6) (j143 : k132 ≤ 6) (j144 : k133 ≤ 6) (jRT : RT bt rlength rmostBytes z106 x112 k113 k111 x114 x115 w116) (jCS : CS z107 z108 k127 k128 x129 x130 x131 k132 k133 f134 f119 f120 f121 f122 f123 f124) (jSW : SW z107 z108) (jTB : TB x110 z107) (jPL : pLoop bt rlength rmostBytes 1000 gp s0 (fun _ => 0) 0 = pLoop bt rlength rmostBytes (1000 - k109) z106 z107 z108 k109) (j2k : 2 * k109 ≤ z106) (jLe : z106 ≤ rlength) (hm148 : 900 - k109 < n146 + 1) (c149 : k109 < 900) (c150 : ¬ x112 = 0) (p152 : r151 = x114) (c158 : r151 = nI 3) (p354 : rplaceG_338 ≤ rlength) (p355 : rbeginG_340 ≤ 940) (p356 : boatsG_346 ≤ 6) (t357 : isO (pBoat bt rlength rmostBytes z106 z107 z108) = true) (t358 : RT bt rlength rmostBytes (lrP (pBoat bt rlength rmostBytes z106 z107 z108)) rkindG_339 rbeginG_340 rplaceG_338 rwordG_341 rnumberG_342 rlettersG_343) (t359 : CS (lrS (pBoat bt rlength rmostBytes z106 z107 z108)) (lrN (pBoat bt rlength rmostBytes z106 z107 z108)) k127 k128 x129 x130 x131 k132 boatsG_346 f134 f119 f120 boatNamesG_347 boatCellsG_348 loadsG_349 spoonsG_350) (t360 : SW (lrS (pBoat bt rlength rmostBytes z106 z107 z108)) (lrN (pBoat bt rlength rmostBytes z106 z107 z108))) (t363 : FLG 3 z107 (lrS (pBoat bt rlength rmostBytes z106 z107 z108))) (p380 : rplaceG_371 ≤ rlength) (p381 : rbeginG_373 ≤ 940) (t382 : nI (tK bt rlength rmostBytes (lrP (pBoat bt rlength rmostBytes z106 z107 z108))) = (nI 59)) (t383 : RT bt rlength rmostBytes (tT bt rlength rmostBytes (lrP (pBoat bt rlength rmostBytes z106 z107 z108))) rkindG_372 rbeginG_373 rplaceG_371 rwordG_374 rnumberG_375 rlettersG_376) (e391 : y390 = x110 ||| (nI 8)) : 2 * (k109 + 1) ≤ (tT bt rlength rmostBytes (lrP (pBoat bt rlength rmostBytes z106 z107 z108))) := by
  have hk0 : tK bt rlength rmostBytes z106 ≠ 0 := fun h9 => absurd ((RT_k jRT (by decide)).mpr h9) (by
    have kk0 := ia_n 0 (by decide)
    have b_rkind := ia_b rkind
    have b_rword := ia_b rword
    have b_rnumber := ia_b rnumber
    have b_x110 := ia_b x110
    have b_x112 := ia_b x112
    have b_x114 := ia_b x114
    have b_x115 := ia_b x115
    have b_x129 := ia_b x129
    have b_x130 := ia_b x130
    have b_x131 := ia_b x131
    have b_r151 := ia_b r151
    have b_rkindG_339 := ia_b rkindG_339
    have b_rwordG_341 := ia_b rwordG_341
    have b_rnumberG_342 := ia_b rnumberG_342
    have b_rkindG_372 := ia_b rkindG_372
    have b_rwordG_374 := ia_b rwordG_374
    have b_rnumberG_375 := ia_b rnumberG_375
    have b_y390 := ia_b y390
    have b_rletters := Int64.toInt_lt rletters
    have b_w116 := Int64.toInt_lt w116
    have b_rlettersG_343 := Int64.toInt_lt rlettersG_343
    have b_rlettersG_376 := Int64.toInt_lt rlettersG_376
    try have k_0 := ia_n 3 (by first | decide | omega)
    try have k_1 := ia_n (tK bt rlength rmostBytes (lrP (pBoat bt rlength rmostBytes z106 z107 z108))) (by first | decide | omega)
    try have k_2 := ia_n 59 (by first | decide | omega)
    try have k_3 := ia_n 8 (by first | decide | omega)
    try simp only [ia_lt, ia_le, ia_eq, ia_m1, ia_0, ia_1, ne_eq, true_and, and_true, false_and, and_false, or_false, false_or, or_true, true_or, not_true_eq_false, not_false_eq_true] at *
    all_goals omega)
  have hW : tW bt rlength rmostBytes z106 = 3 := (RT_w jRT (by decide)).mp (by
    have kk3 := ia_n 3 (by decide)
    have b_rkind := ia_b rkind
    have b_rword := ia_b rword
    have b_rnumber := ia_b rnumber
    have b_x110 := ia_b x110
    have b_x112 := ia_b x112
    have b_x114 := ia_b x114
    have b_x115 := ia_b x115
    have b_x129 := ia_b x129
    have b_x130 := ia_b x130
    have b_x131 := ia_b x131
    have b_r151 := ia_b r151
    have b_rkindG_339 := ia_b rkindG_339
    have b_rwordG_341 := ia_b rwordG_341
    have b_rnumberG_342 := ia_b rnumberG_342
    have b_rkindG_372 := ia_b rkindG_372
    have b_rwordG_374 := ia_b rwordG_374
    have b_rnumberG_375 := ia_b rnumberG_375
    have b_y390 := ia_b y390
    have b_rletters := Int64.toInt_lt rletters
    have b_w116 := Int64.toInt_lt w116
    have b_rlettersG_343 := Int64.toInt_lt rlettersG_343
    have b_rlettersG_376 := Int64.toInt_lt rlettersG_376
    try have k_0 := ia_n 3 (by first | decide | omega)
    try have k_1 := ia_n (tK bt rlength rmostBytes (lrP (pBoat bt rlength rmostBytes z106 z107 z108))) (by first | decide | omega)
    try have k_2 := ia_n 59 (by first | decide | omega)
    try have k_3 := ia_n 8 (by first | decide | omega)
    try simp only [ia_lt, ia_le, ia_eq, ia_m1, ia_0, ia_1, ne_eq, true_and, and_true, false_and, and_false, or_false, false_or, or_true, true_or, not_true_eq_false, not_false_eq_true] at *
    all_goals omega)
  have hL := ln3 (σ := z107) (ν := z108) hW
  have e9 : 1000 - k109 = (1000 - (k109 + 1)) + 1 := by omega
  have h59 : tK bt rlength rmostBytes (lrP (pLine bt rlength rmostBytes z106 z107 z108)) = 59 := by
    rw [hL]
    have h8 := ‹nI (tK bt rlength rmostBytes (lrP _)) = nI 59›
    have h7 := tK_le bt rlength rmostBytes (lrP (pLine bt rlength rmostBytes z106 z107 z108))
    rw [hL] at h7
    rw [ia_eq, ia_n _ (by omega), ia_n _ (by omega)] at h8
    omega
  have q := pLine_pos (B := bt) (m := rmostBytes) (σ := z107) (ν := z108) jLe (by rw [hL]; assumption)
  have q2 := tT_gt (B := bt) (n := rlength) (m := rmostBytes) (p := lrP (pLine bt rlength rmostBytes z106 z107 z108)) (by omega) (by omega)
  have q3 := tT_le (B := bt) rmostBytes q.2
  rw [hL] at q q2 q3
  omega
set_option maxRecDepth 20000 in
theorem lf_f_read_39 (bt : Nat → Nat) (rlength : Nat) (rmostBytes : Nat) (rplace : Nat) (rkind : Int32) (rbegin : Nat) (rword : Int32) (rnumber : Int32) (rletters : Int64) (rtapeF : Nat → Int32) (gp : Nat) (k109 : Nat) (x110 : Int32) (k111 : Nat) (x112 : Int32) (k113 : Nat) (x114 : Int32) (x115 : Int32) (w116 : Int64) (f119 : Nat → Int64) (f120 : Nat → Int32) (f121 : Nat → Int64) (f122 : Nat → Int32) (f123 : Nat → Int32) (f124 : Nat → Int32) (k127 : Nat) (k128 : Nat) (x129 : Int32) (x130 : Int32) (x131 : Int32) (k132 : Nat) (k133 : Nat) (f134 : Nat → Int32) (z106 : Nat) (z107 : Nat → Nat) (z108 : Nat → Nat) (n146 : Nat) (r151 : Int32) (rplaceG_338 : Nat) (rkindG_339 : Int32) (rbeginG_340 : Nat) (rwordG_341 : Int32) (rnumberG_342 : Int32) (rlettersG_343 : Int64) (boatsG_346 : Nat) (boatNamesG_347 : Nat → Int64) (boatCellsG_348 : Nat → Int32) (loadsG_349 : Nat → Int32) (spoonsG_350 : Nat → Int32) (rplaceG_371 : Nat) (rkindG_372 : Int32) (rbeginG_373 : Nat) (rwordG_374 : Int32) (rnumberG_375 : Int32) (rlettersG_376 : Int64) (y390 : Int32) (iv_rreader_0 : rlength ≤ 940) (iv_rreader_1 : rplace ≤ rlength) (iv_rreader_2 : rmostBytes ≤ 900) (iv_rreader_3 : rbegin ≤ 940) (hTC : TC bt rtapeF) (hRT : RT bt rlength rmostBytes gp rkind rbegin rplace rword rnumber rletters) (hgl : gp ≤ rlength) (j135 : k109 ≤ 900) (j136 : k111 ≤ 940) (j137 : k113 ≤ 940) (j138 : k111 ≤ rlength) (j139 : 2 ≤ k127) (j140 : k127 ≤ 6) (j141 : 2 ≤ k128) (j142 : k128 ≤ 6) (j143 : k132 ≤ 6) (j144 : k133 ≤ 6) (jRT : RT bt rlength rmostBytes z106 x112 k113 k111 x114 x115 w116) (jCS : CS z107 z108 k127 k128 x129 x130 x131 k132 k133 f134 f119 f120 f121 f122 f123 f124) (jSW : SW z107 z108) (jTB : TB x110 z107) (jPL : pLoop bt rlength rmostBytes 1000 gp s0 (fun _ => 0) 0 = pLoop bt rlength rmostBytes (1000 - k109) z106 z107 z108 k109) (j2k : 2 * k109 ≤ z106) (jLe : z106 ≤ rlength) (hm148 : 900 - k109 < n146 + 1) (c149 : k109 < 900) (c150 : ¬ x112 = 0) (p152 : r151 = x114) (c158 : r151 = nI 3) (p354 : rplaceG_338 ≤ rlength) (p355 : rbeginG_340 ≤ 940) (p356 : boatsG_346 ≤ 6) (t357 : isO (pBoat bt rlength rmostBytes z106 z107 z108) = true) (t358 : RT bt rlength rmostBytes (lrP (pBoat bt rlength rmostBytes z106 z107 z108)) rkindG_339 rbeginG_340 rplaceG_338 rwordG_341 rnumberG_342 rlettersG_343) (t359 : CS (lrS (pBoat bt rlength rmostBytes z106 z107 z108)) (lrN (pBoat bt rlength rmostBytes z106 z107 z108)) k127 k128 x129 x130 x131 k132 boatsG_346 f134 f119 f120 boatNamesG_347 boatCellsG_348 loadsG_349 spoonsG_350) (t360 : SW (lrS (pBoat bt rlength rmostBytes z106 z107 z108)) (lrN (pBoat bt rlength rmostBytes z106 z107 z108))) (t363 : FLG 3 z107 (lrS (pBoat bt rlength rmostBytes z106 z107 z108))) (p380 : rplaceG_371 ≤ rlength) (p381 : rbeginG_373 ≤ 940) (t382 : nI (tK bt rlength rmostBytes (lrP (pBoat bt rlength rmostBytes z106 z107 z108))) = (nI 59)) (t383 : RT bt rlength rmostBytes (tT bt rlength rmostBytes (lrP (pBoat bt rlength rmostBytes z106 z107 z108))) rkindG_372 rbeginG_373 rplaceG_371 rwordG_374 rnumberG_375 rlettersG_376) (e391 : y390 = x110 ||| (nI 8)) : (tT bt rlength rmostBytes (lrP (pBoat bt rlength rmostBytes z106 z107 z108))) ≤ rlength := by
  have hk0 : tK bt rlength rmostBytes z106 ≠ 0 := fun h9 => absurd ((RT_k jRT (by decide)).mpr h9) (by
    have kk0 := ia_n 0 (by decide)
    have b_rkind := ia_b rkind
    have b_rword := ia_b rword
    have b_rnumber := ia_b rnumber
    have b_x110 := ia_b x110
    have b_x112 := ia_b x112
    have b_x114 := ia_b x114
    have b_x115 := ia_b x115
    have b_x129 := ia_b x129
    have b_x130 := ia_b x130
    have b_x131 := ia_b x131
    have b_r151 := ia_b r151
    have b_rkindG_339 := ia_b rkindG_339
    have b_rwordG_341 := ia_b rwordG_341
    have b_rnumberG_342 := ia_b rnumberG_342
    have b_rkindG_372 := ia_b rkindG_372
    have b_rwordG_374 := ia_b rwordG_374
    have b_rnumberG_375 := ia_b rnumberG_375
    have b_y390 := ia_b y390
    have b_rletters := Int64.toInt_lt rletters
    have b_w116 := Int64.toInt_lt w116
    have b_rlettersG_343 := Int64.toInt_lt rlettersG_343
    have b_rlettersG_376 := Int64.toInt_lt rlettersG_376
    try have k_0 := ia_n 3 (by first | decide | omega)
    try have k_1 := ia_n (tK bt rlength rmostBytes (lrP (pBoat bt rlength rmostBytes z106 z107 z108))) (by first | decide | omega)
    try have k_2 := ia_n 59 (by first | decide | omega)
    try have k_3 := ia_n 8 (by first | decide | omega)
    try simp only [ia_lt, ia_le, ia_eq, ia_m1, ia_0, ia_1, ne_eq, true_and, and_true, false_and, and_false, or_false, false_or, or_true, true_or, not_true_eq_false, not_false_eq_true] at *
    all_goals omega)
  have hW : tW bt rlength rmostBytes z106 = 3 := (RT_w jRT (by decide)).mp (by
    have kk3 := ia_n 3 (by decide)
    have b_rkind := ia_b rkind
    have b_rword := ia_b rword
    have b_rnumber := ia_b rnumber
    have b_x110 := ia_b x110
    have b_x112 := ia_b x112
    have b_x114 := ia_b x114
    have b_x115 := ia_b x115
    have b_x129 := ia_b x129
    have b_x130 := ia_b x130
    have b_x131 := ia_b x131
    have b_r151 := ia_b r151
    have b_rkindG_339 := ia_b rkindG_339
    have b_rwordG_341 := ia_b rwordG_341
    have b_rnumberG_342 := ia_b rnumberG_342
    have b_rkindG_372 := ia_b rkindG_372
    have b_rwordG_374 := ia_b rwordG_374
    have b_rnumberG_375 := ia_b rnumberG_375
    have b_y390 := ia_b y390
    have b_rletters := Int64.toInt_lt rletters
    have b_w116 := Int64.toInt_lt w116
    have b_rlettersG_343 := Int64.toInt_lt rlettersG_343
    have b_rlettersG_376 := Int64.toInt_lt rlettersG_376
    try have k_0 := ia_n 3 (by first | decide | omega)
    try have k_1 := ia_n (tK bt rlength rmostBytes (lrP (pBoat bt rlength rmostBytes z106 z107 z108))) (by first | decide | omega)
    try have k_2 := ia_n 59 (by first | decide | omega)
    try have k_3 := ia_n 8 (by first | decide | omega)
    try simp only [ia_lt, ia_le, ia_eq, ia_m1, ia_0, ia_1, ne_eq, true_and, and_true, false_and, and_false, or_false, false_or, or_true, true_or, not_true_eq_false, not_false_eq_true] at *
    all_goals omega)
  have hL := ln3 (σ := z107) (ν := z108) hW
  have e9 : 1000 - k109 = (1000 - (k109 + 1)) + 1 := by omega
  have h59 : tK bt rlength rmostBytes (lrP (pLine bt rlength rmostBytes z106 z107 z108)) = 59 := by
    rw [hL]
    have h8 := ‹nI (tK bt rlength rmostBytes (lrP _)) = nI 59›
    have h7 := tK_le bt rlength rmostBytes (lrP (pLine bt rlength rmostBytes z106 z107 z108))
    rw [hL] at h7
    rw [ia_eq, ia_n _ (by omega), ia_n _ (by omega)] at h8
    omega
  have q := pLine_pos (B := bt) (m := rmostBytes) (σ := z107) (ν := z108) jLe (by rw [hL]; assumption)
  have q2 := tT_gt (B := bt) (n := rlength) (m := rmostBytes) (p := lrP (pLine bt rlength rmostBytes z106 z107 z108)) (by omega) (by omega)
  have q3 := tT_le (B := bt) rmostBytes q.2
  rw [hL] at q q2 q3
  omega
set_option maxRecDepth 20000 in
theorem lf_f_read_40 (adK : Nat → Nat) (adV : Nat → Nat) (st : Nat) (qtoldWords : Int32) (bt : Nat → Nat) (reader : Nat) (rtape : Nat) (rlength : Nat) (rmostBytes : Nat) (rplace : Nat) (rkind : Int32) (rbegin : Nat) (rword : Int32) (rnumber : Int32) (rletters : Int64) (rfaultKind : Int32) (rfaultPlace : Int32) (rtapeF : Nat → Int32) (a : Nat) (wide : Nat) (high : Nat) (heat : Int32) (cools : Int32) (skinHeat : Int32) (today : Int32) (stirs : Int32) (steps : Int32) (lumps : Nat) (boats : Nat) (thickness : Nat) (lumpNames : Nat) (lumpCells : Nat) (boatNames : Nat) (boatCells : Nat) (loads : Nat) (spoons : Nat) (spoonsLeft : Nat) (depths : Nat) (thicknessF : Nat → Int32) (lumpNamesF : Nat → Int64) (lumpCellsF : Nat → Int32) (boatNamesF : Nat → Int64) (boatCellsF : Nat → Int32) (loadsF : Nat → Int32) (spoonsF : Nat → Int32) (spoonsLeftF : Nat → Int32) (depthsF : Nat → Int32) (gp : Nat) (wideG_3 : Nat) (highG_4 : Nat) (heatG_5 : Int32) (coolsG_6 : Int32) (skinHeatG_7 : Int32) (todayG_8 : Int32) (stirsG_9 : Int32) (stepsG_10 : Int32) (lumpsG_11 : Nat) (boatsG_12 : Nat) (thicknessG_13 : Nat → Int32) (k109 : Nat) (x110 : Int32) (k111 : Nat) (x112 : Int32) (k113 : Nat) (x114 : Int32) (x115 : Int32) (w116 : Int64) (x117 : Int32) (x118 : Int32) (f119 : Nat → Int64) (f120 : Nat → Int32) (f121 : Nat → Int64) (f122 : Nat → Int32) (f123 : Nat → Int32) (f124 : Nat → Int32) (f125 : Nat → Int32) (f126 : Nat → Int32) (k127 : Nat) (k128 : Nat) (x129 : Int32) (x130 : Int32) (x131 : Int32) (k132 : Nat) (k133 : Nat) (f134 : Nat → Int32) (z106 : Nat) (z107 : Nat → Nat) (z108 : Nat → Nat) (n146 : Nat) (r151 : Int32) (rplaceG_338 : Nat) (rkindG_339 : Int32) (rbeginG_340 : Nat) (rwordG_341 : Int32) (rnumberG_342 : Int32) (rlettersG_343 : Int64) (rfaultKindG_344 : Int32) (rfaultPlaceG_345 : Int32) (boatsG_346 : Nat) (boatNamesG_347 : Nat → Int64) (boatCellsG_348 : Nat → Int32) (loadsG_349 : Nat → Int32) (spoonsG_350 : Nat → Int32) (spoonsLeftG_351 : Nat → Int32) (depthsG_352 : Nat → Int32) (rplaceG_371 : Nat) (rkindG_372 : Int32) (rbeginG_373 : Nat) (rwordG_374 : Int32) (rnumberG_375 : Int32) (rlettersG_376 : Int64) (rfaultKindG_377 : Int32) (rfaultPlaceG_378 : Int32) (y390 : Int32) (iv_rreader_0 : rlength ≤ 940) (iv_rreader_1 : rplace ≤ rlength) (iv_rreader_2 : rmostBytes ≤ 900) (iv_rreader_3 : rbegin ≤ 940) (hTC : TC bt rtapeF) (iv_a_0 : 2 ≤ wide) (iv_a_1 : wide ≤ 6) (iv_a_2 : 2 ≤ high) (iv_a_3 : high ≤ 6) (iv_a_4 : lumps ≤ 6) (iv_a_5 : boats ≤ 6) (hRT : RT bt rlength rmostBytes gp rkind rbegin rplace rword rnumber rletters) (hgl : gp ≤ rlength) (p14 : 2 ≤ wideG_3) (p15 : wideG_3 ≤ 6) (p16 : 2 ≤ highG_4) (p17 : highG_4 ≤ 6) (p18 : lumpsG_11 ≤ 6) (p19 : boatsG_12 ≤ 6) (p20 : wideG_3 = 4) (p21 : highG_4 = 4) (p22 : heatG_5 = nI 10) (p23 : coolsG_6 = nI 1) (p24 : skinHeatG_7 = nI 3) (p25 : lumpsG_11 = 0) (p26 : boatsG_12 = 0) (p27 : ∀ c, c < 36 → thicknessG_13 c = nI 0) (j135 : k109 ≤ 900) (j136 : k111 ≤ 940) (j137 : k113 ≤ 940) (j138 : k111 ≤ rlength) (j139 : 2 ≤ k127) (j140 : k127 ≤ 6) (j141 : 2 ≤ k128) (j142 : k128 ≤ 6) (j143 : k132 ≤ 6) (j144 : k133 ≤ 6) (jRT : RT bt rlength rmostBytes z106 x112 k113 k111 x114 x115 w116) (jCS : CS z107 z108 k127 k128 x129 x130 x131 k132 k133 f134 f119 f120 f121 f122 f123 f124) (jSW : SW z107 z108) (jTB : TB x110 z107) (jPL : pLoop bt rlength rmostBytes 1000 gp s0 (fun _ => 0) 0 = pLoop bt rlength rmostBytes (1000 - k109) z106 z107 z108 k109) (j2k : 2 * k109 ≤ z106) (jLe : z106 ≤ rlength) (jFk : x117 = rfaultKind) (hm148 : 900 - k109 < n146 + 1) (c149 : k109 < 900) (c150 : ¬ x112 = 0) (p152 : r151 = x114) (c158 : r151 = nI 3) (p354 : rplaceG_338 ≤ rlength) (p355 : rbeginG_340 ≤ 940) (p356 : boatsG_346 ≤ 6) (t357 : isO (pBoat bt rlength rmostBytes z106 z107 z108) = true) (t358 : RT bt rlength rmostBytes (lrP (pBoat bt rlength rmostBytes z106 z107 z108)) rkindG_339 rbeginG_340 rplaceG_338 rwordG_341 rnumberG_342 rlettersG_343) (t359 : CS (lrS (pBoat bt rlength rmostBytes z106 z107 z108)) (lrN (pBoat bt rlength rmostBytes z106 z107 z108)) k127 k128 x129 x130 x131 k132 boatsG_346 f134 f119 f120 boatNamesG_347 boatCellsG_348 loadsG_349 spoonsG_350) (t360 : SW (lrS (pBoat bt rlength rmostBytes z106 z107 z108)) (lrN (pBoat bt rlength rmostBytes z106 z107 z108))) (t361 : rfaultKindG_344 = x117) (t362 : rfaultPlaceG_345 = x118) (t363 : FLG 3 z107 (lrS (pBoat bt rlength rmostBytes z106 z107 z108))) (p380 : rplaceG_371 ≤ rlength) (p381 : rbeginG_373 ≤ 940) (t382 : nI (tK bt rlength rmostBytes (lrP (pBoat bt rlength rmostBytes z106 z107 z108))) = (nI 59)) (t383 : RT bt rlength rmostBytes (tT bt rlength rmostBytes (lrP (pBoat bt rlength rmostBytes z106 z107 z108))) rkindG_372 rbeginG_373 rplaceG_371 rwordG_374 rnumberG_375 rlettersG_376) (t384 : rfaultKindG_377 = rfaultKindG_344) (t385 : rfaultPlaceG_378 = rfaultPlaceG_345) (e391 : y390 = x110 ||| (nI 8)) : rfaultKindG_377 = rfaultKind := by
  subst_vars
  first
    | rfl
    | assumption
set_option maxRecDepth 20000 in
theorem lf_f_read_41 (bt : Nat → Nat) (rlength : Nat) (rmostBytes : Nat) (rplace : Nat) (rkind : Int32) (rbegin : Nat) (rword : Int32) (rnumber : Int32) (rletters : Int64) (rtapeF : Nat → Int32) (gp : Nat) (k109 : Nat) (x110 : Int32) (k111 : Nat) (x112 : Int32) (k113 : Nat) (x114 : Int32) (x115 : Int32) (w116 : Int64) (f119 : Nat → Int64) (f120 : Nat → Int32) (f121 : Nat → Int64) (f122 : Nat → Int32) (f123 : Nat → Int32) (f124 : Nat → Int32) (k127 : Nat) (k128 : Nat) (x129 : Int32) (x130 : Int32) (x131 : Int32) (k132 : Nat) (k133 : Nat) (f134 : Nat → Int32) (z106 : Nat) (z107 : Nat → Nat) (z108 : Nat → Nat) (n146 : Nat) (r151 : Int32) (rplaceG_338 : Nat) (rkindG_339 : Int32) (rbeginG_340 : Nat) (rwordG_341 : Int32) (rnumberG_342 : Int32) (rlettersG_343 : Int64) (boatsG_346 : Nat) (boatNamesG_347 : Nat → Int64) (boatCellsG_348 : Nat → Int32) (loadsG_349 : Nat → Int32) (spoonsG_350 : Nat → Int32) (rplaceG_371 : Nat) (rkindG_372 : Int32) (rbeginG_373 : Nat) (rwordG_374 : Int32) (rnumberG_375 : Int32) (rlettersG_376 : Int64) (y390 : Int32) (iv_rreader_0 : rlength ≤ 940) (iv_rreader_1 : rplace ≤ rlength) (iv_rreader_2 : rmostBytes ≤ 900) (iv_rreader_3 : rbegin ≤ 940) (hTC : TC bt rtapeF) (hRT : RT bt rlength rmostBytes gp rkind rbegin rplace rword rnumber rletters) (hgl : gp ≤ rlength) (j135 : k109 ≤ 900) (j136 : k111 ≤ 940) (j137 : k113 ≤ 940) (j138 : k111 ≤ rlength) (j139 : 2 ≤ k127) (j140 : k127 ≤ 6) (j141 : 2 ≤ k128) (j142 : k128 ≤ 6) (j143 : k132 ≤ 6) (j144 : k133 ≤ 6) (jRT : RT bt rlength rmostBytes z106 x112 k113 k111 x114 x115 w116) (jCS : CS z107 z108 k127 k128 x129 x130 x131 k132 k133 f134 f119 f120 f121 f122 f123 f124) (jSW : SW z107 z108) (jTB : TB x110 z107) (jPL : pLoop bt rlength rmostBytes 1000 gp s0 (fun _ => 0) 0 = pLoop bt rlength rmostBytes (1000 - k109) z106 z107 z108 k109) (j2k : 2 * k109 ≤ z106) (jLe : z106 ≤ rlength) (hm148 : 900 - k109 < n146 + 1) (c149 : k109 < 900) (c150 : ¬ x112 = 0) (p152 : r151 = x114) (c158 : r151 = nI 3) (p354 : rplaceG_338 ≤ rlength) (p355 : rbeginG_340 ≤ 940) (p356 : boatsG_346 ≤ 6) (t357 : isO (pBoat bt rlength rmostBytes z106 z107 z108) = true) (t358 : RT bt rlength rmostBytes (lrP (pBoat bt rlength rmostBytes z106 z107 z108)) rkindG_339 rbeginG_340 rplaceG_338 rwordG_341 rnumberG_342 rlettersG_343) (t359 : CS (lrS (pBoat bt rlength rmostBytes z106 z107 z108)) (lrN (pBoat bt rlength rmostBytes z106 z107 z108)) k127 k128 x129 x130 x131 k132 boatsG_346 f134 f119 f120 boatNamesG_347 boatCellsG_348 loadsG_349 spoonsG_350) (t360 : SW (lrS (pBoat bt rlength rmostBytes z106 z107 z108)) (lrN (pBoat bt rlength rmostBytes z106 z107 z108))) (t363 : FLG 3 z107 (lrS (pBoat bt rlength rmostBytes z106 z107 z108))) (p380 : rplaceG_371 ≤ rlength) (p381 : rbeginG_373 ≤ 940) (t382 : nI (tK bt rlength rmostBytes (lrP (pBoat bt rlength rmostBytes z106 z107 z108))) = (nI 59)) (t383 : RT bt rlength rmostBytes (tT bt rlength rmostBytes (lrP (pBoat bt rlength rmostBytes z106 z107 z108))) rkindG_372 rbeginG_373 rplaceG_371 rwordG_374 rnumberG_375 rlettersG_376) (e391 : y390 = x110 ||| (nI 8)) : 900 - (k109 + 1) < n146 := by
  have b_rkind := ia_b rkind
  have b_rword := ia_b rword
  have b_rnumber := ia_b rnumber
  have b_x110 := ia_b x110
  have b_x112 := ia_b x112
  have b_x114 := ia_b x114
  have b_x115 := ia_b x115
  have b_x129 := ia_b x129
  have b_x130 := ia_b x130
  have b_x131 := ia_b x131
  have b_r151 := ia_b r151
  have b_rkindG_339 := ia_b rkindG_339
  have b_rwordG_341 := ia_b rwordG_341
  have b_rnumberG_342 := ia_b rnumberG_342
  have b_rkindG_372 := ia_b rkindG_372
  have b_rwordG_374 := ia_b rwordG_374
  have b_rnumberG_375 := ia_b rnumberG_375
  have b_y390 := ia_b y390
  have b_rletters := Int64.toInt_lt rletters
  have b_w116 := Int64.toInt_lt w116
  have b_rlettersG_343 := Int64.toInt_lt rlettersG_343
  have b_rlettersG_376 := Int64.toInt_lt rlettersG_376
  try have k_0 := ia_n 3 (by first | decide | omega)
  try have k_1 := ia_n (tK bt rlength rmostBytes (lrP (pBoat bt rlength rmostBytes z106 z107 z108))) (by first | decide | omega)
  try have k_2 := ia_n 59 (by first | decide | omega)
  try have k_3 := ia_n 8 (by first | decide | omega)
  try simp only [ia_lt, ia_le, ia_eq, ia_m1, ia_0, ia_1, ne_eq, true_and, and_true, false_and, and_false, or_false, false_or, or_true, true_or, not_true_eq_false, not_false_eq_true] at *
  all_goals omega
set_option maxRecDepth 20000 in
theorem lf_f_read_42 (bt : Nat → Nat) (rlength : Nat) (rmostBytes : Nat) (rplace : Nat) (rkind : Int32) (rbegin : Nat) (rword : Int32) (rnumber : Int32) (rletters : Int64) (rtapeF : Nat → Int32) (gp : Nat) (k109 : Nat) (x110 : Int32) (k111 : Nat) (x112 : Int32) (k113 : Nat) (x114 : Int32) (x115 : Int32) (w116 : Int64) (f119 : Nat → Int64) (f120 : Nat → Int32) (f121 : Nat → Int64) (f122 : Nat → Int32) (f123 : Nat → Int32) (f124 : Nat → Int32) (k127 : Nat) (k128 : Nat) (x129 : Int32) (x130 : Int32) (x131 : Int32) (k132 : Nat) (k133 : Nat) (f134 : Nat → Int32) (z106 : Nat) (z107 : Nat → Nat) (z108 : Nat → Nat) (n146 : Nat) (r151 : Int32) (rplaceG_338 : Nat) (rkindG_339 : Int32) (rbeginG_340 : Nat) (rwordG_341 : Int32) (rnumberG_342 : Int32) (rlettersG_343 : Int64) (boatsG_346 : Nat) (boatNamesG_347 : Nat → Int64) (boatCellsG_348 : Nat → Int32) (loadsG_349 : Nat → Int32) (spoonsG_350 : Nat → Int32) (rplaceG_371 : Nat) (rfaultKindG_377 : Int32) (rfaultPlaceG_378 : Int32) (iv_rreader_0 : rlength ≤ 940) (iv_rreader_1 : rplace ≤ rlength) (iv_rreader_2 : rmostBytes ≤ 900) (iv_rreader_3 : rbegin ≤ 940) (hTC : TC bt rtapeF) (hRT : RT bt rlength rmostBytes gp rkind rbegin rplace rword rnumber rletters) (hgl : gp ≤ rlength) (j135 : k109 ≤ 900) (j136 : k111 ≤ 940) (j137 : k113 ≤ 940) (j138 : k111 ≤ rlength) (j139 : 2 ≤ k127) (j140 : k127 ≤ 6) (j141 : 2 ≤ k128) (j142 : k128 ≤ 6) (j143 : k132 ≤ 6) (j144 : k133 ≤ 6) (jRT : RT bt rlength rmostBytes z106 x112 k113 k111 x114 x115 w116) (jCS : CS z107 z108 k127 k128 x129 x130 x131 k132 k133 f134 f119 f120 f121 f122 f123 f124) (jSW : SW z107 z108) (jTB : TB x110 z107) (jPL : pLoop bt rlength rmostBytes 1000 gp s0 (fun _ => 0) 0 = pLoop bt rlength rmostBytes (1000 - k109) z106 z107 z108 k109) (j2k : 2 * k109 ≤ z106) (jLe : z106 ≤ rlength) (hm148 : 900 - k109 < n146 + 1) (c149 : k109 < 900) (c150 : ¬ x112 = 0) (p152 : r151 = x114) (c158 : r151 = nI 3) (p354 : rplaceG_338 ≤ rlength) (p355 : rbeginG_340 ≤ 940) (p356 : boatsG_346 ≤ 6) (t357 : isO (pBoat bt rlength rmostBytes z106 z107 z108) = true) (t358 : RT bt rlength rmostBytes (lrP (pBoat bt rlength rmostBytes z106 z107 z108)) rkindG_339 rbeginG_340 rplaceG_338 rwordG_341 rnumberG_342 rlettersG_343) (t359 : CS (lrS (pBoat bt rlength rmostBytes z106 z107 z108)) (lrN (pBoat bt rlength rmostBytes z106 z107 z108)) k127 k128 x129 x130 x131 k132 boatsG_346 f134 f119 f120 boatNamesG_347 boatCellsG_348 loadsG_349 spoonsG_350) (t360 : SW (lrS (pBoat bt rlength rmostBytes z106 z107 z108)) (lrN (pBoat bt rlength rmostBytes z106 z107 z108))) (t363 : FLG 3 z107 (lrS (pBoat bt rlength rmostBytes z106 z107 z108))) (p380 : rplaceG_371 ≤ rlength) (t386 : ¬ nI (tK bt rlength rmostBytes (lrP (pBoat bt rlength rmostBytes z106 z107 z108))) = (nI 59)) (t387 : rfaultKindG_377 = nI 1) (t388 : rfaultPlaceG_378 = nI (tF bt rlength rmostBytes (lrP (pBoat bt rlength rmostBytes z106 z107 z108)))) : isO (pLoop bt rlength rmostBytes 1000 gp s0 (fun _ => 0) 0) = false ∧ rfaultKindG_377 = nI (erA (pLoop bt rlength rmostBytes 1000 gp s0 (fun _ => 0) 0)) ∧ rfaultPlaceG_378 = nI (erB (pLoop bt rlength rmostBytes 1000 gp s0 (fun _ => 0) 0)) := by
  have hk0 : tK bt rlength rmostBytes z106 ≠ 0 := fun h9 => absurd ((RT_k jRT (by decide)).mpr h9) (by
    have kk0 := ia_n 0 (by decide)
    have b_rkind := ia_b rkind
    have b_rword := ia_b rword
    have b_rnumber := ia_b rnumber
    have b_x110 := ia_b x110
    have b_x112 := ia_b x112
    have b_x114 := ia_b x114
    have b_x115 := ia_b x115
    have b_x129 := ia_b x129
    have b_x130 := ia_b x130
    have b_x131 := ia_b x131
    have b_r151 := ia_b r151
    have b_rkindG_339 := ia_b rkindG_339
    have b_rwordG_341 := ia_b rwordG_341
    have b_rnumberG_342 := ia_b rnumberG_342
    have b_rfaultKindG_377 := ia_b rfaultKindG_377
    have b_rfaultPlaceG_378 := ia_b rfaultPlaceG_378
    have b_rletters := Int64.toInt_lt rletters
    have b_w116 := Int64.toInt_lt w116
    have b_rlettersG_343 := Int64.toInt_lt rlettersG_343
    try have k_0 := ia_n 3 (by first | decide | omega)
    try have k_1 := ia_n (tK bt rlength rmostBytes (lrP (pBoat bt rlength rmostBytes z106 z107 z108))) (by first | decide | omega)
    try have k_2 := ia_n 59 (by first | decide | omega)
    try have k_3 := ia_n 1 (by first | decide | omega)
    try have k_4 := ia_n (tF bt rlength rmostBytes (lrP (pBoat bt rlength rmostBytes z106 z107 z108))) (by first | decide | omega)
    try have k_5 := ia_n (erA (pLoop bt rlength rmostBytes 1000 gp s0 (fun _ => 0) 0)) (by first | decide | omega)
    try have k_6 := ia_n (erB (pLoop bt rlength rmostBytes 1000 gp s0 (fun _ => 0) 0)) (by first | decide | omega)
    try simp only [ia_lt, ia_le, ia_eq, ia_m1, ia_0, ia_1, ne_eq, true_and, and_true, false_and, and_false, or_false, false_or, or_true, true_or, not_true_eq_false, not_false_eq_true] at *
    all_goals omega)
  have hW : tW bt rlength rmostBytes z106 = 3 := (RT_w jRT (by decide)).mp (by
    have kk3 := ia_n 3 (by decide)
    have b_rkind := ia_b rkind
    have b_rword := ia_b rword
    have b_rnumber := ia_b rnumber
    have b_x110 := ia_b x110
    have b_x112 := ia_b x112
    have b_x114 := ia_b x114
    have b_x115 := ia_b x115
    have b_x129 := ia_b x129
    have b_x130 := ia_b x130
    have b_x131 := ia_b x131
    have b_r151 := ia_b r151
    have b_rkindG_339 := ia_b rkindG_339
    have b_rwordG_341 := ia_b rwordG_341
    have b_rnumberG_342 := ia_b rnumberG_342
    have b_rfaultKindG_377 := ia_b rfaultKindG_377
    have b_rfaultPlaceG_378 := ia_b rfaultPlaceG_378
    have b_rletters := Int64.toInt_lt rletters
    have b_w116 := Int64.toInt_lt w116
    have b_rlettersG_343 := Int64.toInt_lt rlettersG_343
    try have k_0 := ia_n 3 (by first | decide | omega)
    try have k_1 := ia_n (tK bt rlength rmostBytes (lrP (pBoat bt rlength rmostBytes z106 z107 z108))) (by first | decide | omega)
    try have k_2 := ia_n 59 (by first | decide | omega)
    try have k_3 := ia_n 1 (by first | decide | omega)
    try have k_4 := ia_n (tF bt rlength rmostBytes (lrP (pBoat bt rlength rmostBytes z106 z107 z108))) (by first | decide | omega)
    try have k_5 := ia_n (erA (pLoop bt rlength rmostBytes 1000 gp s0 (fun _ => 0) 0)) (by first | decide | omega)
    try have k_6 := ia_n (erB (pLoop bt rlength rmostBytes 1000 gp s0 (fun _ => 0) 0)) (by first | decide | omega)
    try simp only [ia_lt, ia_le, ia_eq, ia_m1, ia_0, ia_1, ne_eq, true_and, and_true, false_and, and_false, or_false, false_or, or_true, true_or, not_true_eq_false, not_false_eq_true] at *
    all_goals omega)
  have hL := ln3 (σ := z107) (ν := z108) hW
  have e9 : 1000 - k109 = (1000 - (k109 + 1)) + 1 := by omega
  have h59 : ¬ tK bt rlength rmostBytes (lrP (pLine bt rlength rmostBytes z106 z107 z108)) = 59 := by
    rw [hL]
    have h8 := ‹¬ nI (tK bt rlength rmostBytes (lrP _)) = nI 59›
    have h7 := tK_le bt rlength rmostBytes (lrP (pLine bt rlength rmostBytes z106 z107 z108))
    rw [hL] at h7
    rw [ia_eq, ia_n _ (by omega), ia_n _ (by omega)] at h8
    omega
  have q := pL_sgn (f := 1000 - (k109 + 1)) (k := k109) hk0 (by rw [hL]; assumption) h59
  rw [hL] at q
  rw [jPL, e9, q]
  exact ⟨rfl, ‹_›, ‹_›⟩
set_option maxRecDepth 20000 in
theorem lf_f_read_43 (bt : Nat → Nat) (rlength : Nat) (rmostBytes : Nat) (rplace : Nat) (rkind : Int32) (rbegin : Nat) (rword : Int32) (rnumber : Int32) (rletters : Int64) (rtapeF : Nat → Int32) (gp : Nat) (k109 : Nat) (x110 : Int32) (k111 : Nat) (x112 : Int32) (k113 : Nat) (x114 : Int32) (x115 : Int32) (w116 : Int64) (f119 : Nat → Int64) (f120 : Nat → Int32) (f121 : Nat → Int64) (f122 : Nat → Int32) (f123 : Nat → Int32) (f124 : Nat → Int32) (k127 : Nat) (k128 : Nat) (x129 : Int32) (x130 : Int32) (x131 : Int32) (k132 : Nat) (k133 : Nat) (f134 : Nat → Int32) (z106 : Nat) (z107 : Nat → Nat) (z108 : Nat → Nat) (n146 : Nat) (r151 : Int32) (rplaceG_338 : Nat) (rfaultKindG_344 : Int32) (rfaultPlaceG_345 : Int32) (iv_rreader_0 : rlength ≤ 940) (iv_rreader_1 : rplace ≤ rlength) (iv_rreader_2 : rmostBytes ≤ 900) (iv_rreader_3 : rbegin ≤ 940) (hTC : TC bt rtapeF) (hRT : RT bt rlength rmostBytes gp rkind rbegin rplace rword rnumber rletters) (hgl : gp ≤ rlength) (j135 : k109 ≤ 900) (j136 : k111 ≤ 940) (j137 : k113 ≤ 940) (j138 : k111 ≤ rlength) (j139 : 2 ≤ k127) (j140 : k127 ≤ 6) (j141 : 2 ≤ k128) (j142 : k128 ≤ 6) (j143 : k132 ≤ 6) (j144 : k133 ≤ 6) (jRT : RT bt rlength rmostBytes z106 x112 k113 k111 x114 x115 w116) (jCS : CS z107 z108 k127 k128 x129 x130 x131 k132 k133 f134 f119 f120 f121 f122 f123 f124) (jSW : SW z107 z108) (jTB : TB x110 z107) (jPL : pLoop bt rlength rmostBytes 1000 gp s0 (fun _ => 0) 0 = pLoop bt rlength rmostBytes (1000 - k109) z106 z107 z108 k109) (j2k : 2 * k109 ≤ z106) (jLe : z106 ≤ rlength) (hm148 : 900 - k109 < n146 + 1) (c149 : k109 < 900) (c150 : ¬ x112 = 0) (p152 : r151 = x114) (c158 : r151 = nI 3) (p354 : rplaceG_338 ≤ rlength) (t364 : isO (pBoat bt rlength rmostBytes z106 z107 z108) = false) (t365 : rfaultKindG_344 = nI (erA (pBoat bt rlength rmostBytes z106 z107 z108))) (t366 : rfaultPlaceG_345 = nI (erB (pBoat bt rlength rmostBytes z106 z107 z108))) : isO (pLoop bt rlength rmostBytes 1000 gp s0 (fun _ => 0) 0) = false ∧ rfaultKindG_344 = nI (erA (pLoop bt rlength rmostBytes 1000 gp s0 (fun _ => 0) 0)) ∧ rfaultPlaceG_345 = nI (erB (pLoop bt rlength rmostBytes 1000 gp s0 (fun _ => 0) 0)) := by
  have hk0 : tK bt rlength rmostBytes z106 ≠ 0 := fun h9 => absurd ((RT_k jRT (by decide)).mpr h9) (by
    have kk0 := ia_n 0 (by decide)
    have b_rkind := ia_b rkind
    have b_rword := ia_b rword
    have b_rnumber := ia_b rnumber
    have b_x110 := ia_b x110
    have b_x112 := ia_b x112
    have b_x114 := ia_b x114
    have b_x115 := ia_b x115
    have b_x129 := ia_b x129
    have b_x130 := ia_b x130
    have b_x131 := ia_b x131
    have b_r151 := ia_b r151
    have b_rfaultKindG_344 := ia_b rfaultKindG_344
    have b_rfaultPlaceG_345 := ia_b rfaultPlaceG_345
    have b_rletters := Int64.toInt_lt rletters
    have b_w116 := Int64.toInt_lt w116
    try have k_0 := ia_n 3 (by first | decide | omega)
    try have k_1 := ia_n (erA (pBoat bt rlength rmostBytes z106 z107 z108)) (by first | decide | omega)
    try have k_2 := ia_n (erB (pBoat bt rlength rmostBytes z106 z107 z108)) (by first | decide | omega)
    try have k_3 := ia_n (erA (pLoop bt rlength rmostBytes 1000 gp s0 (fun _ => 0) 0)) (by first | decide | omega)
    try have k_4 := ia_n (erB (pLoop bt rlength rmostBytes 1000 gp s0 (fun _ => 0) 0)) (by first | decide | omega)
    try simp only [ia_lt, ia_le, ia_eq, ia_m1, ia_0, ia_1, ne_eq, true_and, and_true, false_and, and_false, or_false, false_or, or_true, true_or, not_true_eq_false, not_false_eq_true] at *
    all_goals omega)
  have hW : tW bt rlength rmostBytes z106 = 3 := (RT_w jRT (by decide)).mp (by
    have kk3 := ia_n 3 (by decide)
    have b_rkind := ia_b rkind
    have b_rword := ia_b rword
    have b_rnumber := ia_b rnumber
    have b_x110 := ia_b x110
    have b_x112 := ia_b x112
    have b_x114 := ia_b x114
    have b_x115 := ia_b x115
    have b_x129 := ia_b x129
    have b_x130 := ia_b x130
    have b_x131 := ia_b x131
    have b_r151 := ia_b r151
    have b_rfaultKindG_344 := ia_b rfaultKindG_344
    have b_rfaultPlaceG_345 := ia_b rfaultPlaceG_345
    have b_rletters := Int64.toInt_lt rletters
    have b_w116 := Int64.toInt_lt w116
    try have k_0 := ia_n 3 (by first | decide | omega)
    try have k_1 := ia_n (erA (pBoat bt rlength rmostBytes z106 z107 z108)) (by first | decide | omega)
    try have k_2 := ia_n (erB (pBoat bt rlength rmostBytes z106 z107 z108)) (by first | decide | omega)
    try have k_3 := ia_n (erA (pLoop bt rlength rmostBytes 1000 gp s0 (fun _ => 0) 0)) (by first | decide | omega)
    try have k_4 := ia_n (erB (pLoop bt rlength rmostBytes 1000 gp s0 (fun _ => 0) 0)) (by first | decide | omega)
    try simp only [ia_lt, ia_le, ia_eq, ia_m1, ia_0, ia_1, ne_eq, true_and, and_true, false_and, and_false, or_false, false_or, or_true, true_or, not_true_eq_false, not_false_eq_true] at *
    all_goals omega)
  have hL := ln3 (σ := z107) (ν := z108) hW
  have e9 : 1000 - k109 = (1000 - (k109 + 1)) + 1 := by omega
  have q := pL_err (f := 1000 - (k109 + 1)) (k := k109) hk0 (by rw [hL]; assumption)
  rw [hL] at q
  rw [jPL, e9, q]
  exact ⟨rfl, ‹_›, ‹_›⟩
set_option maxRecDepth 20000 in
theorem lf_f_read_44 (bt : Nat → Nat) (rlength : Nat) (rmostBytes : Nat) (rplace : Nat) (rkind : Int32) (rbegin : Nat) (rword : Int32) (rnumber : Int32) (rletters : Int64) (rtapeF : Nat → Int32) (gp : Nat) (k109 : Nat) (x110 : Int32) (k111 : Nat) (x112 : Int32) (k113 : Nat) (x114 : Int32) (x115 : Int32) (w116 : Int64) (f119 : Nat → Int64) (f120 : Nat → Int32) (f121 : Nat → Int64) (f122 : Nat → Int32) (f123 : Nat → Int32) (f124 : Nat → Int32) (k127 : Nat) (k128 : Nat) (x129 : Int32) (x130 : Int32) (x131 : Int32) (k132 : Nat) (k133 : Nat) (f134 : Nat → Int32) (z106 : Nat) (z107 : Nat → Nat) (z108 : Nat → Nat) (n146 : Nat) (r151 : Int32) (rplaceG_397 : Nat) (rkindG_398 : Int32) (rbeginG_399 : Nat) (rwordG_400 : Int32) (rnumberG_401 : Int32) (rlettersG_402 : Int64) (heatG_405 : Int32) (rplaceG_423 : Nat) (rkindG_424 : Int32) (rbeginG_425 : Nat) (rwordG_426 : Int32) (rnumberG_427 : Int32) (rlettersG_428 : Int64) (y442 : Int32) (iv_rreader_0 : rlength ≤ 940) (iv_rreader_1 : rplace ≤ rlength) (iv_rreader_2 : rmostBytes ≤ 900) (iv_rreader_3 : rbegin ≤ 940) (hTC : TC bt rtapeF) (hRT : RT bt rlength rmostBytes gp rkind rbegin rplace rword rnumber rletters) (hgl : gp ≤ rlength) (j135 : k109 ≤ 900) (j136 : k111 ≤ 940) (j137 : k113 ≤ 940) (j138 : k111 ≤ rlength) (j139 : 2 ≤ k127) (j140 : k127 ≤ 6) (j141 : 2 ≤ k128) (j142 : k128 ≤ 6) (j143 : k132 ≤ 6) (j144 : k133 ≤ 6) (jRT : RT bt rlength rmostBytes z106 x112 k113 k111 x114 x115 w116) (jCS : CS z107 z108 k127 k128 x129 x130 x131 k132 k133 f134 f119 f120 f121 f122 f123 f124) (jSW : SW z107 z108) (jTB : TB x110 z107) (jPL : pLoop bt rlength rmostBytes 1000 gp s0 (fun _ => 0) 0 = pLoop bt rlength rmostBytes (1000 - k109) z106 z107 z108 k109) (j2k : 2 * k109 ≤ z106) (jLe : z106 ≤ rlength) (hm148 : 900 - k109 < n146 + 1) (c149 : k109 < 900) (c150 : ¬ x112 = 0) (p152 : r151 = x114) (c159 : r151 = nI 4) (p407 : rplaceG_397 ≤ rlength) (p408 : rbeginG_399 ≤ 940) (t409 : isO (pSet bt rlength rmostBytes z106 z107 z108 4 30) = true) (t410 : RT bt rlength rmostBytes (lrP (pSet bt rlength rmostBytes z106 z107 z108 4 30)) rkindG_398 rbeginG_399 rplaceG_397 rwordG_400 rnumberG_401 rlettersG_402) (t411 : CS (lrS (pSet bt rlength rmostBytes z106 z107 z108 4 30)) (lrN (pSet bt rlength rmostBytes z106 z107 z108 4 30)) k127 k128 heatG_405 x130 x131 k132 k133 f134 f119 f120 f121 f122 f123 f124) (t412 : SW (lrS (pSet bt rlength rmostBytes z106 z107 z108 4 30)) (lrN (pSet bt rlength rmostBytes z106 z107 z108 4 30))) (t415 : FLG 4 z107 (lrS (pSet bt rlength rmostBytes z106 z107 z108 4 30))) (p432 : rplaceG_423 ≤ rlength) (p433 : rbeginG_425 ≤ 940) (t434 : nI (tK bt rlength rmostBytes (lrP (pSet bt rlength rmostBytes z106 z107 z108 4 30))) = (nI 59)) (t435 : RT bt rlength rmostBytes (tT bt rlength rmostBytes (lrP (pSet bt rlength rmostBytes z106 z107 z108 4 30))) rkindG_424 rbeginG_425 rplaceG_423 rwordG_426 rnumberG_427 rlettersG_428) (e443 : y442 = x110 ||| (nI 16)) : (k109 + 1) ≤ 900 := by
  have b_rkind := ia_b rkind
  have b_rword := ia_b rword
  have b_rnumber := ia_b rnumber
  have b_x110 := ia_b x110
  have b_x112 := ia_b x112
  have b_x114 := ia_b x114
  have b_x115 := ia_b x115
  have b_x129 := ia_b x129
  have b_x130 := ia_b x130
  have b_x131 := ia_b x131
  have b_r151 := ia_b r151
  have b_rkindG_398 := ia_b rkindG_398
  have b_rwordG_400 := ia_b rwordG_400
  have b_rnumberG_401 := ia_b rnumberG_401
  have b_heatG_405 := ia_b heatG_405
  have b_rkindG_424 := ia_b rkindG_424
  have b_rwordG_426 := ia_b rwordG_426
  have b_rnumberG_427 := ia_b rnumberG_427
  have b_y442 := ia_b y442
  have b_rletters := Int64.toInt_lt rletters
  have b_w116 := Int64.toInt_lt w116
  have b_rlettersG_402 := Int64.toInt_lt rlettersG_402
  have b_rlettersG_428 := Int64.toInt_lt rlettersG_428
  try have k_0 := ia_n 4 (by first | decide | omega)
  try have k_1 := ia_n (tK bt rlength rmostBytes (lrP (pSet bt rlength rmostBytes z106 z107 z108 4 30))) (by first | decide | omega)
  try have k_2 := ia_n 59 (by first | decide | omega)
  try have k_3 := ia_n 16 (by first | decide | omega)
  try simp only [ia_lt, ia_le, ia_eq, ia_m1, ia_0, ia_1, ne_eq, true_and, and_true, false_and, and_false, or_false, false_or, or_true, true_or, not_true_eq_false, not_false_eq_true] at *
  all_goals omega
set_option maxRecDepth 20000 in
theorem lf_f_read_45 (bt : Nat → Nat) (rlength : Nat) (rmostBytes : Nat) (rplace : Nat) (rkind : Int32) (rbegin : Nat) (rword : Int32) (rnumber : Int32) (rletters : Int64) (rtapeF : Nat → Int32) (gp : Nat) (k109 : Nat) (x110 : Int32) (k111 : Nat) (x112 : Int32) (k113 : Nat) (x114 : Int32) (x115 : Int32) (w116 : Int64) (f119 : Nat → Int64) (f120 : Nat → Int32) (f121 : Nat → Int64) (f122 : Nat → Int32) (f123 : Nat → Int32) (f124 : Nat → Int32) (k127 : Nat) (k128 : Nat) (x129 : Int32) (x130 : Int32) (x131 : Int32) (k132 : Nat) (k133 : Nat) (f134 : Nat → Int32) (z106 : Nat) (z107 : Nat → Nat) (z108 : Nat → Nat) (n146 : Nat) (r151 : Int32) (rplaceG_397 : Nat) (rkindG_398 : Int32) (rbeginG_399 : Nat) (rwordG_400 : Int32) (rnumberG_401 : Int32) (rlettersG_402 : Int64) (heatG_405 : Int32) (rplaceG_423 : Nat) (rkindG_424 : Int32) (rbeginG_425 : Nat) (rwordG_426 : Int32) (rnumberG_427 : Int32) (rlettersG_428 : Int64) (y442 : Int32) (iv_rreader_0 : rlength ≤ 940) (iv_rreader_1 : rplace ≤ rlength) (iv_rreader_2 : rmostBytes ≤ 900) (iv_rreader_3 : rbegin ≤ 940) (hTC : TC bt rtapeF) (hRT : RT bt rlength rmostBytes gp rkind rbegin rplace rword rnumber rletters) (hgl : gp ≤ rlength) (j135 : k109 ≤ 900) (j136 : k111 ≤ 940) (j137 : k113 ≤ 940) (j138 : k111 ≤ rlength) (j139 : 2 ≤ k127) (j140 : k127 ≤ 6) (j141 : 2 ≤ k128) (j142 : k128 ≤ 6) (j143 : k132 ≤ 6) (j144 : k133 ≤ 6) (jRT : RT bt rlength rmostBytes z106 x112 k113 k111 x114 x115 w116) (jCS : CS z107 z108 k127 k128 x129 x130 x131 k132 k133 f134 f119 f120 f121 f122 f123 f124) (jSW : SW z107 z108) (jTB : TB x110 z107) (jPL : pLoop bt rlength rmostBytes 1000 gp s0 (fun _ => 0) 0 = pLoop bt rlength rmostBytes (1000 - k109) z106 z107 z108 k109) (j2k : 2 * k109 ≤ z106) (jLe : z106 ≤ rlength) (hm148 : 900 - k109 < n146 + 1) (c149 : k109 < 900) (c150 : ¬ x112 = 0) (p152 : r151 = x114) (c159 : r151 = nI 4) (p407 : rplaceG_397 ≤ rlength) (p408 : rbeginG_399 ≤ 940) (t409 : isO (pSet bt rlength rmostBytes z106 z107 z108 4 30) = true) (t410 : RT bt rlength rmostBytes (lrP (pSet bt rlength rmostBytes z106 z107 z108 4 30)) rkindG_398 rbeginG_399 rplaceG_397 rwordG_400 rnumberG_401 rlettersG_402) (t411 : CS (lrS (pSet bt rlength rmostBytes z106 z107 z108 4 30)) (lrN (pSet bt rlength rmostBytes z106 z107 z108 4 30)) k127 k128 heatG_405 x130 x131 k132 k133 f134 f119 f120 f121 f122 f123 f124) (t412 : SW (lrS (pSet bt rlength rmostBytes z106 z107 z108 4 30)) (lrN (pSet bt rlength rmostBytes z106 z107 z108 4 30))) (t415 : FLG 4 z107 (lrS (pSet bt rlength rmostBytes z106 z107 z108 4 30))) (p432 : rplaceG_423 ≤ rlength) (p433 : rbeginG_425 ≤ 940) (t434 : nI (tK bt rlength rmostBytes (lrP (pSet bt rlength rmostBytes z106 z107 z108 4 30))) = (nI 59)) (t435 : RT bt rlength rmostBytes (tT bt rlength rmostBytes (lrP (pSet bt rlength rmostBytes z106 z107 z108 4 30))) rkindG_424 rbeginG_425 rplaceG_423 rwordG_426 rnumberG_427 rlettersG_428) (e443 : y442 = x110 ||| (nI 16)) : rplaceG_423 ≤ 940 := by
  have b_rkind := ia_b rkind
  have b_rword := ia_b rword
  have b_rnumber := ia_b rnumber
  have b_x110 := ia_b x110
  have b_x112 := ia_b x112
  have b_x114 := ia_b x114
  have b_x115 := ia_b x115
  have b_x129 := ia_b x129
  have b_x130 := ia_b x130
  have b_x131 := ia_b x131
  have b_r151 := ia_b r151
  have b_rkindG_398 := ia_b rkindG_398
  have b_rwordG_400 := ia_b rwordG_400
  have b_rnumberG_401 := ia_b rnumberG_401
  have b_heatG_405 := ia_b heatG_405
  have b_rkindG_424 := ia_b rkindG_424
  have b_rwordG_426 := ia_b rwordG_426
  have b_rnumberG_427 := ia_b rnumberG_427
  have b_y442 := ia_b y442
  have b_rletters := Int64.toInt_lt rletters
  have b_w116 := Int64.toInt_lt w116
  have b_rlettersG_402 := Int64.toInt_lt rlettersG_402
  have b_rlettersG_428 := Int64.toInt_lt rlettersG_428
  try have k_0 := ia_n 4 (by first | decide | omega)
  try have k_1 := ia_n (tK bt rlength rmostBytes (lrP (pSet bt rlength rmostBytes z106 z107 z108 4 30))) (by first | decide | omega)
  try have k_2 := ia_n 59 (by first | decide | omega)
  try have k_3 := ia_n 16 (by first | decide | omega)
  try simp only [ia_lt, ia_le, ia_eq, ia_m1, ia_0, ia_1, ne_eq, true_and, and_true, false_and, and_false, or_false, false_or, or_true, true_or, not_true_eq_false, not_false_eq_true] at *
  all_goals omega
set_option maxRecDepth 20000 in
theorem lf_f_read_46 (bt : Nat → Nat) (rlength : Nat) (rmostBytes : Nat) (rplace : Nat) (rkind : Int32) (rbegin : Nat) (rword : Int32) (rnumber : Int32) (rletters : Int64) (rtapeF : Nat → Int32) (gp : Nat) (k109 : Nat) (x110 : Int32) (k111 : Nat) (x112 : Int32) (k113 : Nat) (x114 : Int32) (x115 : Int32) (w116 : Int64) (f119 : Nat → Int64) (f120 : Nat → Int32) (f121 : Nat → Int64) (f122 : Nat → Int32) (f123 : Nat → Int32) (f124 : Nat → Int32) (k127 : Nat) (k128 : Nat) (x129 : Int32) (x130 : Int32) (x131 : Int32) (k132 : Nat) (k133 : Nat) (f134 : Nat → Int32) (z106 : Nat) (z107 : Nat → Nat) (z108 : Nat → Nat) (n146 : Nat) (r151 : Int32) (rplaceG_397 : Nat) (rkindG_398 : Int32) (rbeginG_399 : Nat) (rwordG_400 : Int32) (rnumberG_401 : Int32) (rlettersG_402 : Int64) (heatG_405 : Int32) (rplaceG_423 : Nat) (rkindG_424 : Int32) (rbeginG_425 : Nat) (rwordG_426 : Int32) (rnumberG_427 : Int32) (rlettersG_428 : Int64) (y442 : Int32) (iv_rreader_0 : rlength ≤ 940) (iv_rreader_1 : rplace ≤ rlength) (iv_rreader_2 : rmostBytes ≤ 900) (iv_rreader_3 : rbegin ≤ 940) (hTC : TC bt rtapeF) (hRT : RT bt rlength rmostBytes gp rkind rbegin rplace rword rnumber rletters) (hgl : gp ≤ rlength) (j135 : k109 ≤ 900) (j136 : k111 ≤ 940) (j137 : k113 ≤ 940) (j138 : k111 ≤ rlength) (j139 : 2 ≤ k127) (j140 : k127 ≤ 6) (j141 : 2 ≤ k128) (j142 : k128 ≤ 6) (j143 : k132 ≤ 6) (j144 : k133 ≤ 6) (jRT : RT bt rlength rmostBytes z106 x112 k113 k111 x114 x115 w116) (jCS : CS z107 z108 k127 k128 x129 x130 x131 k132 k133 f134 f119 f120 f121 f122 f123 f124) (jSW : SW z107 z108) (jTB : TB x110 z107) (jPL : pLoop bt rlength rmostBytes 1000 gp s0 (fun _ => 0) 0 = pLoop bt rlength rmostBytes (1000 - k109) z106 z107 z108 k109) (j2k : 2 * k109 ≤ z106) (jLe : z106 ≤ rlength) (hm148 : 900 - k109 < n146 + 1) (c149 : k109 < 900) (c150 : ¬ x112 = 0) (p152 : r151 = x114) (c159 : r151 = nI 4) (p407 : rplaceG_397 ≤ rlength) (p408 : rbeginG_399 ≤ 940) (t409 : isO (pSet bt rlength rmostBytes z106 z107 z108 4 30) = true) (t410 : RT bt rlength rmostBytes (lrP (pSet bt rlength rmostBytes z106 z107 z108 4 30)) rkindG_398 rbeginG_399 rplaceG_397 rwordG_400 rnumberG_401 rlettersG_402) (t411 : CS (lrS (pSet bt rlength rmostBytes z106 z107 z108 4 30)) (lrN (pSet bt rlength rmostBytes z106 z107 z108 4 30)) k127 k128 heatG_405 x130 x131 k132 k133 f134 f119 f120 f121 f122 f123 f124) (t412 : SW (lrS (pSet bt rlength rmostBytes z106 z107 z108 4 30)) (lrN (pSet bt rlength rmostBytes z106 z107 z108 4 30))) (t415 : FLG 4 z107 (lrS (pSet bt rlength rmostBytes z106 z107 z108 4 30))) (p432 : rplaceG_423 ≤ rlength) (p433 : rbeginG_425 ≤ 940) (t434 : nI (tK bt rlength rmostBytes (lrP (pSet bt rlength rmostBytes z106 z107 z108 4 30))) = (nI 59)) (t435 : RT bt rlength rmostBytes (tT bt rlength rmostBytes (lrP (pSet bt rlength rmostBytes z106 z107 z108 4 30))) rkindG_424 rbeginG_425 rplaceG_423 rwordG_426 rnumberG_427 rlettersG_428) (e443 : y442 = x110 ||| (nI 16)) : TB y442 (lrS (pSet bt rlength rmostBytes z106 z107 z108 4 30)) := by
  have q := ‹FLG 4 _ _›
  have q2 := TB_or jTB jSW (k := 4) (by decide) q.1 q.2
  subst_vars
  exact q2
set_option maxRecDepth 20000 in
theorem lf_f_read_47 (bt : Nat → Nat) (rlength : Nat) (rmostBytes : Nat) (rplace : Nat) (rkind : Int32) (rbegin : Nat) (rword : Int32) (rnumber : Int32) (rletters : Int64) (rtapeF : Nat → Int32) (gp : Nat) (k109 : Nat) (x110 : Int32) (k111 : Nat) (x112 : Int32) (k113 : Nat) (x114 : Int32) (x115 : Int32) (w116 : Int64) (f119 : Nat → Int64) (f120 : Nat → Int32) (f121 : Nat → Int64) (f122 : Nat → Int32) (f123 : Nat → Int32) (f124 : Nat → Int32) (k127 : Nat) (k128 : Nat) (x129 : Int32) (x130 : Int32) (x131 : Int32) (k132 : Nat) (k133 : Nat) (f134 : Nat → Int32) (z106 : Nat) (z107 : Nat → Nat) (z108 : Nat → Nat) (n146 : Nat) (r151 : Int32) (rplaceG_397 : Nat) (rkindG_398 : Int32) (rbeginG_399 : Nat) (rwordG_400 : Int32) (rnumberG_401 : Int32) (rlettersG_402 : Int64) (heatG_405 : Int32) (rplaceG_423 : Nat) (rkindG_424 : Int32) (rbeginG_425 : Nat) (rwordG_426 : Int32) (rnumberG_427 : Int32) (rlettersG_428 : Int64) (y442 : Int32) (iv_rreader_0 : rlength ≤ 940) (iv_rreader_1 : rplace ≤ rlength) (iv_rreader_2 : rmostBytes ≤ 900) (iv_rreader_3 : rbegin ≤ 940) (hTC : TC bt rtapeF) (hRT : RT bt rlength rmostBytes gp rkind rbegin rplace rword rnumber rletters) (hgl : gp ≤ rlength) (j135 : k109 ≤ 900) (j136 : k111 ≤ 940) (j137 : k113 ≤ 940) (j138 : k111 ≤ rlength) (j139 : 2 ≤ k127) (j140 : k127 ≤ 6) (j141 : 2 ≤ k128) (j142 : k128 ≤ 6) (j143 : k132 ≤ 6) (j144 : k133 ≤ 6) (jRT : RT bt rlength rmostBytes z106 x112 k113 k111 x114 x115 w116) (jCS : CS z107 z108 k127 k128 x129 x130 x131 k132 k133 f134 f119 f120 f121 f122 f123 f124) (jSW : SW z107 z108) (jTB : TB x110 z107) (jPL : pLoop bt rlength rmostBytes 1000 gp s0 (fun _ => 0) 0 = pLoop bt rlength rmostBytes (1000 - k109) z106 z107 z108 k109) (j2k : 2 * k109 ≤ z106) (jLe : z106 ≤ rlength) (hm148 : 900 - k109 < n146 + 1) (c149 : k109 < 900) (c150 : ¬ x112 = 0) (p152 : r151 = x114) (c159 : r151 = nI 4) (p407 : rplaceG_397 ≤ rlength) (p408 : rbeginG_399 ≤ 940) (t409 : isO (pSet bt rlength rmostBytes z106 z107 z108 4 30) = true) (t410 : RT bt rlength rmostBytes (lrP (pSet bt rlength rmostBytes z106 z107 z108 4 30)) rkindG_398 rbeginG_399 rplaceG_397 rwordG_400 rnumberG_401 rlettersG_402) (t411 : CS (lrS (pSet bt rlength rmostBytes z106 z107 z108 4 30)) (lrN (pSet bt rlength rmostBytes z106 z107 z108 4 30)) k127 k128 heatG_405 x130 x131 k132 k133 f134 f119 f120 f121 f122 f123 f124) (t412 : SW (lrS (pSet bt rlength rmostBytes z106 z107 z108 4 30)) (lrN (pSet bt rlength rmostBytes z106 z107 z108 4 30))) (t415 : FLG 4 z107 (lrS (pSet bt rlength rmostBytes z106 z107 z108 4 30))) (p432 : rplaceG_423 ≤ rlength) (p433 : rbeginG_425 ≤ 940) (t434 : nI (tK bt rlength rmostBytes (lrP (pSet bt rlength rmostBytes z106 z107 z108 4 30))) = (nI 59)) (t435 : RT bt rlength rmostBytes (tT bt rlength rmostBytes (lrP (pSet bt rlength rmostBytes z106 z107 z108 4 30))) rkindG_424 rbeginG_425 rplaceG_423 rwordG_426 rnumberG_427 rlettersG_428) (e443 : y442 = x110 ||| (nI 16)) : pLoop bt rlength rmostBytes 1000 gp s0 (fun _ => 0) 0 = pLoop bt rlength rmostBytes (1000 - (k109 + 1)) (tT bt rlength rmostBytes (lrP (pSet bt rlength rmostBytes z106 z107 z108 4 30))) (lrS (pSet bt rlength rmostBytes z106 z107 z108 4 30)) (lrN (pSet bt rlength rmostBytes z106 z107 z108 4 30)) (k109 + 1) := by
  have hk0 : tK bt rlength rmostBytes z106 ≠ 0 := fun h9 => absurd ((RT_k jRT (by decide)).mpr h9) (by
    have kk0 := ia_n 0 (by decide)
    have b_rkind := ia_b rkind
    have b_rword := ia_b rword
    have b_rnumber := ia_b rnumber
    have b_x110 := ia_b x110
    have b_x112 := ia_b x112
    have b_x114 := ia_b x114
    have b_x115 := ia_b x115
    have b_x129 := ia_b x129
    have b_x130 := ia_b x130
    have b_x131 := ia_b x131
    have b_r151 := ia_b r151
    have b_rkindG_398 := ia_b rkindG_398
    have b_rwordG_400 := ia_b rwordG_400
    have b_rnumberG_401 := ia_b rnumberG_401
    have b_heatG_405 := ia_b heatG_405
    have b_rkindG_424 := ia_b rkindG_424
    have b_rwordG_426 := ia_b rwordG_426
    have b_rnumberG_427 := ia_b rnumberG_427
    have b_y442 := ia_b y442
    have b_rletters := Int64.toInt_lt rletters
    have b_w116 := Int64.toInt_lt w116
    have b_rlettersG_402 := Int64.toInt_lt rlettersG_402
    have b_rlettersG_428 := Int64.toInt_lt rlettersG_428
    try have k_0 := ia_n 4 (by first | decide | omega)
    try have k_1 := ia_n (tK bt rlength rmostBytes (lrP (pSet bt rlength rmostBytes z106 z107 z108 4 30))) (by first | decide | omega)
    try have k_2 := ia_n 59 (by first | decide | omega)
    try have k_3 := ia_n 16 (by first | decide | omega)
    try simp only [ia_lt, ia_le, ia_eq, ia_m1, ia_0, ia_1, ne_eq, true_and, and_true, false_and, and_false, or_false, false_or, or_true, true_or, not_true_eq_false, not_false_eq_true] at *
    all_goals omega)
  have hW : tW bt rlength rmostBytes z106 = 4 := (RT_w jRT (by decide)).mp (by
    have kk4 := ia_n 4 (by decide)
    have b_rkind := ia_b rkind
    have b_rword := ia_b rword
    have b_rnumber := ia_b rnumber
    have b_x110 := ia_b x110
    have b_x112 := ia_b x112
    have b_x114 := ia_b x114
    have b_x115 := ia_b x115
    have b_x129 := ia_b x129
    have b_x130 := ia_b x130
    have b_x131 := ia_b x131
    have b_r151 := ia_b r151
    have b_rkindG_398 := ia_b rkindG_398
    have b_rwordG_400 := ia_b rwordG_400
    have b_rnumberG_401 := ia_b rnumberG_401
    have b_heatG_405 := ia_b heatG_405
    have b_rkindG_424 := ia_b rkindG_424
    have b_rwordG_426 := ia_b rwordG_426
    have b_rnumberG_427 := ia_b rnumberG_427
    have b_y442 := ia_b y442
    have b_rletters := Int64.toInt_lt rletters
    have b_w116 := Int64.toInt_lt w116
    have b_rlettersG_402 := Int64.toInt_lt rlettersG_402
    have b_rlettersG_428 := Int64.toInt_lt rlettersG_428
    try have k_0 := ia_n 4 (by first | decide | omega)
    try have k_1 := ia_n (tK bt rlength rmostBytes (lrP (pSet bt rlength rmostBytes z106 z107 z108 4 30))) (by first | decide | omega)
    try have k_2 := ia_n 59 (by first | decide | omega)
    try have k_3 := ia_n 16 (by first | decide | omega)
    try simp only [ia_lt, ia_le, ia_eq, ia_m1, ia_0, ia_1, ne_eq, true_and, and_true, false_and, and_false, or_false, false_or, or_true, true_or, not_true_eq_false, not_false_eq_true] at *
    all_goals omega)
  have hL := ln4 (σ := z107) (ν := z108) hW
  have e9 : 1000 - k109 = (1000 - (k109 + 1)) + 1 := by omega
  have h59 : tK bt rlength rmostBytes (lrP (pLine bt rlength rmostBytes z106 z107 z108)) = 59 := by
    rw [hL]
    have h8 := ‹nI (tK bt rlength rmostBytes (lrP _)) = nI 59›
    have h7 := tK_le bt rlength rmostBytes (lrP (pLine bt rlength rmostBytes z106 z107 z108))
    rw [hL] at h7
    rw [ia_eq, ia_n _ (by omega), ia_n _ (by omega)] at h8
    omega
  have q := pL_step (f := 1000 - (k109 + 1)) (k := k109) hk0 (by rw [hL]; assumption) h59
  rw [hL] at q
  rw [jPL, e9]
  exact q
set_option maxRecDepth 20000 in
theorem lf_f_read_48 (bt : Nat → Nat) (rlength : Nat) (rmostBytes : Nat) (rplace : Nat) (rkind : Int32) (rbegin : Nat) (rword : Int32) (rnumber : Int32) (rletters : Int64) (rtapeF : Nat → Int32) (gp : Nat) (k109 : Nat) (x110 : Int32) (k111 : Nat) (x112 : Int32) (k113 : Nat) (x114 : Int32) (x115 : Int32) (w116 : Int64) (f119 : Nat → Int64) (f120 : Nat → Int32) (f121 : Nat → Int64) (f122 : Nat → Int32) (f123 : Nat → Int32) (f124 : Nat → Int32) (k127 : Nat) (k128 : Nat) (x129 : Int32) (x130 : Int32) (x131 : Int32) (k132 : Nat) (k133 : Nat) (f134 : Nat → Int32) (z106 : Nat) (z107 : Nat → Nat) (z108 : Nat → Nat) (n146 : Nat) (r151 : Int32) (rplaceG_397 : Nat) (rkindG_398 : Int32) (rbeginG_399 : Nat) (rwordG_400 : Int32) (rnumberG_401 : Int32) (rlettersG_402 : Int64) (heatG_405 : Int32) (rplaceG_423 : Nat) (rkindG_424 : Int32) (rbeginG_425 : Nat) (rwordG_426 : Int32) (rnumberG_427 : Int32) (rlettersG_428 : Int64) (y442 : Int32) (iv_rreader_0 : rlength ≤ 940) (iv_rreader_1 : rplace ≤ rlength) (iv_rreader_2 : rmostBytes ≤ 900) (iv_rreader_3 : rbegin ≤ 940) (hTC : TC bt rtapeF) (hRT : RT bt rlength rmostBytes gp rkind rbegin rplace rword rnumber rletters) (hgl : gp ≤ rlength) (j135 : k109 ≤ 900) (j136 : k111 ≤ 940) (j137 : k113 ≤ 940) (j138 : k111 ≤ rlength) (j139 : 2 ≤ k127) (j140 : k127 ≤ 6) (j141 : 2 ≤ k128) (j142 : k128 ≤ 6) (j143 : k132 ≤ 6) (j144 : k133 ≤ 6) (jRT : RT bt rlength rmostBytes z106 x112 k113 k111 x114 x115 w116) (jCS : CS z107 z108 k127 k128 x129 x130 x131 k132 k133 f134 f119 f120 f121 f122 f123 f124) (jSW : SW z107 z108) (jTB : TB x110 z107) (jPL : pLoop bt rlength rmostBytes 1000 gp s0 (fun _ => 0) 0 = pLoop bt rlength rmostBytes (1000 - k109) z106 z107 z108 k109) (j2k : 2 * k109 ≤ z106) (jLe : z106 ≤ rlength) (hm148 : 900 - k109 < n146 + 1) (c149 : k109 < 900) (c150 : ¬ x112 = 0) (p152 : r151 = x114) (c159 : r151 = nI 4) (p407 : rplaceG_397 ≤ rlength) (p408 : rbeginG_399 ≤ 940) (t409 : isO (pSet bt rlength rmostBytes z106 z107 z108 4 30) = true) (t410 : RT bt rlength rmostBytes (lrP (pSet bt rlength rmostBytes z106 z107 z108 4 30)) rkindG_398 rbeginG_399 rplaceG_397 rwordG_400 rnumberG_401 rlettersG_402) (t411 : CS (lrS (pSet bt rlength rmostBytes z106 z107 z108 4 30)) (lrN (pSet bt rlength rmostBytes z106 z107 z108 4 30)) k127 k128 heatG_405 x130 x131 k132 k133 f134 f119 f120 f121 f122 f123 f124) (t412 : SW (lrS (pSet bt rlength rmostBytes z106 z107 z108 4 30)) (lrN (pSet bt rlength rmostBytes z106 z107 z108 4 30))) (t415 : FLG 4 z107 (lrS (pSet bt rlength rmostBytes z106 z107 z108 4 30))) (p432 : rplaceG_423 ≤ rlength) (p433 : rbeginG_425 ≤ 940) (t434 : nI (tK bt rlength rmostBytes (lrP (pSet bt rlength rmostBytes z106 z107 z108 4 30))) = (nI 59)) (t435 : RT bt rlength rmostBytes (tT bt rlength rmostBytes (lrP (pSet bt rlength rmostBytes z106 z107 z108 4 30))) rkindG_424 rbeginG_425 rplaceG_423 rwordG_426 rnumberG_427 rlettersG_428) (e443 : y442 = x110 ||| (nI 16)) : 2 * (k109 + 1) ≤ (tT bt rlength rmostBytes (lrP (pSet bt rlength rmostBytes z106 z107 z108 4 30))) := by
  have hk0 : tK bt rlength rmostBytes z106 ≠ 0 := fun h9 => absurd ((RT_k jRT (by decide)).mpr h9) (by
    have kk0 := ia_n 0 (by decide)
    have b_rkind := ia_b rkind
    have b_rword := ia_b rword
    have b_rnumber := ia_b rnumber
    have b_x110 := ia_b x110
    have b_x112 := ia_b x112
    have b_x114 := ia_b x114
    have b_x115 := ia_b x115
    have b_x129 := ia_b x129
    have b_x130 := ia_b x130
    have b_x131 := ia_b x131
    have b_r151 := ia_b r151
    have b_rkindG_398 := ia_b rkindG_398
    have b_rwordG_400 := ia_b rwordG_400
    have b_rnumberG_401 := ia_b rnumberG_401
    have b_heatG_405 := ia_b heatG_405
    have b_rkindG_424 := ia_b rkindG_424
    have b_rwordG_426 := ia_b rwordG_426
    have b_rnumberG_427 := ia_b rnumberG_427
    have b_y442 := ia_b y442
    have b_rletters := Int64.toInt_lt rletters
    have b_w116 := Int64.toInt_lt w116
    have b_rlettersG_402 := Int64.toInt_lt rlettersG_402
    have b_rlettersG_428 := Int64.toInt_lt rlettersG_428
    try have k_0 := ia_n 4 (by first | decide | omega)
    try have k_1 := ia_n (tK bt rlength rmostBytes (lrP (pSet bt rlength rmostBytes z106 z107 z108 4 30))) (by first | decide | omega)
    try have k_2 := ia_n 59 (by first | decide | omega)
    try have k_3 := ia_n 16 (by first | decide | omega)
    try simp only [ia_lt, ia_le, ia_eq, ia_m1, ia_0, ia_1, ne_eq, true_and, and_true, false_and, and_false, or_false, false_or, or_true, true_or, not_true_eq_false, not_false_eq_true] at *
    all_goals omega)
  have hW : tW bt rlength rmostBytes z106 = 4 := (RT_w jRT (by decide)).mp (by
    have kk4 := ia_n 4 (by decide)
    have b_rkind := ia_b rkind
    have b_rword := ia_b rword
    have b_rnumber := ia_b rnumber
    have b_x110 := ia_b x110
    have b_x112 := ia_b x112
    have b_x114 := ia_b x114
    have b_x115 := ia_b x115
    have b_x129 := ia_b x129
    have b_x130 := ia_b x130
    have b_x131 := ia_b x131
    have b_r151 := ia_b r151
    have b_rkindG_398 := ia_b rkindG_398
    have b_rwordG_400 := ia_b rwordG_400
    have b_rnumberG_401 := ia_b rnumberG_401
    have b_heatG_405 := ia_b heatG_405
    have b_rkindG_424 := ia_b rkindG_424
    have b_rwordG_426 := ia_b rwordG_426
    have b_rnumberG_427 := ia_b rnumberG_427
    have b_y442 := ia_b y442
    have b_rletters := Int64.toInt_lt rletters
    have b_w116 := Int64.toInt_lt w116
    have b_rlettersG_402 := Int64.toInt_lt rlettersG_402
    have b_rlettersG_428 := Int64.toInt_lt rlettersG_428
    try have k_0 := ia_n 4 (by first | decide | omega)
    try have k_1 := ia_n (tK bt rlength rmostBytes (lrP (pSet bt rlength rmostBytes z106 z107 z108 4 30))) (by first | decide | omega)
    try have k_2 := ia_n 59 (by first | decide | omega)
    try have k_3 := ia_n 16 (by first | decide | omega)
    try simp only [ia_lt, ia_le, ia_eq, ia_m1, ia_0, ia_1, ne_eq, true_and, and_true, false_and, and_false, or_false, false_or, or_true, true_or, not_true_eq_false, not_false_eq_true] at *
    all_goals omega)
  have hL := ln4 (σ := z107) (ν := z108) hW
  have e9 : 1000 - k109 = (1000 - (k109 + 1)) + 1 := by omega
  have h59 : tK bt rlength rmostBytes (lrP (pLine bt rlength rmostBytes z106 z107 z108)) = 59 := by
    rw [hL]
    have h8 := ‹nI (tK bt rlength rmostBytes (lrP _)) = nI 59›
    have h7 := tK_le bt rlength rmostBytes (lrP (pLine bt rlength rmostBytes z106 z107 z108))
    rw [hL] at h7
    rw [ia_eq, ia_n _ (by omega), ia_n _ (by omega)] at h8
    omega
  have q := pLine_pos (B := bt) (m := rmostBytes) (σ := z107) (ν := z108) jLe (by rw [hL]; assumption)
  have q2 := tT_gt (B := bt) (n := rlength) (m := rmostBytes) (p := lrP (pLine bt rlength rmostBytes z106 z107 z108)) (by omega) (by omega)
  have q3 := tT_le (B := bt) rmostBytes q.2
  rw [hL] at q q2 q3
  omega
set_option maxRecDepth 20000 in
theorem lf_f_read_49 (bt : Nat → Nat) (rlength : Nat) (rmostBytes : Nat) (rplace : Nat) (rkind : Int32) (rbegin : Nat) (rword : Int32) (rnumber : Int32) (rletters : Int64) (rtapeF : Nat → Int32) (gp : Nat) (k109 : Nat) (x110 : Int32) (k111 : Nat) (x112 : Int32) (k113 : Nat) (x114 : Int32) (x115 : Int32) (w116 : Int64) (f119 : Nat → Int64) (f120 : Nat → Int32) (f121 : Nat → Int64) (f122 : Nat → Int32) (f123 : Nat → Int32) (f124 : Nat → Int32) (k127 : Nat) (k128 : Nat) (x129 : Int32) (x130 : Int32) (x131 : Int32) (k132 : Nat) (k133 : Nat) (f134 : Nat → Int32) (z106 : Nat) (z107 : Nat → Nat) (z108 : Nat → Nat) (n146 : Nat) (r151 : Int32) (rplaceG_397 : Nat) (rkindG_398 : Int32) (rbeginG_399 : Nat) (rwordG_400 : Int32) (rnumberG_401 : Int32) (rlettersG_402 : Int64) (heatG_405 : Int32) (rplaceG_423 : Nat) (rkindG_424 : Int32) (rbeginG_425 : Nat) (rwordG_426 : Int32) (rnumberG_427 : Int32) (rlettersG_428 : Int64) (y442 : Int32) (iv_rreader_0 : rlength ≤ 940) (iv_rreader_1 : rplace ≤ rlength) (iv_rreader_2 : rmostBytes ≤ 900) (iv_rreader_3 : rbegin ≤ 940) (hTC : TC bt rtapeF) (hRT : RT bt rlength rmostBytes gp rkind rbegin rplace rword rnumber rletters) (hgl : gp ≤ rlength) (j135 : k109 ≤ 900) (j136 : k111 ≤ 940) (j137 : k113 ≤ 940) (j138 : k111 ≤ rlength) (j139 : 2 ≤ k127) (j140 : k127 ≤ 6) (j141 : 2 ≤ k128) (j142 : k128 ≤ 6) (j143 : k132 ≤ 6) (j144 : k133 ≤ 6) (jRT : RT bt rlength rmostBytes z106 x112 k113 k111 x114 x115 w116) (jCS : CS z107 z108 k127 k128 x129 x130 x131 k132 k133 f134 f119 f120 f121 f122 f123 f124) (jSW : SW z107 z108) (jTB : TB x110 z107) (jPL : pLoop bt rlength rmostBytes 1000 gp s0 (fun _ => 0) 0 = pLoop bt rlength rmostBytes (1000 - k109) z106 z107 z108 k109) (j2k : 2 * k109 ≤ z106) (jLe : z106 ≤ rlength) (hm148 : 900 - k109 < n146 + 1) (c149 : k109 < 900) (c150 : ¬ x112 = 0) (p152 : r151 = x114) (c159 : r151 = nI 4) (p407 : rplaceG_397 ≤ rlength) (p408 : rbeginG_399 ≤ 940) (t409 : isO (pSet bt rlength rmostBytes z106 z107 z108 4 30) = true) (t410 : RT bt rlength rmostBytes (lrP (pSet bt rlength rmostBytes z106 z107 z108 4 30)) rkindG_398 rbeginG_399 rplaceG_397 rwordG_400 rnumberG_401 rlettersG_402) (t411 : CS (lrS (pSet bt rlength rmostBytes z106 z107 z108 4 30)) (lrN (pSet bt rlength rmostBytes z106 z107 z108 4 30)) k127 k128 heatG_405 x130 x131 k132 k133 f134 f119 f120 f121 f122 f123 f124) (t412 : SW (lrS (pSet bt rlength rmostBytes z106 z107 z108 4 30)) (lrN (pSet bt rlength rmostBytes z106 z107 z108 4 30))) (t415 : FLG 4 z107 (lrS (pSet bt rlength rmostBytes z106 z107 z108 4 30))) (p432 : rplaceG_423 ≤ rlength) (p433 : rbeginG_425 ≤ 940) (t434 : nI (tK bt rlength rmostBytes (lrP (pSet bt rlength rmostBytes z106 z107 z108 4 30))) = (nI 59)) (t435 : RT bt rlength rmostBytes (tT bt rlength rmostBytes (lrP (pSet bt rlength rmostBytes z106 z107 z108 4 30))) rkindG_424 rbeginG_425 rplaceG_423 rwordG_426 rnumberG_427 rlettersG_428) (e443 : y442 = x110 ||| (nI 16)) : (tT bt rlength rmostBytes (lrP (pSet bt rlength rmostBytes z106 z107 z108 4 30))) ≤ rlength := by
  have hk0 : tK bt rlength rmostBytes z106 ≠ 0 := fun h9 => absurd ((RT_k jRT (by decide)).mpr h9) (by
    have kk0 := ia_n 0 (by decide)
    have b_rkind := ia_b rkind
    have b_rword := ia_b rword
    have b_rnumber := ia_b rnumber
    have b_x110 := ia_b x110
    have b_x112 := ia_b x112
    have b_x114 := ia_b x114
    have b_x115 := ia_b x115
    have b_x129 := ia_b x129
    have b_x130 := ia_b x130
    have b_x131 := ia_b x131
    have b_r151 := ia_b r151
    have b_rkindG_398 := ia_b rkindG_398
    have b_rwordG_400 := ia_b rwordG_400
    have b_rnumberG_401 := ia_b rnumberG_401
    have b_heatG_405 := ia_b heatG_405
    have b_rkindG_424 := ia_b rkindG_424
    have b_rwordG_426 := ia_b rwordG_426
    have b_rnumberG_427 := ia_b rnumberG_427
    have b_y442 := ia_b y442
    have b_rletters := Int64.toInt_lt rletters
    have b_w116 := Int64.toInt_lt w116
    have b_rlettersG_402 := Int64.toInt_lt rlettersG_402
    have b_rlettersG_428 := Int64.toInt_lt rlettersG_428
    try have k_0 := ia_n 4 (by first | decide | omega)
    try have k_1 := ia_n (tK bt rlength rmostBytes (lrP (pSet bt rlength rmostBytes z106 z107 z108 4 30))) (by first | decide | omega)
    try have k_2 := ia_n 59 (by first | decide | omega)
    try have k_3 := ia_n 16 (by first | decide | omega)
    try simp only [ia_lt, ia_le, ia_eq, ia_m1, ia_0, ia_1, ne_eq, true_and, and_true, false_and, and_false, or_false, false_or, or_true, true_or, not_true_eq_false, not_false_eq_true] at *
    all_goals omega)
  have hW : tW bt rlength rmostBytes z106 = 4 := (RT_w jRT (by decide)).mp (by
    have kk4 := ia_n 4 (by decide)
    have b_rkind := ia_b rkind
    have b_rword := ia_b rword
    have b_rnumber := ia_b rnumber
    have b_x110 := ia_b x110
    have b_x112 := ia_b x112
    have b_x114 := ia_b x114
    have b_x115 := ia_b x115
    have b_x129 := ia_b x129
    have b_x130 := ia_b x130
    have b_x131 := ia_b x131
    have b_r151 := ia_b r151
    have b_rkindG_398 := ia_b rkindG_398
    have b_rwordG_400 := ia_b rwordG_400
    have b_rnumberG_401 := ia_b rnumberG_401
    have b_heatG_405 := ia_b heatG_405
    have b_rkindG_424 := ia_b rkindG_424
    have b_rwordG_426 := ia_b rwordG_426
    have b_rnumberG_427 := ia_b rnumberG_427
    have b_y442 := ia_b y442
    have b_rletters := Int64.toInt_lt rletters
    have b_w116 := Int64.toInt_lt w116
    have b_rlettersG_402 := Int64.toInt_lt rlettersG_402
    have b_rlettersG_428 := Int64.toInt_lt rlettersG_428
    try have k_0 := ia_n 4 (by first | decide | omega)
    try have k_1 := ia_n (tK bt rlength rmostBytes (lrP (pSet bt rlength rmostBytes z106 z107 z108 4 30))) (by first | decide | omega)
    try have k_2 := ia_n 59 (by first | decide | omega)
    try have k_3 := ia_n 16 (by first | decide | omega)
    try simp only [ia_lt, ia_le, ia_eq, ia_m1, ia_0, ia_1, ne_eq, true_and, and_true, false_and, and_false, or_false, false_or, or_true, true_or, not_true_eq_false, not_false_eq_true] at *
    all_goals omega)
  have hL := ln4 (σ := z107) (ν := z108) hW
  have e9 : 1000 - k109 = (1000 - (k109 + 1)) + 1 := by omega
  have h59 : tK bt rlength rmostBytes (lrP (pLine bt rlength rmostBytes z106 z107 z108)) = 59 := by
    rw [hL]
    have h8 := ‹nI (tK bt rlength rmostBytes (lrP _)) = nI 59›
    have h7 := tK_le bt rlength rmostBytes (lrP (pLine bt rlength rmostBytes z106 z107 z108))
    rw [hL] at h7
    rw [ia_eq, ia_n _ (by omega), ia_n _ (by omega)] at h8
    omega
  have q := pLine_pos (B := bt) (m := rmostBytes) (σ := z107) (ν := z108) jLe (by rw [hL]; assumption)
  have q2 := tT_gt (B := bt) (n := rlength) (m := rmostBytes) (p := lrP (pLine bt rlength rmostBytes z106 z107 z108)) (by omega) (by omega)
  have q3 := tT_le (B := bt) rmostBytes q.2
  rw [hL] at q q2 q3
  omega
set_option maxRecDepth 20000 in
theorem lf_f_read_50 (adK : Nat → Nat) (adV : Nat → Nat) (st : Nat) (qtoldWords : Int32) (bt : Nat → Nat) (reader : Nat) (rtape : Nat) (rlength : Nat) (rmostBytes : Nat) (rplace : Nat) (rkind : Int32) (rbegin : Nat) (rword : Int32) (rnumber : Int32) (rletters : Int64) (rfaultKind : Int32) (rfaultPlace : Int32) (rtapeF : Nat → Int32) (a : Nat) (wide : Nat) (high : Nat) (heat : Int32) (cools : Int32) (skinHeat : Int32) (today : Int32) (stirs : Int32) (steps : Int32) (lumps : Nat) (boats : Nat) (thickness : Nat) (lumpNames : Nat) (lumpCells : Nat) (boatNames : Nat) (boatCells : Nat) (loads : Nat) (spoons : Nat) (spoonsLeft : Nat) (depths : Nat) (thicknessF : Nat → Int32) (lumpNamesF : Nat → Int64) (lumpCellsF : Nat → Int32) (boatNamesF : Nat → Int64) (boatCellsF : Nat → Int32) (loadsF : Nat → Int32) (spoonsF : Nat → Int32) (spoonsLeftF : Nat → Int32) (depthsF : Nat → Int32) (gp : Nat) (wideG_3 : Nat) (highG_4 : Nat) (heatG_5 : Int32) (coolsG_6 : Int32) (skinHeatG_7 : Int32) (todayG_8 : Int32) (stirsG_9 : Int32) (stepsG_10 : Int32) (lumpsG_11 : Nat) (boatsG_12 : Nat) (thicknessG_13 : Nat → Int32) (k109 : Nat) (x110 : Int32) (k111 : Nat) (x112 : Int32) (k113 : Nat) (x114 : Int32) (x115 : Int32) (w116 : Int64) (x117 : Int32) (x118 : Int32) (f119 : Nat → Int64) (f120 : Nat → Int32) (f121 : Nat → Int64) (f122 : Nat → Int32) (f123 : Nat → Int32) (f124 : Nat → Int32) (f125 : Nat → Int32) (f126 : Nat → Int32) (k127 : Nat) (k128 : Nat) (x129 : Int32) (x130 : Int32) (x131 : Int32) (k132 : Nat) (k133 : Nat) (f134 : Nat → Int32) (z106 : Nat) (z107 : Nat → Nat) (z108 : Nat → Nat) (n146 : Nat) (r151 : Int32) (rplaceG_397 : Nat) (rkindG_398 : Int32) (rbeginG_399 : Nat) (rwordG_400 : Int32) (rnumberG_401 : Int32) (rlettersG_402 : Int64) (rfaultKindG_403 : Int32) (rfaultPlaceG_404 : Int32) (heatG_405 : Int32) (rplaceG_423 : Nat) (rkindG_424 : Int32) (rbeginG_425 : Nat) (rwordG_426 : Int32) (rnumberG_427 : Int32) (rlettersG_428 : Int64) (rfaultKindG_429 : Int32) (rfaultPlaceG_430 : Int32) (y442 : Int32) (iv_rreader_0 : rlength ≤ 940) (iv_rreader_1 : rplace ≤ rlength) (iv_rreader_2 : rmostBytes ≤ 900) (iv_rreader_3 : rbegin ≤ 940) (hTC : TC bt rtapeF) (iv_a_0 : 2 ≤ wide) (iv_a_1 : wide ≤ 6) (iv_a_2 : 2 ≤ high) (iv_a_3 : high ≤ 6) (iv_a_4 : lumps ≤ 6) (iv_a_5 : boats ≤ 6) (hRT : RT bt rlength rmostBytes gp rkind rbegin rplace rword rnumber rletters) (hgl : gp ≤ rlength) (p14 : 2 ≤ wideG_3) (p15 : wideG_3 ≤ 6) (p16 : 2 ≤ highG_4) (p17 : highG_4 ≤ 6) (p18 : lumpsG_11 ≤ 6) (p19 : boatsG_12 ≤ 6) (p20 : wideG_3 = 4) (p21 : highG_4 = 4) (p22 : heatG_5 = nI 10) (p23 : coolsG_6 = nI 1) (p24 : skinHeatG_7 = nI 3) (p25 : lumpsG_11 = 0) (p26 : boatsG_12 = 0) (p27 : ∀ c, c < 36 → thicknessG_13 c = nI 0) (j135 : k109 ≤ 900) (j136 : k111 ≤ 940) (j137 : k113 ≤ 940) (j138 : k111 ≤ rlength) (j139 : 2 ≤ k127) (j140 : k127 ≤ 6) (j141 : 2 ≤ k128) (j142 : k128 ≤ 6) (j143 : k132 ≤ 6) (j144 : k133 ≤ 6) (jRT : RT bt rlength rmostBytes z106 x112 k113 k111 x114 x115 w116) (jCS : CS z107 z108 k127 k128 x129 x130 x131 k132 k133 f134 f119 f120 f121 f122 f123 f124) (jSW : SW z107 z108) (jTB : TB x110 z107) (jPL : pLoop bt rlength rmostBytes 1000 gp s0 (fun _ => 0) 0 = pLoop bt rlength rmostBytes (1000 - k109) z106 z107 z108 k109) (j2k : 2 * k109 ≤ z106) (jLe : z106 ≤ rlength) (jFk : x117 = rfaultKind) (hm148 : 900 - k109 < n146 + 1) (c149 : k109 < 900) (c150 : ¬ x112 = 0) (p152 : r151 = x114) (c159 : r151 = nI 4) (p407 : rplaceG_397 ≤ rlength) (p408 : rbeginG_399 ≤ 940) (t409 : isO (pSet bt rlength rmostBytes z106 z107 z108 4 30) = true) (t410 : RT bt rlength rmostBytes (lrP (pSet bt rlength rmostBytes z106 z107 z108 4 30)) rkindG_398 rbeginG_399 rplaceG_397 rwordG_400 rnumberG_401 rlettersG_402) (t411 : CS (lrS (pSet bt rlength rmostBytes z106 z107 z108 4 30)) (lrN (pSet bt rlength rmostBytes z106 z107 z108 4 30)) k127 k128 heatG_405 x130 x131 k132 k133 f134 f119 f120 f121 f122 f123 f124) (t412 : SW (lrS (pSet bt rlength rmostBytes z106 z107 z108 4 30)) (lrN (pSet bt rlength rmostBytes z106 z107 z108 4 30))) (t413 : rfaultKindG_403 = x117) (t414 : rfaultPlaceG_404 = x118) (t415 : FLG 4 z107 (lrS (pSet bt rlength rmostBytes z106 z107 z108 4 30))) (p432 : rplaceG_423 ≤ rlength) (p433 : rbeginG_425 ≤ 940) (t434 : nI (tK bt rlength rmostBytes (lrP (pSet bt rlength rmostBytes z106 z107 z108 4 30))) = (nI 59)) (t435 : RT bt rlength rmostBytes (tT bt rlength rmostBytes (lrP (pSet bt rlength rmostBytes z106 z107 z108 4 30))) rkindG_424 rbeginG_425 rplaceG_423 rwordG_426 rnumberG_427 rlettersG_428) (t436 : rfaultKindG_429 = rfaultKindG_403) (t437 : rfaultPlaceG_430 = rfaultPlaceG_404) (e443 : y442 = x110 ||| (nI 16)) : rfaultKindG_429 = rfaultKind := by
  subst_vars
  first
    | rfl
    | assumption
set_option maxRecDepth 20000 in
theorem lf_f_read_51 (bt : Nat → Nat) (rlength : Nat) (rmostBytes : Nat) (rplace : Nat) (rkind : Int32) (rbegin : Nat) (rword : Int32) (rnumber : Int32) (rletters : Int64) (rtapeF : Nat → Int32) (gp : Nat) (k109 : Nat) (x110 : Int32) (k111 : Nat) (x112 : Int32) (k113 : Nat) (x114 : Int32) (x115 : Int32) (w116 : Int64) (f119 : Nat → Int64) (f120 : Nat → Int32) (f121 : Nat → Int64) (f122 : Nat → Int32) (f123 : Nat → Int32) (f124 : Nat → Int32) (k127 : Nat) (k128 : Nat) (x129 : Int32) (x130 : Int32) (x131 : Int32) (k132 : Nat) (k133 : Nat) (f134 : Nat → Int32) (z106 : Nat) (z107 : Nat → Nat) (z108 : Nat → Nat) (n146 : Nat) (r151 : Int32) (rplaceG_397 : Nat) (rkindG_398 : Int32) (rbeginG_399 : Nat) (rwordG_400 : Int32) (rnumberG_401 : Int32) (rlettersG_402 : Int64) (heatG_405 : Int32) (rplaceG_423 : Nat) (rkindG_424 : Int32) (rbeginG_425 : Nat) (rwordG_426 : Int32) (rnumberG_427 : Int32) (rlettersG_428 : Int64) (y442 : Int32) (iv_rreader_0 : rlength ≤ 940) (iv_rreader_1 : rplace ≤ rlength) (iv_rreader_2 : rmostBytes ≤ 900) (iv_rreader_3 : rbegin ≤ 940) (hTC : TC bt rtapeF) (hRT : RT bt rlength rmostBytes gp rkind rbegin rplace rword rnumber rletters) (hgl : gp ≤ rlength) (j135 : k109 ≤ 900) (j136 : k111 ≤ 940) (j137 : k113 ≤ 940) (j138 : k111 ≤ rlength) (j139 : 2 ≤ k127) (j140 : k127 ≤ 6) (j141 : 2 ≤ k128) (j142 : k128 ≤ 6) (j143 : k132 ≤ 6) (j144 : k133 ≤ 6) (jRT : RT bt rlength rmostBytes z106 x112 k113 k111 x114 x115 w116) (jCS : CS z107 z108 k127 k128 x129 x130 x131 k132 k133 f134 f119 f120 f121 f122 f123 f124) (jSW : SW z107 z108) (jTB : TB x110 z107) (jPL : pLoop bt rlength rmostBytes 1000 gp s0 (fun _ => 0) 0 = pLoop bt rlength rmostBytes (1000 - k109) z106 z107 z108 k109) (j2k : 2 * k109 ≤ z106) (jLe : z106 ≤ rlength) (hm148 : 900 - k109 < n146 + 1) (c149 : k109 < 900) (c150 : ¬ x112 = 0) (p152 : r151 = x114) (c159 : r151 = nI 4) (p407 : rplaceG_397 ≤ rlength) (p408 : rbeginG_399 ≤ 940) (t409 : isO (pSet bt rlength rmostBytes z106 z107 z108 4 30) = true) (t410 : RT bt rlength rmostBytes (lrP (pSet bt rlength rmostBytes z106 z107 z108 4 30)) rkindG_398 rbeginG_399 rplaceG_397 rwordG_400 rnumberG_401 rlettersG_402) (t411 : CS (lrS (pSet bt rlength rmostBytes z106 z107 z108 4 30)) (lrN (pSet bt rlength rmostBytes z106 z107 z108 4 30)) k127 k128 heatG_405 x130 x131 k132 k133 f134 f119 f120 f121 f122 f123 f124) (t412 : SW (lrS (pSet bt rlength rmostBytes z106 z107 z108 4 30)) (lrN (pSet bt rlength rmostBytes z106 z107 z108 4 30))) (t415 : FLG 4 z107 (lrS (pSet bt rlength rmostBytes z106 z107 z108 4 30))) (p432 : rplaceG_423 ≤ rlength) (p433 : rbeginG_425 ≤ 940) (t434 : nI (tK bt rlength rmostBytes (lrP (pSet bt rlength rmostBytes z106 z107 z108 4 30))) = (nI 59)) (t435 : RT bt rlength rmostBytes (tT bt rlength rmostBytes (lrP (pSet bt rlength rmostBytes z106 z107 z108 4 30))) rkindG_424 rbeginG_425 rplaceG_423 rwordG_426 rnumberG_427 rlettersG_428) (e443 : y442 = x110 ||| (nI 16)) : 900 - (k109 + 1) < n146 := by
  have b_rkind := ia_b rkind
  have b_rword := ia_b rword
  have b_rnumber := ia_b rnumber
  have b_x110 := ia_b x110
  have b_x112 := ia_b x112
  have b_x114 := ia_b x114
  have b_x115 := ia_b x115
  have b_x129 := ia_b x129
  have b_x130 := ia_b x130
  have b_x131 := ia_b x131
  have b_r151 := ia_b r151
  have b_rkindG_398 := ia_b rkindG_398
  have b_rwordG_400 := ia_b rwordG_400
  have b_rnumberG_401 := ia_b rnumberG_401
  have b_heatG_405 := ia_b heatG_405
  have b_rkindG_424 := ia_b rkindG_424
  have b_rwordG_426 := ia_b rwordG_426
  have b_rnumberG_427 := ia_b rnumberG_427
  have b_y442 := ia_b y442
  have b_rletters := Int64.toInt_lt rletters
  have b_w116 := Int64.toInt_lt w116
  have b_rlettersG_402 := Int64.toInt_lt rlettersG_402
  have b_rlettersG_428 := Int64.toInt_lt rlettersG_428
  try have k_0 := ia_n 4 (by first | decide | omega)
  try have k_1 := ia_n (tK bt rlength rmostBytes (lrP (pSet bt rlength rmostBytes z106 z107 z108 4 30))) (by first | decide | omega)
  try have k_2 := ia_n 59 (by first | decide | omega)
  try have k_3 := ia_n 16 (by first | decide | omega)
  try simp only [ia_lt, ia_le, ia_eq, ia_m1, ia_0, ia_1, ne_eq, true_and, and_true, false_and, and_false, or_false, false_or, or_true, true_or, not_true_eq_false, not_false_eq_true] at *
  all_goals omega
set_option maxRecDepth 20000 in
theorem lf_f_read_52 (bt : Nat → Nat) (rlength : Nat) (rmostBytes : Nat) (rplace : Nat) (rkind : Int32) (rbegin : Nat) (rword : Int32) (rnumber : Int32) (rletters : Int64) (rtapeF : Nat → Int32) (gp : Nat) (k109 : Nat) (x110 : Int32) (k111 : Nat) (x112 : Int32) (k113 : Nat) (x114 : Int32) (x115 : Int32) (w116 : Int64) (f119 : Nat → Int64) (f120 : Nat → Int32) (f121 : Nat → Int64) (f122 : Nat → Int32) (f123 : Nat → Int32) (f124 : Nat → Int32) (k127 : Nat) (k128 : Nat) (x129 : Int32) (x130 : Int32) (x131 : Int32) (k132 : Nat) (k133 : Nat) (f134 : Nat → Int32) (z106 : Nat) (z107 : Nat → Nat) (z108 : Nat → Nat) (n146 : Nat) (r151 : Int32) (rplaceG_397 : Nat) (rkindG_398 : Int32) (rbeginG_399 : Nat) (rwordG_400 : Int32) (rnumberG_401 : Int32) (rlettersG_402 : Int64) (heatG_405 : Int32) (rplaceG_423 : Nat) (rfaultKindG_429 : Int32) (rfaultPlaceG_430 : Int32) (iv_rreader_0 : rlength ≤ 940) (iv_rreader_1 : rplace ≤ rlength) (iv_rreader_2 : rmostBytes ≤ 900) (iv_rreader_3 : rbegin ≤ 940) (hTC : TC bt rtapeF) (hRT : RT bt rlength rmostBytes gp rkind rbegin rplace rword rnumber rletters) (hgl : gp ≤ rlength) (j135 : k109 ≤ 900) (j136 : k111 ≤ 940) (j137 : k113 ≤ 940) (j138 : k111 ≤ rlength) (j139 : 2 ≤ k127) (j140 : k127 ≤ 6) (j141 : 2 ≤ k128) (j142 : k128 ≤ 6) (j143 : k132 ≤ 6) (j144 : k133 ≤ 6) (jRT : RT bt rlength rmostBytes z106 x112 k113 k111 x114 x115 w116) (jCS : CS z107 z108 k127 k128 x129 x130 x131 k132 k133 f134 f119 f120 f121 f122 f123 f124) (jSW : SW z107 z108) (jTB : TB x110 z107) (jPL : pLoop bt rlength rmostBytes 1000 gp s0 (fun _ => 0) 0 = pLoop bt rlength rmostBytes (1000 - k109) z106 z107 z108 k109) (j2k : 2 * k109 ≤ z106) (jLe : z106 ≤ rlength) (hm148 : 900 - k109 < n146 + 1) (c149 : k109 < 900) (c150 : ¬ x112 = 0) (p152 : r151 = x114) (c159 : r151 = nI 4) (p407 : rplaceG_397 ≤ rlength) (p408 : rbeginG_399 ≤ 940) (t409 : isO (pSet bt rlength rmostBytes z106 z107 z108 4 30) = true) (t410 : RT bt rlength rmostBytes (lrP (pSet bt rlength rmostBytes z106 z107 z108 4 30)) rkindG_398 rbeginG_399 rplaceG_397 rwordG_400 rnumberG_401 rlettersG_402) (t411 : CS (lrS (pSet bt rlength rmostBytes z106 z107 z108 4 30)) (lrN (pSet bt rlength rmostBytes z106 z107 z108 4 30)) k127 k128 heatG_405 x130 x131 k132 k133 f134 f119 f120 f121 f122 f123 f124) (t412 : SW (lrS (pSet bt rlength rmostBytes z106 z107 z108 4 30)) (lrN (pSet bt rlength rmostBytes z106 z107 z108 4 30))) (t415 : FLG 4 z107 (lrS (pSet bt rlength rmostBytes z106 z107 z108 4 30))) (p432 : rplaceG_423 ≤ rlength) (t438 : ¬ nI (tK bt rlength rmostBytes (lrP (pSet bt rlength rmostBytes z106 z107 z108 4 30))) = (nI 59)) (t439 : rfaultKindG_429 = nI 1) (t440 : rfaultPlaceG_430 = nI (tF bt rlength rmostBytes (lrP (pSet bt rlength rmostBytes z106 z107 z108 4 30)))) : isO (pLoop bt rlength rmostBytes 1000 gp s0 (fun _ => 0) 0) = false ∧ rfaultKindG_429 = nI (erA (pLoop bt rlength rmostBytes 1000 gp s0 (fun _ => 0) 0)) ∧ rfaultPlaceG_430 = nI (erB (pLoop bt rlength rmostBytes 1000 gp s0 (fun _ => 0) 0)) := by
  have hk0 : tK bt rlength rmostBytes z106 ≠ 0 := fun h9 => absurd ((RT_k jRT (by decide)).mpr h9) (by
    have kk0 := ia_n 0 (by decide)
    have b_rkind := ia_b rkind
    have b_rword := ia_b rword
    have b_rnumber := ia_b rnumber
    have b_x110 := ia_b x110
    have b_x112 := ia_b x112
    have b_x114 := ia_b x114
    have b_x115 := ia_b x115
    have b_x129 := ia_b x129
    have b_x130 := ia_b x130
    have b_x131 := ia_b x131
    have b_r151 := ia_b r151
    have b_rkindG_398 := ia_b rkindG_398
    have b_rwordG_400 := ia_b rwordG_400
    have b_rnumberG_401 := ia_b rnumberG_401
    have b_heatG_405 := ia_b heatG_405
    have b_rfaultKindG_429 := ia_b rfaultKindG_429
    have b_rfaultPlaceG_430 := ia_b rfaultPlaceG_430
    have b_rletters := Int64.toInt_lt rletters
    have b_w116 := Int64.toInt_lt w116
    have b_rlettersG_402 := Int64.toInt_lt rlettersG_402
    try have k_0 := ia_n 4 (by first | decide | omega)
    try have k_1 := ia_n (tK bt rlength rmostBytes (lrP (pSet bt rlength rmostBytes z106 z107 z108 4 30))) (by first | decide | omega)
    try have k_2 := ia_n 59 (by first | decide | omega)
    try have k_3 := ia_n 1 (by first | decide | omega)
    try have k_4 := ia_n (tF bt rlength rmostBytes (lrP (pSet bt rlength rmostBytes z106 z107 z108 4 30))) (by first | decide | omega)
    try have k_5 := ia_n (erA (pLoop bt rlength rmostBytes 1000 gp s0 (fun _ => 0) 0)) (by first | decide | omega)
    try have k_6 := ia_n (erB (pLoop bt rlength rmostBytes 1000 gp s0 (fun _ => 0) 0)) (by first | decide | omega)
    try simp only [ia_lt, ia_le, ia_eq, ia_m1, ia_0, ia_1, ne_eq, true_and, and_true, false_and, and_false, or_false, false_or, or_true, true_or, not_true_eq_false, not_false_eq_true] at *
    all_goals omega)
  have hW : tW bt rlength rmostBytes z106 = 4 := (RT_w jRT (by decide)).mp (by
    have kk4 := ia_n 4 (by decide)
    have b_rkind := ia_b rkind
    have b_rword := ia_b rword
    have b_rnumber := ia_b rnumber
    have b_x110 := ia_b x110
    have b_x112 := ia_b x112
    have b_x114 := ia_b x114
    have b_x115 := ia_b x115
    have b_x129 := ia_b x129
    have b_x130 := ia_b x130
    have b_x131 := ia_b x131
    have b_r151 := ia_b r151
    have b_rkindG_398 := ia_b rkindG_398
    have b_rwordG_400 := ia_b rwordG_400
    have b_rnumberG_401 := ia_b rnumberG_401
    have b_heatG_405 := ia_b heatG_405
    have b_rfaultKindG_429 := ia_b rfaultKindG_429
    have b_rfaultPlaceG_430 := ia_b rfaultPlaceG_430
    have b_rletters := Int64.toInt_lt rletters
    have b_w116 := Int64.toInt_lt w116
    have b_rlettersG_402 := Int64.toInt_lt rlettersG_402
    try have k_0 := ia_n 4 (by first | decide | omega)
    try have k_1 := ia_n (tK bt rlength rmostBytes (lrP (pSet bt rlength rmostBytes z106 z107 z108 4 30))) (by first | decide | omega)
    try have k_2 := ia_n 59 (by first | decide | omega)
    try have k_3 := ia_n 1 (by first | decide | omega)
    try have k_4 := ia_n (tF bt rlength rmostBytes (lrP (pSet bt rlength rmostBytes z106 z107 z108 4 30))) (by first | decide | omega)
    try have k_5 := ia_n (erA (pLoop bt rlength rmostBytes 1000 gp s0 (fun _ => 0) 0)) (by first | decide | omega)
    try have k_6 := ia_n (erB (pLoop bt rlength rmostBytes 1000 gp s0 (fun _ => 0) 0)) (by first | decide | omega)
    try simp only [ia_lt, ia_le, ia_eq, ia_m1, ia_0, ia_1, ne_eq, true_and, and_true, false_and, and_false, or_false, false_or, or_true, true_or, not_true_eq_false, not_false_eq_true] at *
    all_goals omega)
  have hL := ln4 (σ := z107) (ν := z108) hW
  have e9 : 1000 - k109 = (1000 - (k109 + 1)) + 1 := by omega
  have h59 : ¬ tK bt rlength rmostBytes (lrP (pLine bt rlength rmostBytes z106 z107 z108)) = 59 := by
    rw [hL]
    have h8 := ‹¬ nI (tK bt rlength rmostBytes (lrP _)) = nI 59›
    have h7 := tK_le bt rlength rmostBytes (lrP (pLine bt rlength rmostBytes z106 z107 z108))
    rw [hL] at h7
    rw [ia_eq, ia_n _ (by omega), ia_n _ (by omega)] at h8
    omega
  have q := pL_sgn (f := 1000 - (k109 + 1)) (k := k109) hk0 (by rw [hL]; assumption) h59
  rw [hL] at q
  rw [jPL, e9, q]
  exact ⟨rfl, ‹_›, ‹_›⟩
set_option maxRecDepth 20000 in
theorem lf_f_read_53 (bt : Nat → Nat) (rlength : Nat) (rmostBytes : Nat) (rplace : Nat) (rkind : Int32) (rbegin : Nat) (rword : Int32) (rnumber : Int32) (rletters : Int64) (rtapeF : Nat → Int32) (gp : Nat) (k109 : Nat) (x110 : Int32) (k111 : Nat) (x112 : Int32) (k113 : Nat) (x114 : Int32) (x115 : Int32) (w116 : Int64) (f119 : Nat → Int64) (f120 : Nat → Int32) (f121 : Nat → Int64) (f122 : Nat → Int32) (f123 : Nat → Int32) (f124 : Nat → Int32) (k127 : Nat) (k128 : Nat) (x129 : Int32) (x130 : Int32) (x131 : Int32) (k132 : Nat) (k133 : Nat) (f134 : Nat → Int32) (z106 : Nat) (z107 : Nat → Nat) (z108 : Nat → Nat) (n146 : Nat) (r151 : Int32) (rplaceG_397 : Nat) (rfaultKindG_403 : Int32) (rfaultPlaceG_404 : Int32) (iv_rreader_0 : rlength ≤ 940) (iv_rreader_1 : rplace ≤ rlength) (iv_rreader_2 : rmostBytes ≤ 900) (iv_rreader_3 : rbegin ≤ 940) (hTC : TC bt rtapeF) (hRT : RT bt rlength rmostBytes gp rkind rbegin rplace rword rnumber rletters) (hgl : gp ≤ rlength) (j135 : k109 ≤ 900) (j136 : k111 ≤ 940) (j137 : k113 ≤ 940) (j138 : k111 ≤ rlength) (j139 : 2 ≤ k127) (j140 : k127 ≤ 6) (j141 : 2 ≤ k128) (j142 : k128 ≤ 6) (j143 : k132 ≤ 6) (j144 : k133 ≤ 6) (jRT : RT bt rlength rmostBytes z106 x112 k113 k111 x114 x115 w116) (jCS : CS z107 z108 k127 k128 x129 x130 x131 k132 k133 f134 f119 f120 f121 f122 f123 f124) (jSW : SW z107 z108) (jTB : TB x110 z107) (jPL : pLoop bt rlength rmostBytes 1000 gp s0 (fun _ => 0) 0 = pLoop bt rlength rmostBytes (1000 - k109) z106 z107 z108 k109) (j2k : 2 * k109 ≤ z106) (jLe : z106 ≤ rlength) (hm148 : 900 - k109 < n146 + 1) (c149 : k109 < 900) (c150 : ¬ x112 = 0) (p152 : r151 = x114) (c159 : r151 = nI 4) (p407 : rplaceG_397 ≤ rlength) (t416 : isO (pSet bt rlength rmostBytes z106 z107 z108 4 30) = false) (t417 : rfaultKindG_403 = nI (erA (pSet bt rlength rmostBytes z106 z107 z108 4 30))) (t418 : rfaultPlaceG_404 = nI (erB (pSet bt rlength rmostBytes z106 z107 z108 4 30))) : isO (pLoop bt rlength rmostBytes 1000 gp s0 (fun _ => 0) 0) = false ∧ rfaultKindG_403 = nI (erA (pLoop bt rlength rmostBytes 1000 gp s0 (fun _ => 0) 0)) ∧ rfaultPlaceG_404 = nI (erB (pLoop bt rlength rmostBytes 1000 gp s0 (fun _ => 0) 0)) := by
  have hk0 : tK bt rlength rmostBytes z106 ≠ 0 := fun h9 => absurd ((RT_k jRT (by decide)).mpr h9) (by
    have kk0 := ia_n 0 (by decide)
    have b_rkind := ia_b rkind
    have b_rword := ia_b rword
    have b_rnumber := ia_b rnumber
    have b_x110 := ia_b x110
    have b_x112 := ia_b x112
    have b_x114 := ia_b x114
    have b_x115 := ia_b x115
    have b_x129 := ia_b x129
    have b_x130 := ia_b x130
    have b_x131 := ia_b x131
    have b_r151 := ia_b r151
    have b_rfaultKindG_403 := ia_b rfaultKindG_403
    have b_rfaultPlaceG_404 := ia_b rfaultPlaceG_404
    have b_rletters := Int64.toInt_lt rletters
    have b_w116 := Int64.toInt_lt w116
    try have k_0 := ia_n 4 (by first | decide | omega)
    try have k_1 := ia_n (erA (pSet bt rlength rmostBytes z106 z107 z108 4 30)) (by first | decide | omega)
    try have k_2 := ia_n (erB (pSet bt rlength rmostBytes z106 z107 z108 4 30)) (by first | decide | omega)
    try have k_3 := ia_n (erA (pLoop bt rlength rmostBytes 1000 gp s0 (fun _ => 0) 0)) (by first | decide | omega)
    try have k_4 := ia_n (erB (pLoop bt rlength rmostBytes 1000 gp s0 (fun _ => 0) 0)) (by first | decide | omega)
    try simp only [ia_lt, ia_le, ia_eq, ia_m1, ia_0, ia_1, ne_eq, true_and, and_true, false_and, and_false, or_false, false_or, or_true, true_or, not_true_eq_false, not_false_eq_true] at *
    all_goals omega)
  have hW : tW bt rlength rmostBytes z106 = 4 := (RT_w jRT (by decide)).mp (by
    have kk4 := ia_n 4 (by decide)
    have b_rkind := ia_b rkind
    have b_rword := ia_b rword
    have b_rnumber := ia_b rnumber
    have b_x110 := ia_b x110
    have b_x112 := ia_b x112
    have b_x114 := ia_b x114
    have b_x115 := ia_b x115
    have b_x129 := ia_b x129
    have b_x130 := ia_b x130
    have b_x131 := ia_b x131
    have b_r151 := ia_b r151
    have b_rfaultKindG_403 := ia_b rfaultKindG_403
    have b_rfaultPlaceG_404 := ia_b rfaultPlaceG_404
    have b_rletters := Int64.toInt_lt rletters
    have b_w116 := Int64.toInt_lt w116
    try have k_0 := ia_n 4 (by first | decide | omega)
    try have k_1 := ia_n (erA (pSet bt rlength rmostBytes z106 z107 z108 4 30)) (by first | decide | omega)
    try have k_2 := ia_n (erB (pSet bt rlength rmostBytes z106 z107 z108 4 30)) (by first | decide | omega)
    try have k_3 := ia_n (erA (pLoop bt rlength rmostBytes 1000 gp s0 (fun _ => 0) 0)) (by first | decide | omega)
    try have k_4 := ia_n (erB (pLoop bt rlength rmostBytes 1000 gp s0 (fun _ => 0) 0)) (by first | decide | omega)
    try simp only [ia_lt, ia_le, ia_eq, ia_m1, ia_0, ia_1, ne_eq, true_and, and_true, false_and, and_false, or_false, false_or, or_true, true_or, not_true_eq_false, not_false_eq_true] at *
    all_goals omega)
  have hL := ln4 (σ := z107) (ν := z108) hW
  have e9 : 1000 - k109 = (1000 - (k109 + 1)) + 1 := by omega
  have q := pL_err (f := 1000 - (k109 + 1)) (k := k109) hk0 (by rw [hL]; assumption)
  rw [hL] at q
  rw [jPL, e9, q]
  exact ⟨rfl, ‹_›, ‹_›⟩
set_option maxRecDepth 20000 in
theorem lf_f_read_54 (bt : Nat → Nat) (rlength : Nat) (rmostBytes : Nat) (rplace : Nat) (rkind : Int32) (rbegin : Nat) (rword : Int32) (rnumber : Int32) (rletters : Int64) (rtapeF : Nat → Int32) (gp : Nat) (k109 : Nat) (x110 : Int32) (k111 : Nat) (x112 : Int32) (k113 : Nat) (x114 : Int32) (x115 : Int32) (w116 : Int64) (f119 : Nat → Int64) (f120 : Nat → Int32) (f121 : Nat → Int64) (f122 : Nat → Int32) (f123 : Nat → Int32) (f124 : Nat → Int32) (k127 : Nat) (k128 : Nat) (x129 : Int32) (x130 : Int32) (x131 : Int32) (k132 : Nat) (k133 : Nat) (f134 : Nat → Int32) (z106 : Nat) (z107 : Nat → Nat) (z108 : Nat → Nat) (n146 : Nat) (r151 : Int32) (rplaceG_449 : Nat) (rkindG_450 : Int32) (rbeginG_451 : Nat) (rwordG_452 : Int32) (rnumberG_453 : Int32) (rlettersG_454 : Int64) (coolsG_457 : Int32) (rplaceG_475 : Nat) (rkindG_476 : Int32) (rbeginG_477 : Nat) (rwordG_478 : Int32) (rnumberG_479 : Int32) (rlettersG_480 : Int64) (y494 : Int32) (iv_rreader_0 : rlength ≤ 940) (iv_rreader_1 : rplace ≤ rlength) (iv_rreader_2 : rmostBytes ≤ 900) (iv_rreader_3 : rbegin ≤ 940) (hTC : TC bt rtapeF) (hRT : RT bt rlength rmostBytes gp rkind rbegin rplace rword rnumber rletters) (hgl : gp ≤ rlength) (j135 : k109 ≤ 900) (j136 : k111 ≤ 940) (j137 : k113 ≤ 940) (j138 : k111 ≤ rlength) (j139 : 2 ≤ k127) (j140 : k127 ≤ 6) (j141 : 2 ≤ k128) (j142 : k128 ≤ 6) (j143 : k132 ≤ 6) (j144 : k133 ≤ 6) (jRT : RT bt rlength rmostBytes z106 x112 k113 k111 x114 x115 w116) (jCS : CS z107 z108 k127 k128 x129 x130 x131 k132 k133 f134 f119 f120 f121 f122 f123 f124) (jSW : SW z107 z108) (jTB : TB x110 z107) (jPL : pLoop bt rlength rmostBytes 1000 gp s0 (fun _ => 0) 0 = pLoop bt rlength rmostBytes (1000 - k109) z106 z107 z108 k109) (j2k : 2 * k109 ≤ z106) (jLe : z106 ≤ rlength) (hm148 : 900 - k109 < n146 + 1) (c149 : k109 < 900) (c150 : ¬ x112 = 0) (p152 : r151 = x114) (c160 : r151 = nI 5) (p459 : rplaceG_449 ≤ rlength) (p460 : rbeginG_451 ≤ 940) (t461 : isO (pSet bt rlength rmostBytes z106 z107 z108 5 5) = true) (t462 : RT bt rlength rmostBytes (lrP (pSet bt rlength rmostBytes z106 z107 z108 5 5)) rkindG_450 rbeginG_451 rplaceG_449 rwordG_452 rnumberG_453 rlettersG_454) (t463 : CS (lrS (pSet bt rlength rmostBytes z106 z107 z108 5 5)) (lrN (pSet bt rlength rmostBytes z106 z107 z108 5 5)) k127 k128 x129 coolsG_457 x131 k132 k133 f134 f119 f120 f121 f122 f123 f124) (t464 : SW (lrS (pSet bt rlength rmostBytes z106 z107 z108 5 5)) (lrN (pSet bt rlength rmostBytes z106 z107 z108 5 5))) (t467 : FLG 5 z107 (lrS (pSet bt rlength rmostBytes z106 z107 z108 5 5))) (p484 : rplaceG_475 ≤ rlength) (p485 : rbeginG_477 ≤ 940) (t486 : nI (tK bt rlength rmostBytes (lrP (pSet bt rlength rmostBytes z106 z107 z108 5 5))) = (nI 59)) (t487 : RT bt rlength rmostBytes (tT bt rlength rmostBytes (lrP (pSet bt rlength rmostBytes z106 z107 z108 5 5))) rkindG_476 rbeginG_477 rplaceG_475 rwordG_478 rnumberG_479 rlettersG_480) (e495 : y494 = x110 ||| (nI 32)) : (k109 + 1) ≤ 900 := by
  have b_rkind := ia_b rkind
  have b_rword := ia_b rword
  have b_rnumber := ia_b rnumber
  have b_x110 := ia_b x110
  have b_x112 := ia_b x112
  have b_x114 := ia_b x114
  have b_x115 := ia_b x115
  have b_x129 := ia_b x129
  have b_x130 := ia_b x130
  have b_x131 := ia_b x131
  have b_r151 := ia_b r151
  have b_rkindG_450 := ia_b rkindG_450
  have b_rwordG_452 := ia_b rwordG_452
  have b_rnumberG_453 := ia_b rnumberG_453
  have b_coolsG_457 := ia_b coolsG_457
  have b_rkindG_476 := ia_b rkindG_476
  have b_rwordG_478 := ia_b rwordG_478
  have b_rnumberG_479 := ia_b rnumberG_479
  have b_y494 := ia_b y494
  have b_rletters := Int64.toInt_lt rletters
  have b_w116 := Int64.toInt_lt w116
  have b_rlettersG_454 := Int64.toInt_lt rlettersG_454
  have b_rlettersG_480 := Int64.toInt_lt rlettersG_480
  try have k_0 := ia_n 5 (by first | decide | omega)
  try have k_1 := ia_n (tK bt rlength rmostBytes (lrP (pSet bt rlength rmostBytes z106 z107 z108 5 5))) (by first | decide | omega)
  try have k_2 := ia_n 59 (by first | decide | omega)
  try have k_3 := ia_n 32 (by first | decide | omega)
  try simp only [ia_lt, ia_le, ia_eq, ia_m1, ia_0, ia_1, ne_eq, true_and, and_true, false_and, and_false, or_false, false_or, or_true, true_or, not_true_eq_false, not_false_eq_true] at *
  all_goals omega
set_option maxRecDepth 20000 in
theorem lf_f_read_55 (bt : Nat → Nat) (rlength : Nat) (rmostBytes : Nat) (rplace : Nat) (rkind : Int32) (rbegin : Nat) (rword : Int32) (rnumber : Int32) (rletters : Int64) (rtapeF : Nat → Int32) (gp : Nat) (k109 : Nat) (x110 : Int32) (k111 : Nat) (x112 : Int32) (k113 : Nat) (x114 : Int32) (x115 : Int32) (w116 : Int64) (f119 : Nat → Int64) (f120 : Nat → Int32) (f121 : Nat → Int64) (f122 : Nat → Int32) (f123 : Nat → Int32) (f124 : Nat → Int32) (k127 : Nat) (k128 : Nat) (x129 : Int32) (x130 : Int32) (x131 : Int32) (k132 : Nat) (k133 : Nat) (f134 : Nat → Int32) (z106 : Nat) (z107 : Nat → Nat) (z108 : Nat → Nat) (n146 : Nat) (r151 : Int32) (rplaceG_449 : Nat) (rkindG_450 : Int32) (rbeginG_451 : Nat) (rwordG_452 : Int32) (rnumberG_453 : Int32) (rlettersG_454 : Int64) (coolsG_457 : Int32) (rplaceG_475 : Nat) (rkindG_476 : Int32) (rbeginG_477 : Nat) (rwordG_478 : Int32) (rnumberG_479 : Int32) (rlettersG_480 : Int64) (y494 : Int32) (iv_rreader_0 : rlength ≤ 940) (iv_rreader_1 : rplace ≤ rlength) (iv_rreader_2 : rmostBytes ≤ 900) (iv_rreader_3 : rbegin ≤ 940) (hTC : TC bt rtapeF) (hRT : RT bt rlength rmostBytes gp rkind rbegin rplace rword rnumber rletters) (hgl : gp ≤ rlength) (j135 : k109 ≤ 900) (j136 : k111 ≤ 940) (j137 : k113 ≤ 940) (j138 : k111 ≤ rlength) (j139 : 2 ≤ k127) (j140 : k127 ≤ 6) (j141 : 2 ≤ k128) (j142 : k128 ≤ 6) (j143 : k132 ≤ 6) (j144 : k133 ≤ 6) (jRT : RT bt rlength rmostBytes z106 x112 k113 k111 x114 x115 w116) (jCS : CS z107 z108 k127 k128 x129 x130 x131 k132 k133 f134 f119 f120 f121 f122 f123 f124) (jSW : SW z107 z108) (jTB : TB x110 z107) (jPL : pLoop bt rlength rmostBytes 1000 gp s0 (fun _ => 0) 0 = pLoop bt rlength rmostBytes (1000 - k109) z106 z107 z108 k109) (j2k : 2 * k109 ≤ z106) (jLe : z106 ≤ rlength) (hm148 : 900 - k109 < n146 + 1) (c149 : k109 < 900) (c150 : ¬ x112 = 0) (p152 : r151 = x114) (c160 : r151 = nI 5) (p459 : rplaceG_449 ≤ rlength) (p460 : rbeginG_451 ≤ 940) (t461 : isO (pSet bt rlength rmostBytes z106 z107 z108 5 5) = true) (t462 : RT bt rlength rmostBytes (lrP (pSet bt rlength rmostBytes z106 z107 z108 5 5)) rkindG_450 rbeginG_451 rplaceG_449 rwordG_452 rnumberG_453 rlettersG_454) (t463 : CS (lrS (pSet bt rlength rmostBytes z106 z107 z108 5 5)) (lrN (pSet bt rlength rmostBytes z106 z107 z108 5 5)) k127 k128 x129 coolsG_457 x131 k132 k133 f134 f119 f120 f121 f122 f123 f124) (t464 : SW (lrS (pSet bt rlength rmostBytes z106 z107 z108 5 5)) (lrN (pSet bt rlength rmostBytes z106 z107 z108 5 5))) (t467 : FLG 5 z107 (lrS (pSet bt rlength rmostBytes z106 z107 z108 5 5))) (p484 : rplaceG_475 ≤ rlength) (p485 : rbeginG_477 ≤ 940) (t486 : nI (tK bt rlength rmostBytes (lrP (pSet bt rlength rmostBytes z106 z107 z108 5 5))) = (nI 59)) (t487 : RT bt rlength rmostBytes (tT bt rlength rmostBytes (lrP (pSet bt rlength rmostBytes z106 z107 z108 5 5))) rkindG_476 rbeginG_477 rplaceG_475 rwordG_478 rnumberG_479 rlettersG_480) (e495 : y494 = x110 ||| (nI 32)) : rplaceG_475 ≤ 940 := by
  have b_rkind := ia_b rkind
  have b_rword := ia_b rword
  have b_rnumber := ia_b rnumber
  have b_x110 := ia_b x110
  have b_x112 := ia_b x112
  have b_x114 := ia_b x114
  have b_x115 := ia_b x115
  have b_x129 := ia_b x129
  have b_x130 := ia_b x130
  have b_x131 := ia_b x131
  have b_r151 := ia_b r151
  have b_rkindG_450 := ia_b rkindG_450
  have b_rwordG_452 := ia_b rwordG_452
  have b_rnumberG_453 := ia_b rnumberG_453
  have b_coolsG_457 := ia_b coolsG_457
  have b_rkindG_476 := ia_b rkindG_476
  have b_rwordG_478 := ia_b rwordG_478
  have b_rnumberG_479 := ia_b rnumberG_479
  have b_y494 := ia_b y494
  have b_rletters := Int64.toInt_lt rletters
  have b_w116 := Int64.toInt_lt w116
  have b_rlettersG_454 := Int64.toInt_lt rlettersG_454
  have b_rlettersG_480 := Int64.toInt_lt rlettersG_480
  try have k_0 := ia_n 5 (by first | decide | omega)
  try have k_1 := ia_n (tK bt rlength rmostBytes (lrP (pSet bt rlength rmostBytes z106 z107 z108 5 5))) (by first | decide | omega)
  try have k_2 := ia_n 59 (by first | decide | omega)
  try have k_3 := ia_n 32 (by first | decide | omega)
  try simp only [ia_lt, ia_le, ia_eq, ia_m1, ia_0, ia_1, ne_eq, true_and, and_true, false_and, and_false, or_false, false_or, or_true, true_or, not_true_eq_false, not_false_eq_true] at *
  all_goals omega
set_option maxRecDepth 20000 in
theorem lf_f_read_56 (bt : Nat → Nat) (rlength : Nat) (rmostBytes : Nat) (rplace : Nat) (rkind : Int32) (rbegin : Nat) (rword : Int32) (rnumber : Int32) (rletters : Int64) (rtapeF : Nat → Int32) (gp : Nat) (k109 : Nat) (x110 : Int32) (k111 : Nat) (x112 : Int32) (k113 : Nat) (x114 : Int32) (x115 : Int32) (w116 : Int64) (f119 : Nat → Int64) (f120 : Nat → Int32) (f121 : Nat → Int64) (f122 : Nat → Int32) (f123 : Nat → Int32) (f124 : Nat → Int32) (k127 : Nat) (k128 : Nat) (x129 : Int32) (x130 : Int32) (x131 : Int32) (k132 : Nat) (k133 : Nat) (f134 : Nat → Int32) (z106 : Nat) (z107 : Nat → Nat) (z108 : Nat → Nat) (n146 : Nat) (r151 : Int32) (rplaceG_449 : Nat) (rkindG_450 : Int32) (rbeginG_451 : Nat) (rwordG_452 : Int32) (rnumberG_453 : Int32) (rlettersG_454 : Int64) (coolsG_457 : Int32) (rplaceG_475 : Nat) (rkindG_476 : Int32) (rbeginG_477 : Nat) (rwordG_478 : Int32) (rnumberG_479 : Int32) (rlettersG_480 : Int64) (y494 : Int32) (iv_rreader_0 : rlength ≤ 940) (iv_rreader_1 : rplace ≤ rlength) (iv_rreader_2 : rmostBytes ≤ 900) (iv_rreader_3 : rbegin ≤ 940) (hTC : TC bt rtapeF) (hRT : RT bt rlength rmostBytes gp rkind rbegin rplace rword rnumber rletters) (hgl : gp ≤ rlength) (j135 : k109 ≤ 900) (j136 : k111 ≤ 940) (j137 : k113 ≤ 940) (j138 : k111 ≤ rlength) (j139 : 2 ≤ k127) (j140 : k127 ≤ 6) (j141 : 2 ≤ k128) (j142 : k128 ≤ 6) (j143 : k132 ≤ 6) (j144 : k133 ≤ 6) (jRT : RT bt rlength rmostBytes z106 x112 k113 k111 x114 x115 w116) (jCS : CS z107 z108 k127 k128 x129 x130 x131 k132 k133 f134 f119 f120 f121 f122 f123 f124) (jSW : SW z107 z108) (jTB : TB x110 z107) (jPL : pLoop bt rlength rmostBytes 1000 gp s0 (fun _ => 0) 0 = pLoop bt rlength rmostBytes (1000 - k109) z106 z107 z108 k109) (j2k : 2 * k109 ≤ z106) (jLe : z106 ≤ rlength) (hm148 : 900 - k109 < n146 + 1) (c149 : k109 < 900) (c150 : ¬ x112 = 0) (p152 : r151 = x114) (c160 : r151 = nI 5) (p459 : rplaceG_449 ≤ rlength) (p460 : rbeginG_451 ≤ 940) (t461 : isO (pSet bt rlength rmostBytes z106 z107 z108 5 5) = true) (t462 : RT bt rlength rmostBytes (lrP (pSet bt rlength rmostBytes z106 z107 z108 5 5)) rkindG_450 rbeginG_451 rplaceG_449 rwordG_452 rnumberG_453 rlettersG_454) (t463 : CS (lrS (pSet bt rlength rmostBytes z106 z107 z108 5 5)) (lrN (pSet bt rlength rmostBytes z106 z107 z108 5 5)) k127 k128 x129 coolsG_457 x131 k132 k133 f134 f119 f120 f121 f122 f123 f124) (t464 : SW (lrS (pSet bt rlength rmostBytes z106 z107 z108 5 5)) (lrN (pSet bt rlength rmostBytes z106 z107 z108 5 5))) (t467 : FLG 5 z107 (lrS (pSet bt rlength rmostBytes z106 z107 z108 5 5))) (p484 : rplaceG_475 ≤ rlength) (p485 : rbeginG_477 ≤ 940) (t486 : nI (tK bt rlength rmostBytes (lrP (pSet bt rlength rmostBytes z106 z107 z108 5 5))) = (nI 59)) (t487 : RT bt rlength rmostBytes (tT bt rlength rmostBytes (lrP (pSet bt rlength rmostBytes z106 z107 z108 5 5))) rkindG_476 rbeginG_477 rplaceG_475 rwordG_478 rnumberG_479 rlettersG_480) (e495 : y494 = x110 ||| (nI 32)) : TB y494 (lrS (pSet bt rlength rmostBytes z106 z107 z108 5 5)) := by
  have q := ‹FLG 5 _ _›
  have q2 := TB_or jTB jSW (k := 5) (by decide) q.1 q.2
  subst_vars
  exact q2
set_option maxRecDepth 20000 in
theorem lf_f_read_57 (bt : Nat → Nat) (rlength : Nat) (rmostBytes : Nat) (rplace : Nat) (rkind : Int32) (rbegin : Nat) (rword : Int32) (rnumber : Int32) (rletters : Int64) (rtapeF : Nat → Int32) (gp : Nat) (k109 : Nat) (x110 : Int32) (k111 : Nat) (x112 : Int32) (k113 : Nat) (x114 : Int32) (x115 : Int32) (w116 : Int64) (f119 : Nat → Int64) (f120 : Nat → Int32) (f121 : Nat → Int64) (f122 : Nat → Int32) (f123 : Nat → Int32) (f124 : Nat → Int32) (k127 : Nat) (k128 : Nat) (x129 : Int32) (x130 : Int32) (x131 : Int32) (k132 : Nat) (k133 : Nat) (f134 : Nat → Int32) (z106 : Nat) (z107 : Nat → Nat) (z108 : Nat → Nat) (n146 : Nat) (r151 : Int32) (rplaceG_449 : Nat) (rkindG_450 : Int32) (rbeginG_451 : Nat) (rwordG_452 : Int32) (rnumberG_453 : Int32) (rlettersG_454 : Int64) (coolsG_457 : Int32) (rplaceG_475 : Nat) (rkindG_476 : Int32) (rbeginG_477 : Nat) (rwordG_478 : Int32) (rnumberG_479 : Int32) (rlettersG_480 : Int64) (y494 : Int32) (iv_rreader_0 : rlength ≤ 940) (iv_rreader_1 : rplace ≤ rlength) (iv_rreader_2 : rmostBytes ≤ 900) (iv_rreader_3 : rbegin ≤ 940) (hTC : TC bt rtapeF) (hRT : RT bt rlength rmostBytes gp rkind rbegin rplace rword rnumber rletters) (hgl : gp ≤ rlength) (j135 : k109 ≤ 900) (j136 : k111 ≤ 940) (j137 : k113 ≤ 940) (j138 : k111 ≤ rlength) (j139 : 2 ≤ k127) (j140 : k127 ≤ 6) (j141 : 2 ≤ k128) (j142 : k128 ≤ 6) (j143 : k132 ≤ 6) (j144 : k133 ≤ 6) (jRT : RT bt rlength rmostBytes z106 x112 k113 k111 x114 x115 w116) (jCS : CS z107 z108 k127 k128 x129 x130 x131 k132 k133 f134 f119 f120 f121 f122 f123 f124) (jSW : SW z107 z108) (jTB : TB x110 z107) (jPL : pLoop bt rlength rmostBytes 1000 gp s0 (fun _ => 0) 0 = pLoop bt rlength rmostBytes (1000 - k109) z106 z107 z108 k109) (j2k : 2 * k109 ≤ z106) (jLe : z106 ≤ rlength) (hm148 : 900 - k109 < n146 + 1) (c149 : k109 < 900) (c150 : ¬ x112 = 0) (p152 : r151 = x114) (c160 : r151 = nI 5) (p459 : rplaceG_449 ≤ rlength) (p460 : rbeginG_451 ≤ 940) (t461 : isO (pSet bt rlength rmostBytes z106 z107 z108 5 5) = true) (t462 : RT bt rlength rmostBytes (lrP (pSet bt rlength rmostBytes z106 z107 z108 5 5)) rkindG_450 rbeginG_451 rplaceG_449 rwordG_452 rnumberG_453 rlettersG_454) (t463 : CS (lrS (pSet bt rlength rmostBytes z106 z107 z108 5 5)) (lrN (pSet bt rlength rmostBytes z106 z107 z108 5 5)) k127 k128 x129 coolsG_457 x131 k132 k133 f134 f119 f120 f121 f122 f123 f124) (t464 : SW (lrS (pSet bt rlength rmostBytes z106 z107 z108 5 5)) (lrN (pSet bt rlength rmostBytes z106 z107 z108 5 5))) (t467 : FLG 5 z107 (lrS (pSet bt rlength rmostBytes z106 z107 z108 5 5))) (p484 : rplaceG_475 ≤ rlength) (p485 : rbeginG_477 ≤ 940) (t486 : nI (tK bt rlength rmostBytes (lrP (pSet bt rlength rmostBytes z106 z107 z108 5 5))) = (nI 59)) (t487 : RT bt rlength rmostBytes (tT bt rlength rmostBytes (lrP (pSet bt rlength rmostBytes z106 z107 z108 5 5))) rkindG_476 rbeginG_477 rplaceG_475 rwordG_478 rnumberG_479 rlettersG_480) (e495 : y494 = x110 ||| (nI 32)) : pLoop bt rlength rmostBytes 1000 gp s0 (fun _ => 0) 0 = pLoop bt rlength rmostBytes (1000 - (k109 + 1)) (tT bt rlength rmostBytes (lrP (pSet bt rlength rmostBytes z106 z107 z108 5 5))) (lrS (pSet bt rlength rmostBytes z106 z107 z108 5 5)) (lrN (pSet bt rlength rmostBytes z106 z107 z108 5 5)) (k109 + 1) := by
  have hk0 : tK bt rlength rmostBytes z106 ≠ 0 := fun h9 => absurd ((RT_k jRT (by decide)).mpr h9) (by
    have kk0 := ia_n 0 (by decide)
    have b_rkind := ia_b rkind
    have b_rword := ia_b rword
    have b_rnumber := ia_b rnumber
    have b_x110 := ia_b x110
    have b_x112 := ia_b x112
    have b_x114 := ia_b x114
    have b_x115 := ia_b x115
    have b_x129 := ia_b x129
    have b_x130 := ia_b x130
    have b_x131 := ia_b x131
    have b_r151 := ia_b r151
    have b_rkindG_450 := ia_b rkindG_450
    have b_rwordG_452 := ia_b rwordG_452
    have b_rnumberG_453 := ia_b rnumberG_453
    have b_coolsG_457 := ia_b coolsG_457
    have b_rkindG_476 := ia_b rkindG_476
    have b_rwordG_478 := ia_b rwordG_478
    have b_rnumberG_479 := ia_b rnumberG_479
    have b_y494 := ia_b y494
    have b_rletters := Int64.toInt_lt rletters
    have b_w116 := Int64.toInt_lt w116
    have b_rlettersG_454 := Int64.toInt_lt rlettersG_454
    have b_rlettersG_480 := Int64.toInt_lt rlettersG_480
    try have k_0 := ia_n 5 (by first | decide | omega)
    try have k_1 := ia_n (tK bt rlength rmostBytes (lrP (pSet bt rlength rmostBytes z106 z107 z108 5 5))) (by first | decide | omega)
    try have k_2 := ia_n 59 (by first | decide | omega)
    try have k_3 := ia_n 32 (by first | decide | omega)
    try simp only [ia_lt, ia_le, ia_eq, ia_m1, ia_0, ia_1, ne_eq, true_and, and_true, false_and, and_false, or_false, false_or, or_true, true_or, not_true_eq_false, not_false_eq_true] at *
    all_goals omega)
  have hW : tW bt rlength rmostBytes z106 = 5 := (RT_w jRT (by decide)).mp (by
    have kk5 := ia_n 5 (by decide)
    have b_rkind := ia_b rkind
    have b_rword := ia_b rword
    have b_rnumber := ia_b rnumber
    have b_x110 := ia_b x110
    have b_x112 := ia_b x112
    have b_x114 := ia_b x114
    have b_x115 := ia_b x115
    have b_x129 := ia_b x129
    have b_x130 := ia_b x130
    have b_x131 := ia_b x131
    have b_r151 := ia_b r151
    have b_rkindG_450 := ia_b rkindG_450
    have b_rwordG_452 := ia_b rwordG_452
    have b_rnumberG_453 := ia_b rnumberG_453
    have b_coolsG_457 := ia_b coolsG_457
    have b_rkindG_476 := ia_b rkindG_476
    have b_rwordG_478 := ia_b rwordG_478
    have b_rnumberG_479 := ia_b rnumberG_479
    have b_y494 := ia_b y494
    have b_rletters := Int64.toInt_lt rletters
    have b_w116 := Int64.toInt_lt w116
    have b_rlettersG_454 := Int64.toInt_lt rlettersG_454
    have b_rlettersG_480 := Int64.toInt_lt rlettersG_480
    try have k_0 := ia_n 5 (by first | decide | omega)
    try have k_1 := ia_n (tK bt rlength rmostBytes (lrP (pSet bt rlength rmostBytes z106 z107 z108 5 5))) (by first | decide | omega)
    try have k_2 := ia_n 59 (by first | decide | omega)
    try have k_3 := ia_n 32 (by first | decide | omega)
    try simp only [ia_lt, ia_le, ia_eq, ia_m1, ia_0, ia_1, ne_eq, true_and, and_true, false_and, and_false, or_false, false_or, or_true, true_or, not_true_eq_false, not_false_eq_true] at *
    all_goals omega)
  have hL := ln5 (σ := z107) (ν := z108) hW
  have e9 : 1000 - k109 = (1000 - (k109 + 1)) + 1 := by omega
  have h59 : tK bt rlength rmostBytes (lrP (pLine bt rlength rmostBytes z106 z107 z108)) = 59 := by
    rw [hL]
    have h8 := ‹nI (tK bt rlength rmostBytes (lrP _)) = nI 59›
    have h7 := tK_le bt rlength rmostBytes (lrP (pLine bt rlength rmostBytes z106 z107 z108))
    rw [hL] at h7
    rw [ia_eq, ia_n _ (by omega), ia_n _ (by omega)] at h8
    omega
  have q := pL_step (f := 1000 - (k109 + 1)) (k := k109) hk0 (by rw [hL]; assumption) h59
  rw [hL] at q
  rw [jPL, e9]
  exact q
set_option maxRecDepth 20000 in
theorem lf_f_read_58 (bt : Nat → Nat) (rlength : Nat) (rmostBytes : Nat) (rplace : Nat) (rkind : Int32) (rbegin : Nat) (rword : Int32) (rnumber : Int32) (rletters : Int64) (rtapeF : Nat → Int32) (gp : Nat) (k109 : Nat) (x110 : Int32) (k111 : Nat) (x112 : Int32) (k113 : Nat) (x114 : Int32) (x115 : Int32) (w116 : Int64) (f119 : Nat → Int64) (f120 : Nat → Int32) (f121 : Nat → Int64) (f122 : Nat → Int32) (f123 : Nat → Int32) (f124 : Nat → Int32) (k127 : Nat) (k128 : Nat) (x129 : Int32) (x130 : Int32) (x131 : Int32) (k132 : Nat) (k133 : Nat) (f134 : Nat → Int32) (z106 : Nat) (z107 : Nat → Nat) (z108 : Nat → Nat) (n146 : Nat) (r151 : Int32) (rplaceG_449 : Nat) (rkindG_450 : Int32) (rbeginG_451 : Nat) (rwordG_452 : Int32) (rnumberG_453 : Int32) (rlettersG_454 : Int64) (coolsG_457 : Int32) (rplaceG_475 : Nat) (rkindG_476 : Int32) (rbeginG_477 : Nat) (rwordG_478 : Int32) (rnumberG_479 : Int32) (rlettersG_480 : Int64) (y494 : Int32) (iv_rreader_0 : rlength ≤ 940) (iv_rreader_1 : rplace ≤ rlength) (iv_rreader_2 : rmostBytes ≤ 900) (iv_rreader_3 : rbegin ≤ 940) (hTC : TC bt rtapeF) (hRT : RT bt rlength rmostBytes gp rkind rbegin rplace rword rnumber rletters) (hgl : gp ≤ rlength) (j135 : k109 ≤ 900) (j136 : k111 ≤ 940) (j137 : k113 ≤ 940) (j138 : k111 ≤ rlength) (j139 : 2 ≤ k127) (j140 : k127 ≤ 6) (j141 : 2 ≤ k128) (j142 : k128 ≤ 6) (j143 : k132 ≤ 6) (j144 : k133 ≤ 6) (jRT : RT bt rlength rmostBytes z106 x112 k113 k111 x114 x115 w116) (jCS : CS z107 z108 k127 k128 x129 x130 x131 k132 k133 f134 f119 f120 f121 f122 f123 f124) (jSW : SW z107 z108) (jTB : TB x110 z107) (jPL : pLoop bt rlength rmostBytes 1000 gp s0 (fun _ => 0) 0 = pLoop bt rlength rmostBytes (1000 - k109) z106 z107 z108 k109) (j2k : 2 * k109 ≤ z106) (jLe : z106 ≤ rlength) (hm148 : 900 - k109 < n146 + 1) (c149 : k109 < 900) (c150 : ¬ x112 = 0) (p152 : r151 = x114) (c160 : r151 = nI 5) (p459 : rplaceG_449 ≤ rlength) (p460 : rbeginG_451 ≤ 940) (t461 : isO (pSet bt rlength rmostBytes z106 z107 z108 5 5) = true) (t462 : RT bt rlength rmostBytes (lrP (pSet bt rlength rmostBytes z106 z107 z108 5 5)) rkindG_450 rbeginG_451 rplaceG_449 rwordG_452 rnumberG_453 rlettersG_454) (t463 : CS (lrS (pSet bt rlength rmostBytes z106 z107 z108 5 5)) (lrN (pSet bt rlength rmostBytes z106 z107 z108 5 5)) k127 k128 x129 coolsG_457 x131 k132 k133 f134 f119 f120 f121 f122 f123 f124) (t464 : SW (lrS (pSet bt rlength rmostBytes z106 z107 z108 5 5)) (lrN (pSet bt rlength rmostBytes z106 z107 z108 5 5))) (t467 : FLG 5 z107 (lrS (pSet bt rlength rmostBytes z106 z107 z108 5 5))) (p484 : rplaceG_475 ≤ rlength) (p485 : rbeginG_477 ≤ 940) (t486 : nI (tK bt rlength rmostBytes (lrP (pSet bt rlength rmostBytes z106 z107 z108 5 5))) = (nI 59)) (t487 : RT bt rlength rmostBytes (tT bt rlength rmostBytes (lrP (pSet bt rlength rmostBytes z106 z107 z108 5 5))) rkindG_476 rbeginG_477 rplaceG_475 rwordG_478 rnumberG_479 rlettersG_480) (e495 : y494 = x110 ||| (nI 32)) : 2 * (k109 + 1) ≤ (tT bt rlength rmostBytes (lrP (pSet bt rlength rmostBytes z106 z107 z108 5 5))) := by
  have hk0 : tK bt rlength rmostBytes z106 ≠ 0 := fun h9 => absurd ((RT_k jRT (by decide)).mpr h9) (by
    have kk0 := ia_n 0 (by decide)
    have b_rkind := ia_b rkind
    have b_rword := ia_b rword
    have b_rnumber := ia_b rnumber
    have b_x110 := ia_b x110
    have b_x112 := ia_b x112
    have b_x114 := ia_b x114
    have b_x115 := ia_b x115
    have b_x129 := ia_b x129
    have b_x130 := ia_b x130
    have b_x131 := ia_b x131
    have b_r151 := ia_b r151
    have b_rkindG_450 := ia_b rkindG_450
    have b_rwordG_452 := ia_b rwordG_452
    have b_rnumberG_453 := ia_b rnumberG_453
    have b_coolsG_457 := ia_b coolsG_457
    have b_rkindG_476 := ia_b rkindG_476
    have b_rwordG_478 := ia_b rwordG_478
    have b_rnumberG_479 := ia_b rnumberG_479
    have b_y494 := ia_b y494
    have b_rletters := Int64.toInt_lt rletters
    have b_w116 := Int64.toInt_lt w116
    have b_rlettersG_454 := Int64.toInt_lt rlettersG_454
    have b_rlettersG_480 := Int64.toInt_lt rlettersG_480
    try have k_0 := ia_n 5 (by first | decide | omega)
    try have k_1 := ia_n (tK bt rlength rmostBytes (lrP (pSet bt rlength rmostBytes z106 z107 z108 5 5))) (by first | decide | omega)
    try have k_2 := ia_n 59 (by first | decide | omega)
    try have k_3 := ia_n 32 (by first | decide | omega)
    try simp only [ia_lt, ia_le, ia_eq, ia_m1, ia_0, ia_1, ne_eq, true_and, and_true, false_and, and_false, or_false, false_or, or_true, true_or, not_true_eq_false, not_false_eq_true] at *
    all_goals omega)
  have hW : tW bt rlength rmostBytes z106 = 5 := (RT_w jRT (by decide)).mp (by
    have kk5 := ia_n 5 (by decide)
    have b_rkind := ia_b rkind
    have b_rword := ia_b rword
    have b_rnumber := ia_b rnumber
    have b_x110 := ia_b x110
    have b_x112 := ia_b x112
    have b_x114 := ia_b x114
    have b_x115 := ia_b x115
    have b_x129 := ia_b x129
    have b_x130 := ia_b x130
    have b_x131 := ia_b x131
    have b_r151 := ia_b r151
    have b_rkindG_450 := ia_b rkindG_450
    have b_rwordG_452 := ia_b rwordG_452
    have b_rnumberG_453 := ia_b rnumberG_453
    have b_coolsG_457 := ia_b coolsG_457
    have b_rkindG_476 := ia_b rkindG_476
    have b_rwordG_478 := ia_b rwordG_478
    have b_rnumberG_479 := ia_b rnumberG_479
    have b_y494 := ia_b y494
    have b_rletters := Int64.toInt_lt rletters
    have b_w116 := Int64.toInt_lt w116
    have b_rlettersG_454 := Int64.toInt_lt rlettersG_454
    have b_rlettersG_480 := Int64.toInt_lt rlettersG_480
    try have k_0 := ia_n 5 (by first | decide | omega)
    try have k_1 := ia_n (tK bt rlength rmostBytes (lrP (pSet bt rlength rmostBytes z106 z107 z108 5 5))) (by first | decide | omega)
    try have k_2 := ia_n 59 (by first | decide | omega)
    try have k_3 := ia_n 32 (by first | decide | omega)
    try simp only [ia_lt, ia_le, ia_eq, ia_m1, ia_0, ia_1, ne_eq, true_and, and_true, false_and, and_false, or_false, false_or, or_true, true_or, not_true_eq_false, not_false_eq_true] at *
    all_goals omega)
  have hL := ln5 (σ := z107) (ν := z108) hW
  have e9 : 1000 - k109 = (1000 - (k109 + 1)) + 1 := by omega
  have h59 : tK bt rlength rmostBytes (lrP (pLine bt rlength rmostBytes z106 z107 z108)) = 59 := by
    rw [hL]
    have h8 := ‹nI (tK bt rlength rmostBytes (lrP _)) = nI 59›
    have h7 := tK_le bt rlength rmostBytes (lrP (pLine bt rlength rmostBytes z106 z107 z108))
    rw [hL] at h7
    rw [ia_eq, ia_n _ (by omega), ia_n _ (by omega)] at h8
    omega
  have q := pLine_pos (B := bt) (m := rmostBytes) (σ := z107) (ν := z108) jLe (by rw [hL]; assumption)
  have q2 := tT_gt (B := bt) (n := rlength) (m := rmostBytes) (p := lrP (pLine bt rlength rmostBytes z106 z107 z108)) (by omega) (by omega)
  have q3 := tT_le (B := bt) rmostBytes q.2
  rw [hL] at q q2 q3
  omega
set_option maxRecDepth 20000 in
theorem lf_f_read_59 (bt : Nat → Nat) (rlength : Nat) (rmostBytes : Nat) (rplace : Nat) (rkind : Int32) (rbegin : Nat) (rword : Int32) (rnumber : Int32) (rletters : Int64) (rtapeF : Nat → Int32) (gp : Nat) (k109 : Nat) (x110 : Int32) (k111 : Nat) (x112 : Int32) (k113 : Nat) (x114 : Int32) (x115 : Int32) (w116 : Int64) (f119 : Nat → Int64) (f120 : Nat → Int32) (f121 : Nat → Int64) (f122 : Nat → Int32) (f123 : Nat → Int32) (f124 : Nat → Int32) (k127 : Nat) (k128 : Nat) (x129 : Int32) (x130 : Int32) (x131 : Int32) (k132 : Nat) (k133 : Nat) (f134 : Nat → Int32) (z106 : Nat) (z107 : Nat → Nat) (z108 : Nat → Nat) (n146 : Nat) (r151 : Int32) (rplaceG_449 : Nat) (rkindG_450 : Int32) (rbeginG_451 : Nat) (rwordG_452 : Int32) (rnumberG_453 : Int32) (rlettersG_454 : Int64) (coolsG_457 : Int32) (rplaceG_475 : Nat) (rkindG_476 : Int32) (rbeginG_477 : Nat) (rwordG_478 : Int32) (rnumberG_479 : Int32) (rlettersG_480 : Int64) (y494 : Int32) (iv_rreader_0 : rlength ≤ 940) (iv_rreader_1 : rplace ≤ rlength) (iv_rreader_2 : rmostBytes ≤ 900) (iv_rreader_3 : rbegin ≤ 940) (hTC : TC bt rtapeF) (hRT : RT bt rlength rmostBytes gp rkind rbegin rplace rword rnumber rletters) (hgl : gp ≤ rlength) (j135 : k109 ≤ 900) (j136 : k111 ≤ 940) (j137 : k113 ≤ 940) (j138 : k111 ≤ rlength) (j139 : 2 ≤ k127) (j140 : k127 ≤ 6) (j141 : 2 ≤ k128) (j142 : k128 ≤ 6) (j143 : k132 ≤ 6) (j144 : k133 ≤ 6) (jRT : RT bt rlength rmostBytes z106 x112 k113 k111 x114 x115 w116) (jCS : CS z107 z108 k127 k128 x129 x130 x131 k132 k133 f134 f119 f120 f121 f122 f123 f124) (jSW : SW z107 z108) (jTB : TB x110 z107) (jPL : pLoop bt rlength rmostBytes 1000 gp s0 (fun _ => 0) 0 = pLoop bt rlength rmostBytes (1000 - k109) z106 z107 z108 k109) (j2k : 2 * k109 ≤ z106) (jLe : z106 ≤ rlength) (hm148 : 900 - k109 < n146 + 1) (c149 : k109 < 900) (c150 : ¬ x112 = 0) (p152 : r151 = x114) (c160 : r151 = nI 5) (p459 : rplaceG_449 ≤ rlength) (p460 : rbeginG_451 ≤ 940) (t461 : isO (pSet bt rlength rmostBytes z106 z107 z108 5 5) = true) (t462 : RT bt rlength rmostBytes (lrP (pSet bt rlength rmostBytes z106 z107 z108 5 5)) rkindG_450 rbeginG_451 rplaceG_449 rwordG_452 rnumberG_453 rlettersG_454) (t463 : CS (lrS (pSet bt rlength rmostBytes z106 z107 z108 5 5)) (lrN (pSet bt rlength rmostBytes z106 z107 z108 5 5)) k127 k128 x129 coolsG_457 x131 k132 k133 f134 f119 f120 f121 f122 f123 f124) (t464 : SW (lrS (pSet bt rlength rmostBytes z106 z107 z108 5 5)) (lrN (pSet bt rlength rmostBytes z106 z107 z108 5 5))) (t467 : FLG 5 z107 (lrS (pSet bt rlength rmostBytes z106 z107 z108 5 5))) (p484 : rplaceG_475 ≤ rlength) (p485 : rbeginG_477 ≤ 940) (t486 : nI (tK bt rlength rmostBytes (lrP (pSet bt rlength rmostBytes z106 z107 z108 5 5))) = (nI 59)) (t487 : RT bt rlength rmostBytes (tT bt rlength rmostBytes (lrP (pSet bt rlength rmostBytes z106 z107 z108 5 5))) rkindG_476 rbeginG_477 rplaceG_475 rwordG_478 rnumberG_479 rlettersG_480) (e495 : y494 = x110 ||| (nI 32)) : (tT bt rlength rmostBytes (lrP (pSet bt rlength rmostBytes z106 z107 z108 5 5))) ≤ rlength := by
  have hk0 : tK bt rlength rmostBytes z106 ≠ 0 := fun h9 => absurd ((RT_k jRT (by decide)).mpr h9) (by
    have kk0 := ia_n 0 (by decide)
    have b_rkind := ia_b rkind
    have b_rword := ia_b rword
    have b_rnumber := ia_b rnumber
    have b_x110 := ia_b x110
    have b_x112 := ia_b x112
    have b_x114 := ia_b x114
    have b_x115 := ia_b x115
    have b_x129 := ia_b x129
    have b_x130 := ia_b x130
    have b_x131 := ia_b x131
    have b_r151 := ia_b r151
    have b_rkindG_450 := ia_b rkindG_450
    have b_rwordG_452 := ia_b rwordG_452
    have b_rnumberG_453 := ia_b rnumberG_453
    have b_coolsG_457 := ia_b coolsG_457
    have b_rkindG_476 := ia_b rkindG_476
    have b_rwordG_478 := ia_b rwordG_478
    have b_rnumberG_479 := ia_b rnumberG_479
    have b_y494 := ia_b y494
    have b_rletters := Int64.toInt_lt rletters
    have b_w116 := Int64.toInt_lt w116
    have b_rlettersG_454 := Int64.toInt_lt rlettersG_454
    have b_rlettersG_480 := Int64.toInt_lt rlettersG_480
    try have k_0 := ia_n 5 (by first | decide | omega)
    try have k_1 := ia_n (tK bt rlength rmostBytes (lrP (pSet bt rlength rmostBytes z106 z107 z108 5 5))) (by first | decide | omega)
    try have k_2 := ia_n 59 (by first | decide | omega)
    try have k_3 := ia_n 32 (by first | decide | omega)
    try simp only [ia_lt, ia_le, ia_eq, ia_m1, ia_0, ia_1, ne_eq, true_and, and_true, false_and, and_false, or_false, false_or, or_true, true_or, not_true_eq_false, not_false_eq_true] at *
    all_goals omega)
  have hW : tW bt rlength rmostBytes z106 = 5 := (RT_w jRT (by decide)).mp (by
    have kk5 := ia_n 5 (by decide)
    have b_rkind := ia_b rkind
    have b_rword := ia_b rword
    have b_rnumber := ia_b rnumber
    have b_x110 := ia_b x110
    have b_x112 := ia_b x112
    have b_x114 := ia_b x114
    have b_x115 := ia_b x115
    have b_x129 := ia_b x129
    have b_x130 := ia_b x130
    have b_x131 := ia_b x131
    have b_r151 := ia_b r151
    have b_rkindG_450 := ia_b rkindG_450
    have b_rwordG_452 := ia_b rwordG_452
    have b_rnumberG_453 := ia_b rnumberG_453
    have b_coolsG_457 := ia_b coolsG_457
    have b_rkindG_476 := ia_b rkindG_476
    have b_rwordG_478 := ia_b rwordG_478
    have b_rnumberG_479 := ia_b rnumberG_479
    have b_y494 := ia_b y494
    have b_rletters := Int64.toInt_lt rletters
    have b_w116 := Int64.toInt_lt w116
    have b_rlettersG_454 := Int64.toInt_lt rlettersG_454
    have b_rlettersG_480 := Int64.toInt_lt rlettersG_480
    try have k_0 := ia_n 5 (by first | decide | omega)
    try have k_1 := ia_n (tK bt rlength rmostBytes (lrP (pSet bt rlength rmostBytes z106 z107 z108 5 5))) (by first | decide | omega)
    try have k_2 := ia_n 59 (by first | decide | omega)
    try have k_3 := ia_n 32 (by first | decide | omega)
    try simp only [ia_lt, ia_le, ia_eq, ia_m1, ia_0, ia_1, ne_eq, true_and, and_true, false_and, and_false, or_false, false_or, or_true, true_or, not_true_eq_false, not_false_eq_true] at *
    all_goals omega)
  have hL := ln5 (σ := z107) (ν := z108) hW
  have e9 : 1000 - k109 = (1000 - (k109 + 1)) + 1 := by omega
  have h59 : tK bt rlength rmostBytes (lrP (pLine bt rlength rmostBytes z106 z107 z108)) = 59 := by
    rw [hL]
    have h8 := ‹nI (tK bt rlength rmostBytes (lrP _)) = nI 59›
    have h7 := tK_le bt rlength rmostBytes (lrP (pLine bt rlength rmostBytes z106 z107 z108))
    rw [hL] at h7
    rw [ia_eq, ia_n _ (by omega), ia_n _ (by omega)] at h8
    omega
  have q := pLine_pos (B := bt) (m := rmostBytes) (σ := z107) (ν := z108) jLe (by rw [hL]; assumption)
  have q2 := tT_gt (B := bt) (n := rlength) (m := rmostBytes) (p := lrP (pLine bt rlength rmostBytes z106 z107 z108)) (by omega) (by omega)
  have q3 := tT_le (B := bt) rmostBytes q.2
  rw [hL] at q q2 q3
  omega
set_option maxRecDepth 20000 in
theorem lf_f_read_60 (adK : Nat → Nat) (adV : Nat → Nat) (st : Nat) (qtoldWords : Int32) (bt : Nat → Nat) (reader : Nat) (rtape : Nat) (rlength : Nat) (rmostBytes : Nat) (rplace : Nat) (rkind : Int32) (rbegin : Nat) (rword : Int32) (rnumber : Int32) (rletters : Int64) (rfaultKind : Int32) (rfaultPlace : Int32) (rtapeF : Nat → Int32) (a : Nat) (wide : Nat) (high : Nat) (heat : Int32) (cools : Int32) (skinHeat : Int32) (today : Int32) (stirs : Int32) (steps : Int32) (lumps : Nat) (boats : Nat) (thickness : Nat) (lumpNames : Nat) (lumpCells : Nat) (boatNames : Nat) (boatCells : Nat) (loads : Nat) (spoons : Nat) (spoonsLeft : Nat) (depths : Nat) (thicknessF : Nat → Int32) (lumpNamesF : Nat → Int64) (lumpCellsF : Nat → Int32) (boatNamesF : Nat → Int64) (boatCellsF : Nat → Int32) (loadsF : Nat → Int32) (spoonsF : Nat → Int32) (spoonsLeftF : Nat → Int32) (depthsF : Nat → Int32) (gp : Nat) (wideG_3 : Nat) (highG_4 : Nat) (heatG_5 : Int32) (coolsG_6 : Int32) (skinHeatG_7 : Int32) (todayG_8 : Int32) (stirsG_9 : Int32) (stepsG_10 : Int32) (lumpsG_11 : Nat) (boatsG_12 : Nat) (thicknessG_13 : Nat → Int32) (k109 : Nat) (x110 : Int32) (k111 : Nat) (x112 : Int32) (k113 : Nat) (x114 : Int32) (x115 : Int32) (w116 : Int64) (x117 : Int32) (x118 : Int32) (f119 : Nat → Int64) (f120 : Nat → Int32) (f121 : Nat → Int64) (f122 : Nat → Int32) (f123 : Nat → Int32) (f124 : Nat → Int32) (f125 : Nat → Int32) (f126 : Nat → Int32) (k127 : Nat) (k128 : Nat) (x129 : Int32) (x130 : Int32) (x131 : Int32) (k132 : Nat) (k133 : Nat) (f134 : Nat → Int32) (z106 : Nat) (z107 : Nat → Nat) (z108 : Nat → Nat) (n146 : Nat) (r151 : Int32) (rplaceG_449 : Nat) (rkindG_450 : Int32) (rbeginG_451 : Nat) (rwordG_452 : Int32) (rnumberG_453 : Int32) (rlettersG_454 : Int64) (rfaultKindG_455 : Int32) (rfaultPlaceG_456 : Int32) (coolsG_457 : Int32) (rplaceG_475 : Nat) (rkindG_476 : Int32) (rbeginG_477 : Nat) (rwordG_478 : Int32) (rnumberG_479 : Int32) (rlettersG_480 : Int64) (rfaultKindG_481 : Int32) (rfaultPlaceG_482 : Int32) (y494 : Int32) (iv_rreader_0 : rlength ≤ 940) (iv_rreader_1 : rplace ≤ rlength) (iv_rreader_2 : rmostBytes ≤ 900) (iv_rreader_3 : rbegin ≤ 940) (hTC : TC bt rtapeF) (iv_a_0 : 2 ≤ wide) (iv_a_1 : wide ≤ 6) (iv_a_2 : 2 ≤ high) (iv_a_3 : high ≤ 6) (iv_a_4 : lumps ≤ 6) (iv_a_5 : boats ≤ 6) (hRT : RT bt rlength rmostBytes gp rkind rbegin rplace rword rnumber rletters) (hgl : gp ≤ rlength) (p14 : 2 ≤ wideG_3) (p15 : wideG_3 ≤ 6) (p16 : 2 ≤ highG_4) (p17 : highG_4 ≤ 6) (p18 : lumpsG_11 ≤ 6) (p19 : boatsG_12 ≤ 6) (p20 : wideG_3 = 4) (p21 : highG_4 = 4) (p22 : heatG_5 = nI 10) (p23 : coolsG_6 = nI 1) (p24 : skinHeatG_7 = nI 3) (p25 : lumpsG_11 = 0) (p26 : boatsG_12 = 0) (p27 : ∀ c, c < 36 → thicknessG_13 c = nI 0) (j135 : k109 ≤ 900) (j136 : k111 ≤ 940) (j137 : k113 ≤ 940) (j138 : k111 ≤ rlength) (j139 : 2 ≤ k127) (j140 : k127 ≤ 6) (j141 : 2 ≤ k128) (j142 : k128 ≤ 6) (j143 : k132 ≤ 6) (j144 : k133 ≤ 6) (jRT : RT bt rlength rmostBytes z106 x112 k113 k111 x114 x115 w116) (jCS : CS z107 z108 k127 k128 x129 x130 x131 k132 k133 f134 f119 f120 f121 f122 f123 f124) (jSW : SW z107 z108) (jTB : TB x110 z107) (jPL : pLoop bt rlength rmostBytes 1000 gp s0 (fun _ => 0) 0 = pLoop bt rlength rmostBytes (1000 - k109) z106 z107 z108 k109) (j2k : 2 * k109 ≤ z106) (jLe : z106 ≤ rlength) (jFk : x117 = rfaultKind) (hm148 : 900 - k109 < n146 + 1) (c149 : k109 < 900) (c150 : ¬ x112 = 0) (p152 : r151 = x114) (c160 : r151 = nI 5) (p459 : rplaceG_449 ≤ rlength) (p460 : rbeginG_451 ≤ 940) (t461 : isO (pSet bt rlength rmostBytes z106 z107 z108 5 5) = true) (t462 : RT bt rlength rmostBytes (lrP (pSet bt rlength rmostBytes z106 z107 z108 5 5)) rkindG_450 rbeginG_451 rplaceG_449 rwordG_452 rnumberG_453 rlettersG_454) (t463 : CS (lrS (pSet bt rlength rmostBytes z106 z107 z108 5 5)) (lrN (pSet bt rlength rmostBytes z106 z107 z108 5 5)) k127 k128 x129 coolsG_457 x131 k132 k133 f134 f119 f120 f121 f122 f123 f124) (t464 : SW (lrS (pSet bt rlength rmostBytes z106 z107 z108 5 5)) (lrN (pSet bt rlength rmostBytes z106 z107 z108 5 5))) (t465 : rfaultKindG_455 = x117) (t466 : rfaultPlaceG_456 = x118) (t467 : FLG 5 z107 (lrS (pSet bt rlength rmostBytes z106 z107 z108 5 5))) (p484 : rplaceG_475 ≤ rlength) (p485 : rbeginG_477 ≤ 940) (t486 : nI (tK bt rlength rmostBytes (lrP (pSet bt rlength rmostBytes z106 z107 z108 5 5))) = (nI 59)) (t487 : RT bt rlength rmostBytes (tT bt rlength rmostBytes (lrP (pSet bt rlength rmostBytes z106 z107 z108 5 5))) rkindG_476 rbeginG_477 rplaceG_475 rwordG_478 rnumberG_479 rlettersG_480) (t488 : rfaultKindG_481 = rfaultKindG_455) (t489 : rfaultPlaceG_482 = rfaultPlaceG_456) (e495 : y494 = x110 ||| (nI 32)) : rfaultKindG_481 = rfaultKind := by
  subst_vars
  first
    | rfl
    | assumption
set_option maxRecDepth 20000 in
theorem lf_f_read_61 (bt : Nat → Nat) (rlength : Nat) (rmostBytes : Nat) (rplace : Nat) (rkind : Int32) (rbegin : Nat) (rword : Int32) (rnumber : Int32) (rletters : Int64) (rtapeF : Nat → Int32) (gp : Nat) (k109 : Nat) (x110 : Int32) (k111 : Nat) (x112 : Int32) (k113 : Nat) (x114 : Int32) (x115 : Int32) (w116 : Int64) (f119 : Nat → Int64) (f120 : Nat → Int32) (f121 : Nat → Int64) (f122 : Nat → Int32) (f123 : Nat → Int32) (f124 : Nat → Int32) (k127 : Nat) (k128 : Nat) (x129 : Int32) (x130 : Int32) (x131 : Int32) (k132 : Nat) (k133 : Nat) (f134 : Nat → Int32) (z106 : Nat) (z107 : Nat → Nat) (z108 : Nat → Nat) (n146 : Nat) (r151 : Int32) (rplaceG_449 : Nat) (rkindG_450 : Int32) (rbeginG_451 : Nat) (rwordG_452 : Int32) (rnumberG_453 : Int32) (rlettersG_454 : Int64) (coolsG_457 : Int32) (rplaceG_475 : Nat) (rkindG_476 : Int32) (rbeginG_477 : Nat) (rwordG_478 : Int32) (rnumberG_479 : Int32) (rlettersG_480 : Int64) (y494 : Int32) (iv_rreader_0 : rlength ≤ 940) (iv_rreader_1 : rplace ≤ rlength) (iv_rreader_2 : rmostBytes ≤ 900) (iv_rreader_3 : rbegin ≤ 940) (hTC : TC bt rtapeF) (hRT : RT bt rlength rmostBytes gp rkind rbegin rplace rword rnumber rletters) (hgl : gp ≤ rlength) (j135 : k109 ≤ 900) (j136 : k111 ≤ 940) (j137 : k113 ≤ 940) (j138 : k111 ≤ rlength) (j139 : 2 ≤ k127) (j140 : k127 ≤ 6) (j141 : 2 ≤ k128) (j142 : k128 ≤ 6) (j143 : k132 ≤ 6) (j144 : k133 ≤ 6) (jRT : RT bt rlength rmostBytes z106 x112 k113 k111 x114 x115 w116) (jCS : CS z107 z108 k127 k128 x129 x130 x131 k132 k133 f134 f119 f120 f121 f122 f123 f124) (jSW : SW z107 z108) (jTB : TB x110 z107) (jPL : pLoop bt rlength rmostBytes 1000 gp s0 (fun _ => 0) 0 = pLoop bt rlength rmostBytes (1000 - k109) z106 z107 z108 k109) (j2k : 2 * k109 ≤ z106) (jLe : z106 ≤ rlength) (hm148 : 900 - k109 < n146 + 1) (c149 : k109 < 900) (c150 : ¬ x112 = 0) (p152 : r151 = x114) (c160 : r151 = nI 5) (p459 : rplaceG_449 ≤ rlength) (p460 : rbeginG_451 ≤ 940) (t461 : isO (pSet bt rlength rmostBytes z106 z107 z108 5 5) = true) (t462 : RT bt rlength rmostBytes (lrP (pSet bt rlength rmostBytes z106 z107 z108 5 5)) rkindG_450 rbeginG_451 rplaceG_449 rwordG_452 rnumberG_453 rlettersG_454) (t463 : CS (lrS (pSet bt rlength rmostBytes z106 z107 z108 5 5)) (lrN (pSet bt rlength rmostBytes z106 z107 z108 5 5)) k127 k128 x129 coolsG_457 x131 k132 k133 f134 f119 f120 f121 f122 f123 f124) (t464 : SW (lrS (pSet bt rlength rmostBytes z106 z107 z108 5 5)) (lrN (pSet bt rlength rmostBytes z106 z107 z108 5 5))) (t467 : FLG 5 z107 (lrS (pSet bt rlength rmostBytes z106 z107 z108 5 5))) (p484 : rplaceG_475 ≤ rlength) (p485 : rbeginG_477 ≤ 940) (t486 : nI (tK bt rlength rmostBytes (lrP (pSet bt rlength rmostBytes z106 z107 z108 5 5))) = (nI 59)) (t487 : RT bt rlength rmostBytes (tT bt rlength rmostBytes (lrP (pSet bt rlength rmostBytes z106 z107 z108 5 5))) rkindG_476 rbeginG_477 rplaceG_475 rwordG_478 rnumberG_479 rlettersG_480) (e495 : y494 = x110 ||| (nI 32)) : 900 - (k109 + 1) < n146 := by
  have b_rkind := ia_b rkind
  have b_rword := ia_b rword
  have b_rnumber := ia_b rnumber
  have b_x110 := ia_b x110
  have b_x112 := ia_b x112
  have b_x114 := ia_b x114
  have b_x115 := ia_b x115
  have b_x129 := ia_b x129
  have b_x130 := ia_b x130
  have b_x131 := ia_b x131
  have b_r151 := ia_b r151
  have b_rkindG_450 := ia_b rkindG_450
  have b_rwordG_452 := ia_b rwordG_452
  have b_rnumberG_453 := ia_b rnumberG_453
  have b_coolsG_457 := ia_b coolsG_457
  have b_rkindG_476 := ia_b rkindG_476
  have b_rwordG_478 := ia_b rwordG_478
  have b_rnumberG_479 := ia_b rnumberG_479
  have b_y494 := ia_b y494
  have b_rletters := Int64.toInt_lt rletters
  have b_w116 := Int64.toInt_lt w116
  have b_rlettersG_454 := Int64.toInt_lt rlettersG_454
  have b_rlettersG_480 := Int64.toInt_lt rlettersG_480
  try have k_0 := ia_n 5 (by first | decide | omega)
  try have k_1 := ia_n (tK bt rlength rmostBytes (lrP (pSet bt rlength rmostBytes z106 z107 z108 5 5))) (by first | decide | omega)
  try have k_2 := ia_n 59 (by first | decide | omega)
  try have k_3 := ia_n 32 (by first | decide | omega)
  try simp only [ia_lt, ia_le, ia_eq, ia_m1, ia_0, ia_1, ne_eq, true_and, and_true, false_and, and_false, or_false, false_or, or_true, true_or, not_true_eq_false, not_false_eq_true] at *
  all_goals omega
set_option maxRecDepth 20000 in
theorem lf_f_read_62 (bt : Nat → Nat) (rlength : Nat) (rmostBytes : Nat) (rplace : Nat) (rkind : Int32) (rbegin : Nat) (rword : Int32) (rnumber : Int32) (rletters : Int64) (rtapeF : Nat → Int32) (gp : Nat) (k109 : Nat) (x110 : Int32) (k111 : Nat) (x112 : Int32) (k113 : Nat) (x114 : Int32) (x115 : Int32) (w116 : Int64) (f119 : Nat → Int64) (f120 : Nat → Int32) (f121 : Nat → Int64) (f122 : Nat → Int32) (f123 : Nat → Int32) (f124 : Nat → Int32) (k127 : Nat) (k128 : Nat) (x129 : Int32) (x130 : Int32) (x131 : Int32) (k132 : Nat) (k133 : Nat) (f134 : Nat → Int32) (z106 : Nat) (z107 : Nat → Nat) (z108 : Nat → Nat) (n146 : Nat) (r151 : Int32) (rplaceG_449 : Nat) (rkindG_450 : Int32) (rbeginG_451 : Nat) (rwordG_452 : Int32) (rnumberG_453 : Int32) (rlettersG_454 : Int64) (coolsG_457 : Int32) (rplaceG_475 : Nat) (rfaultKindG_481 : Int32) (rfaultPlaceG_482 : Int32) (iv_rreader_0 : rlength ≤ 940) (iv_rreader_1 : rplace ≤ rlength) (iv_rreader_2 : rmostBytes ≤ 900) (iv_rreader_3 : rbegin ≤ 940) (hTC : TC bt rtapeF) (hRT : RT bt rlength rmostBytes gp rkind rbegin rplace rword rnumber rletters) (hgl : gp ≤ rlength) (j135 : k109 ≤ 900) (j136 : k111 ≤ 940) (j137 : k113 ≤ 940) (j138 : k111 ≤ rlength) (j139 : 2 ≤ k127) (j140 : k127 ≤ 6) (j141 : 2 ≤ k128) (j142 : k128 ≤ 6) (j143 : k132 ≤ 6) (j144 : k133 ≤ 6) (jRT : RT bt rlength rmostBytes z106 x112 k113 k111 x114 x115 w116) (jCS : CS z107 z108 k127 k128 x129 x130 x131 k132 k133 f134 f119 f120 f121 f122 f123 f124) (jSW : SW z107 z108) (jTB : TB x110 z107) (jPL : pLoop bt rlength rmostBytes 1000 gp s0 (fun _ => 0) 0 = pLoop bt rlength rmostBytes (1000 - k109) z106 z107 z108 k109) (j2k : 2 * k109 ≤ z106) (jLe : z106 ≤ rlength) (hm148 : 900 - k109 < n146 + 1) (c149 : k109 < 900) (c150 : ¬ x112 = 0) (p152 : r151 = x114) (c160 : r151 = nI 5) (p459 : rplaceG_449 ≤ rlength) (p460 : rbeginG_451 ≤ 940) (t461 : isO (pSet bt rlength rmostBytes z106 z107 z108 5 5) = true) (t462 : RT bt rlength rmostBytes (lrP (pSet bt rlength rmostBytes z106 z107 z108 5 5)) rkindG_450 rbeginG_451 rplaceG_449 rwordG_452 rnumberG_453 rlettersG_454) (t463 : CS (lrS (pSet bt rlength rmostBytes z106 z107 z108 5 5)) (lrN (pSet bt rlength rmostBytes z106 z107 z108 5 5)) k127 k128 x129 coolsG_457 x131 k132 k133 f134 f119 f120 f121 f122 f123 f124) (t464 : SW (lrS (pSet bt rlength rmostBytes z106 z107 z108 5 5)) (lrN (pSet bt rlength rmostBytes z106 z107 z108 5 5))) (t467 : FLG 5 z107 (lrS (pSet bt rlength rmostBytes z106 z107 z108 5 5))) (p484 : rplaceG_475 ≤ rlength) (t490 : ¬ nI (tK bt rlength rmostBytes (lrP (pSet bt rlength rmostBytes z106 z107 z108 5 5))) = (nI 59)) (t491 : rfaultKindG_481 = nI 1) (t492 : rfaultPlaceG_482 = nI (tF bt rlength rmostBytes (lrP (pSet bt rlength rmostBytes z106 z107 z108 5 5)))) : isO (pLoop bt rlength rmostBytes 1000 gp s0 (fun _ => 0) 0) = false ∧ rfaultKindG_481 = nI (erA (pLoop bt rlength rmostBytes 1000 gp s0 (fun _ => 0) 0)) ∧ rfaultPlaceG_482 = nI (erB (pLoop bt rlength rmostBytes 1000 gp s0 (fun _ => 0) 0)) := by
  have hk0 : tK bt rlength rmostBytes z106 ≠ 0 := fun h9 => absurd ((RT_k jRT (by decide)).mpr h9) (by
    have kk0 := ia_n 0 (by decide)
    have b_rkind := ia_b rkind
    have b_rword := ia_b rword
    have b_rnumber := ia_b rnumber
    have b_x110 := ia_b x110
    have b_x112 := ia_b x112
    have b_x114 := ia_b x114
    have b_x115 := ia_b x115
    have b_x129 := ia_b x129
    have b_x130 := ia_b x130
    have b_x131 := ia_b x131
    have b_r151 := ia_b r151
    have b_rkindG_450 := ia_b rkindG_450
    have b_rwordG_452 := ia_b rwordG_452
    have b_rnumberG_453 := ia_b rnumberG_453
    have b_coolsG_457 := ia_b coolsG_457
    have b_rfaultKindG_481 := ia_b rfaultKindG_481
    have b_rfaultPlaceG_482 := ia_b rfaultPlaceG_482
    have b_rletters := Int64.toInt_lt rletters
    have b_w116 := Int64.toInt_lt w116
    have b_rlettersG_454 := Int64.toInt_lt rlettersG_454
    try have k_0 := ia_n 5 (by first | decide | omega)
    try have k_1 := ia_n (tK bt rlength rmostBytes (lrP (pSet bt rlength rmostBytes z106 z107 z108 5 5))) (by first | decide | omega)
    try have k_2 := ia_n 59 (by first | decide | omega)
    try have k_3 := ia_n 1 (by first | decide | omega)
    try have k_4 := ia_n (tF bt rlength rmostBytes (lrP (pSet bt rlength rmostBytes z106 z107 z108 5 5))) (by first | decide | omega)
    try have k_5 := ia_n (erA (pLoop bt rlength rmostBytes 1000 gp s0 (fun _ => 0) 0)) (by first | decide | omega)
    try have k_6 := ia_n (erB (pLoop bt rlength rmostBytes 1000 gp s0 (fun _ => 0) 0)) (by first | decide | omega)
    try simp only [ia_lt, ia_le, ia_eq, ia_m1, ia_0, ia_1, ne_eq, true_and, and_true, false_and, and_false, or_false, false_or, or_true, true_or, not_true_eq_false, not_false_eq_true] at *
    all_goals omega)
  have hW : tW bt rlength rmostBytes z106 = 5 := (RT_w jRT (by decide)).mp (by
    have kk5 := ia_n 5 (by decide)
    have b_rkind := ia_b rkind
    have b_rword := ia_b rword
    have b_rnumber := ia_b rnumber
    have b_x110 := ia_b x110
    have b_x112 := ia_b x112
    have b_x114 := ia_b x114
    have b_x115 := ia_b x115
    have b_x129 := ia_b x129
    have b_x130 := ia_b x130
    have b_x131 := ia_b x131
    have b_r151 := ia_b r151
    have b_rkindG_450 := ia_b rkindG_450
    have b_rwordG_452 := ia_b rwordG_452
    have b_rnumberG_453 := ia_b rnumberG_453
    have b_coolsG_457 := ia_b coolsG_457
    have b_rfaultKindG_481 := ia_b rfaultKindG_481
    have b_rfaultPlaceG_482 := ia_b rfaultPlaceG_482
    have b_rletters := Int64.toInt_lt rletters
    have b_w116 := Int64.toInt_lt w116
    have b_rlettersG_454 := Int64.toInt_lt rlettersG_454
    try have k_0 := ia_n 5 (by first | decide | omega)
    try have k_1 := ia_n (tK bt rlength rmostBytes (lrP (pSet bt rlength rmostBytes z106 z107 z108 5 5))) (by first | decide | omega)
    try have k_2 := ia_n 59 (by first | decide | omega)
    try have k_3 := ia_n 1 (by first | decide | omega)
    try have k_4 := ia_n (tF bt rlength rmostBytes (lrP (pSet bt rlength rmostBytes z106 z107 z108 5 5))) (by first | decide | omega)
    try have k_5 := ia_n (erA (pLoop bt rlength rmostBytes 1000 gp s0 (fun _ => 0) 0)) (by first | decide | omega)
    try have k_6 := ia_n (erB (pLoop bt rlength rmostBytes 1000 gp s0 (fun _ => 0) 0)) (by first | decide | omega)
    try simp only [ia_lt, ia_le, ia_eq, ia_m1, ia_0, ia_1, ne_eq, true_and, and_true, false_and, and_false, or_false, false_or, or_true, true_or, not_true_eq_false, not_false_eq_true] at *
    all_goals omega)
  have hL := ln5 (σ := z107) (ν := z108) hW
  have e9 : 1000 - k109 = (1000 - (k109 + 1)) + 1 := by omega
  have h59 : ¬ tK bt rlength rmostBytes (lrP (pLine bt rlength rmostBytes z106 z107 z108)) = 59 := by
    rw [hL]
    have h8 := ‹¬ nI (tK bt rlength rmostBytes (lrP _)) = nI 59›
    have h7 := tK_le bt rlength rmostBytes (lrP (pLine bt rlength rmostBytes z106 z107 z108))
    rw [hL] at h7
    rw [ia_eq, ia_n _ (by omega), ia_n _ (by omega)] at h8
    omega
  have q := pL_sgn (f := 1000 - (k109 + 1)) (k := k109) hk0 (by rw [hL]; assumption) h59
  rw [hL] at q
  rw [jPL, e9, q]
  exact ⟨rfl, ‹_›, ‹_›⟩
set_option maxRecDepth 20000 in
theorem lf_f_read_63 (bt : Nat → Nat) (rlength : Nat) (rmostBytes : Nat) (rplace : Nat) (rkind : Int32) (rbegin : Nat) (rword : Int32) (rnumber : Int32) (rletters : Int64) (rtapeF : Nat → Int32) (gp : Nat) (k109 : Nat) (x110 : Int32) (k111 : Nat) (x112 : Int32) (k113 : Nat) (x114 : Int32) (x115 : Int32) (w116 : Int64) (f119 : Nat → Int64) (f120 : Nat → Int32) (f121 : Nat → Int64) (f122 : Nat → Int32) (f123 : Nat → Int32) (f124 : Nat → Int32) (k127 : Nat) (k128 : Nat) (x129 : Int32) (x130 : Int32) (x131 : Int32) (k132 : Nat) (k133 : Nat) (f134 : Nat → Int32) (z106 : Nat) (z107 : Nat → Nat) (z108 : Nat → Nat) (n146 : Nat) (r151 : Int32) (rplaceG_449 : Nat) (rfaultKindG_455 : Int32) (rfaultPlaceG_456 : Int32) (iv_rreader_0 : rlength ≤ 940) (iv_rreader_1 : rplace ≤ rlength) (iv_rreader_2 : rmostBytes ≤ 900) (iv_rreader_3 : rbegin ≤ 940) (hTC : TC bt rtapeF) (hRT : RT bt rlength rmostBytes gp rkind rbegin rplace rword rnumber rletters) (hgl : gp ≤ rlength) (j135 : k109 ≤ 900) (j136 : k111 ≤ 940) (j137 : k113 ≤ 940) (j138 : k111 ≤ rlength) (j139 : 2 ≤ k127) (j140 : k127 ≤ 6) (j141 : 2 ≤ k128) (j142 : k128 ≤ 6) (j143 : k132 ≤ 6) (j144 : k133 ≤ 6) (jRT : RT bt rlength rmostBytes z106 x112 k113 k111 x114 x115 w116) (jCS : CS z107 z108 k127 k128 x129 x130 x131 k132 k133 f134 f119 f120 f121 f122 f123 f124) (jSW : SW z107 z108) (jTB : TB x110 z107) (jPL : pLoop bt rlength rmostBytes 1000 gp s0 (fun _ => 0) 0 = pLoop bt rlength rmostBytes (1000 - k109) z106 z107 z108 k109) (j2k : 2 * k109 ≤ z106) (jLe : z106 ≤ rlength) (hm148 : 900 - k109 < n146 + 1) (c149 : k109 < 900) (c150 : ¬ x112 = 0) (p152 : r151 = x114) (c160 : r151 = nI 5) (p459 : rplaceG_449 ≤ rlength) (t468 : isO (pSet bt rlength rmostBytes z106 z107 z108 5 5) = false) (t469 : rfaultKindG_455 = nI (erA (pSet bt rlength rmostBytes z106 z107 z108 5 5))) (t470 : rfaultPlaceG_456 = nI (erB (pSet bt rlength rmostBytes z106 z107 z108 5 5))) : isO (pLoop bt rlength rmostBytes 1000 gp s0 (fun _ => 0) 0) = false ∧ rfaultKindG_455 = nI (erA (pLoop bt rlength rmostBytes 1000 gp s0 (fun _ => 0) 0)) ∧ rfaultPlaceG_456 = nI (erB (pLoop bt rlength rmostBytes 1000 gp s0 (fun _ => 0) 0)) := by
  have hk0 : tK bt rlength rmostBytes z106 ≠ 0 := fun h9 => absurd ((RT_k jRT (by decide)).mpr h9) (by
    have kk0 := ia_n 0 (by decide)
    have b_rkind := ia_b rkind
    have b_rword := ia_b rword
    have b_rnumber := ia_b rnumber
    have b_x110 := ia_b x110
    have b_x112 := ia_b x112
    have b_x114 := ia_b x114
    have b_x115 := ia_b x115
    have b_x129 := ia_b x129
    have b_x130 := ia_b x130
    have b_x131 := ia_b x131
    have b_r151 := ia_b r151
    have b_rfaultKindG_455 := ia_b rfaultKindG_455
    have b_rfaultPlaceG_456 := ia_b rfaultPlaceG_456
    have b_rletters := Int64.toInt_lt rletters
    have b_w116 := Int64.toInt_lt w116
    try have k_0 := ia_n 5 (by first | decide | omega)
    try have k_1 := ia_n (erA (pSet bt rlength rmostBytes z106 z107 z108 5 5)) (by first | decide | omega)
    try have k_2 := ia_n (erB (pSet bt rlength rmostBytes z106 z107 z108 5 5)) (by first | decide | omega)
    try have k_3 := ia_n (erA (pLoop bt rlength rmostBytes 1000 gp s0 (fun _ => 0) 0)) (by first | decide | omega)
    try have k_4 := ia_n (erB (pLoop bt rlength rmostBytes 1000 gp s0 (fun _ => 0) 0)) (by first | decide | omega)
    try simp only [ia_lt, ia_le, ia_eq, ia_m1, ia_0, ia_1, ne_eq, true_and, and_true, false_and, and_false, or_false, false_or, or_true, true_or, not_true_eq_false, not_false_eq_true] at *
    all_goals omega)
  have hW : tW bt rlength rmostBytes z106 = 5 := (RT_w jRT (by decide)).mp (by
    have kk5 := ia_n 5 (by decide)
    have b_rkind := ia_b rkind
    have b_rword := ia_b rword
    have b_rnumber := ia_b rnumber
    have b_x110 := ia_b x110
    have b_x112 := ia_b x112
    have b_x114 := ia_b x114
    have b_x115 := ia_b x115
    have b_x129 := ia_b x129
    have b_x130 := ia_b x130
    have b_x131 := ia_b x131
    have b_r151 := ia_b r151
    have b_rfaultKindG_455 := ia_b rfaultKindG_455
    have b_rfaultPlaceG_456 := ia_b rfaultPlaceG_456
    have b_rletters := Int64.toInt_lt rletters
    have b_w116 := Int64.toInt_lt w116
    try have k_0 := ia_n 5 (by first | decide | omega)
    try have k_1 := ia_n (erA (pSet bt rlength rmostBytes z106 z107 z108 5 5)) (by first | decide | omega)
    try have k_2 := ia_n (erB (pSet bt rlength rmostBytes z106 z107 z108 5 5)) (by first | decide | omega)
    try have k_3 := ia_n (erA (pLoop bt rlength rmostBytes 1000 gp s0 (fun _ => 0) 0)) (by first | decide | omega)
    try have k_4 := ia_n (erB (pLoop bt rlength rmostBytes 1000 gp s0 (fun _ => 0) 0)) (by first | decide | omega)
    try simp only [ia_lt, ia_le, ia_eq, ia_m1, ia_0, ia_1, ne_eq, true_and, and_true, false_and, and_false, or_false, false_or, or_true, true_or, not_true_eq_false, not_false_eq_true] at *
    all_goals omega)
  have hL := ln5 (σ := z107) (ν := z108) hW
  have e9 : 1000 - k109 = (1000 - (k109 + 1)) + 1 := by omega
  have q := pL_err (f := 1000 - (k109 + 1)) (k := k109) hk0 (by rw [hL]; assumption)
  rw [hL] at q
  rw [jPL, e9, q]
  exact ⟨rfl, ‹_›, ‹_›⟩
set_option maxRecDepth 20000 in
theorem lf_f_read_64 (bt : Nat → Nat) (rlength : Nat) (rmostBytes : Nat) (rplace : Nat) (rkind : Int32) (rbegin : Nat) (rword : Int32) (rnumber : Int32) (rletters : Int64) (rtapeF : Nat → Int32) (gp : Nat) (k109 : Nat) (x110 : Int32) (k111 : Nat) (x112 : Int32) (k113 : Nat) (x114 : Int32) (x115 : Int32) (w116 : Int64) (f119 : Nat → Int64) (f120 : Nat → Int32) (f121 : Nat → Int64) (f122 : Nat → Int32) (f123 : Nat → Int32) (f124 : Nat → Int32) (k127 : Nat) (k128 : Nat) (x129 : Int32) (x130 : Int32) (x131 : Int32) (k132 : Nat) (k133 : Nat) (f134 : Nat → Int32) (z106 : Nat) (z107 : Nat → Nat) (z108 : Nat → Nat) (n146 : Nat) (r151 : Int32) (rplaceG_501 : Nat) (rkindG_502 : Int32) (rbeginG_503 : Nat) (rwordG_504 : Int32) (rnumberG_505 : Int32) (rlettersG_506 : Int64) (skinHeatG_509 : Int32) (rplaceG_527 : Nat) (rkindG_528 : Int32) (rbeginG_529 : Nat) (rwordG_530 : Int32) (rnumberG_531 : Int32) (rlettersG_532 : Int64) (y546 : Int32) (iv_rreader_0 : rlength ≤ 940) (iv_rreader_1 : rplace ≤ rlength) (iv_rreader_2 : rmostBytes ≤ 900) (iv_rreader_3 : rbegin ≤ 940) (hTC : TC bt rtapeF) (hRT : RT bt rlength rmostBytes gp rkind rbegin rplace rword rnumber rletters) (hgl : gp ≤ rlength) (j135 : k109 ≤ 900) (j136 : k111 ≤ 940) (j137 : k113 ≤ 940) (j138 : k111 ≤ rlength) (j139 : 2 ≤ k127) (j140 : k127 ≤ 6) (j141 : 2 ≤ k128) (j142 : k128 ≤ 6) (j143 : k132 ≤ 6) (j144 : k133 ≤ 6) (jRT : RT bt rlength rmostBytes z106 x112 k113 k111 x114 x115 w116) (jCS : CS z107 z108 k127 k128 x129 x130 x131 k132 k133 f134 f119 f120 f121 f122 f123 f124) (jSW : SW z107 z108) (jTB : TB x110 z107) (jPL : pLoop bt rlength rmostBytes 1000 gp s0 (fun _ => 0) 0 = pLoop bt rlength rmostBytes (1000 - k109) z106 z107 z108 k109) (j2k : 2 * k109 ≤ z106) (jLe : z106 ≤ rlength) (hm148 : 900 - k109 < n146 + 1) (c149 : k109 < 900) (c150 : ¬ x112 = 0) (p152 : r151 = x114) (c161 : r151 = nI 6) (p511 : rplaceG_501 ≤ rlength) (p512 : rbeginG_503 ≤ 940) (t513 : isO (pSet bt rlength rmostBytes z106 z107 z108 6 30) = true) (t514 : RT bt rlength rmostBytes (lrP (pSet bt rlength rmostBytes z106 z107 z108 6 30)) rkindG_502 rbeginG_503 rplaceG_501 rwordG_504 rnumberG_505 rlettersG_506) (t515 : CS (lrS (pSet bt rlength rmostBytes z106 z107 z108 6 30)) (lrN (pSet bt rlength rmostBytes z106 z107 z108 6 30)) k127 k128 x129 x130 skinHeatG_509 k132 k133 f134 f119 f120 f121 f122 f123 f124) (t516 : SW (lrS (pSet bt rlength rmostBytes z106 z107 z108 6 30)) (lrN (pSet bt rlength rmostBytes z106 z107 z108 6 30))) (t519 : FLG 6 z107 (lrS (pSet bt rlength rmostBytes z106 z107 z108 6 30))) (p536 : rplaceG_527 ≤ rlength) (p537 : rbeginG_529 ≤ 940) (t538 : nI (tK bt rlength rmostBytes (lrP (pSet bt rlength rmostBytes z106 z107 z108 6 30))) = (nI 59)) (t539 : RT bt rlength rmostBytes (tT bt rlength rmostBytes (lrP (pSet bt rlength rmostBytes z106 z107 z108 6 30))) rkindG_528 rbeginG_529 rplaceG_527 rwordG_530 rnumberG_531 rlettersG_532) (e547 : y546 = x110 ||| (nI 64)) : (k109 + 1) ≤ 900 := by
  have b_rkind := ia_b rkind
  have b_rword := ia_b rword
  have b_rnumber := ia_b rnumber
  have b_x110 := ia_b x110
  have b_x112 := ia_b x112
  have b_x114 := ia_b x114
  have b_x115 := ia_b x115
  have b_x129 := ia_b x129
  have b_x130 := ia_b x130
  have b_x131 := ia_b x131
  have b_r151 := ia_b r151
  have b_rkindG_502 := ia_b rkindG_502
  have b_rwordG_504 := ia_b rwordG_504
  have b_rnumberG_505 := ia_b rnumberG_505
  have b_skinHeatG_509 := ia_b skinHeatG_509
  have b_rkindG_528 := ia_b rkindG_528
  have b_rwordG_530 := ia_b rwordG_530
  have b_rnumberG_531 := ia_b rnumberG_531
  have b_y546 := ia_b y546
  have b_rletters := Int64.toInt_lt rletters
  have b_w116 := Int64.toInt_lt w116
  have b_rlettersG_506 := Int64.toInt_lt rlettersG_506
  have b_rlettersG_532 := Int64.toInt_lt rlettersG_532
  try have k_0 := ia_n 6 (by first | decide | omega)
  try have k_1 := ia_n (tK bt rlength rmostBytes (lrP (pSet bt rlength rmostBytes z106 z107 z108 6 30))) (by first | decide | omega)
  try have k_2 := ia_n 59 (by first | decide | omega)
  try have k_3 := ia_n 64 (by first | decide | omega)
  try simp only [ia_lt, ia_le, ia_eq, ia_m1, ia_0, ia_1, ne_eq, true_and, and_true, false_and, and_false, or_false, false_or, or_true, true_or, not_true_eq_false, not_false_eq_true] at *
  all_goals omega
set_option maxRecDepth 20000 in
theorem lf_f_read_65 (bt : Nat → Nat) (rlength : Nat) (rmostBytes : Nat) (rplace : Nat) (rkind : Int32) (rbegin : Nat) (rword : Int32) (rnumber : Int32) (rletters : Int64) (rtapeF : Nat → Int32) (gp : Nat) (k109 : Nat) (x110 : Int32) (k111 : Nat) (x112 : Int32) (k113 : Nat) (x114 : Int32) (x115 : Int32) (w116 : Int64) (f119 : Nat → Int64) (f120 : Nat → Int32) (f121 : Nat → Int64) (f122 : Nat → Int32) (f123 : Nat → Int32) (f124 : Nat → Int32) (k127 : Nat) (k128 : Nat) (x129 : Int32) (x130 : Int32) (x131 : Int32) (k132 : Nat) (k133 : Nat) (f134 : Nat → Int32) (z106 : Nat) (z107 : Nat → Nat) (z108 : Nat → Nat) (n146 : Nat) (r151 : Int32) (rplaceG_501 : Nat) (rkindG_502 : Int32) (rbeginG_503 : Nat) (rwordG_504 : Int32) (rnumberG_505 : Int32) (rlettersG_506 : Int64) (skinHeatG_509 : Int32) (rplaceG_527 : Nat) (rkindG_528 : Int32) (rbeginG_529 : Nat) (rwordG_530 : Int32) (rnumberG_531 : Int32) (rlettersG_532 : Int64) (y546 : Int32) (iv_rreader_0 : rlength ≤ 940) (iv_rreader_1 : rplace ≤ rlength) (iv_rreader_2 : rmostBytes ≤ 900) (iv_rreader_3 : rbegin ≤ 940) (hTC : TC bt rtapeF) (hRT : RT bt rlength rmostBytes gp rkind rbegin rplace rword rnumber rletters) (hgl : gp ≤ rlength) (j135 : k109 ≤ 900) (j136 : k111 ≤ 940) (j137 : k113 ≤ 940) (j138 : k111 ≤ rlength) (j139 : 2 ≤ k127) (j140 : k127 ≤ 6) (j141 : 2 ≤ k128) (j142 : k128 ≤ 6) (j143 : k132 ≤ 6) (j144 : k133 ≤ 6) (jRT : RT bt rlength rmostBytes z106 x112 k113 k111 x114 x115 w116) (jCS : CS z107 z108 k127 k128 x129 x130 x131 k132 k133 f134 f119 f120 f121 f122 f123 f124) (jSW : SW z107 z108) (jTB : TB x110 z107) (jPL : pLoop bt rlength rmostBytes 1000 gp s0 (fun _ => 0) 0 = pLoop bt rlength rmostBytes (1000 - k109) z106 z107 z108 k109) (j2k : 2 * k109 ≤ z106) (jLe : z106 ≤ rlength) (hm148 : 900 - k109 < n146 + 1) (c149 : k109 < 900) (c150 : ¬ x112 = 0) (p152 : r151 = x114) (c161 : r151 = nI 6) (p511 : rplaceG_501 ≤ rlength) (p512 : rbeginG_503 ≤ 940) (t513 : isO (pSet bt rlength rmostBytes z106 z107 z108 6 30) = true) (t514 : RT bt rlength rmostBytes (lrP (pSet bt rlength rmostBytes z106 z107 z108 6 30)) rkindG_502 rbeginG_503 rplaceG_501 rwordG_504 rnumberG_505 rlettersG_506) (t515 : CS (lrS (pSet bt rlength rmostBytes z106 z107 z108 6 30)) (lrN (pSet bt rlength rmostBytes z106 z107 z108 6 30)) k127 k128 x129 x130 skinHeatG_509 k132 k133 f134 f119 f120 f121 f122 f123 f124) (t516 : SW (lrS (pSet bt rlength rmostBytes z106 z107 z108 6 30)) (lrN (pSet bt rlength rmostBytes z106 z107 z108 6 30))) (t519 : FLG 6 z107 (lrS (pSet bt rlength rmostBytes z106 z107 z108 6 30))) (p536 : rplaceG_527 ≤ rlength) (p537 : rbeginG_529 ≤ 940) (t538 : nI (tK bt rlength rmostBytes (lrP (pSet bt rlength rmostBytes z106 z107 z108 6 30))) = (nI 59)) (t539 : RT bt rlength rmostBytes (tT bt rlength rmostBytes (lrP (pSet bt rlength rmostBytes z106 z107 z108 6 30))) rkindG_528 rbeginG_529 rplaceG_527 rwordG_530 rnumberG_531 rlettersG_532) (e547 : y546 = x110 ||| (nI 64)) : rplaceG_527 ≤ 940 := by
  have b_rkind := ia_b rkind
  have b_rword := ia_b rword
  have b_rnumber := ia_b rnumber
  have b_x110 := ia_b x110
  have b_x112 := ia_b x112
  have b_x114 := ia_b x114
  have b_x115 := ia_b x115
  have b_x129 := ia_b x129
  have b_x130 := ia_b x130
  have b_x131 := ia_b x131
  have b_r151 := ia_b r151
  have b_rkindG_502 := ia_b rkindG_502
  have b_rwordG_504 := ia_b rwordG_504
  have b_rnumberG_505 := ia_b rnumberG_505
  have b_skinHeatG_509 := ia_b skinHeatG_509
  have b_rkindG_528 := ia_b rkindG_528
  have b_rwordG_530 := ia_b rwordG_530
  have b_rnumberG_531 := ia_b rnumberG_531
  have b_y546 := ia_b y546
  have b_rletters := Int64.toInt_lt rletters
  have b_w116 := Int64.toInt_lt w116
  have b_rlettersG_506 := Int64.toInt_lt rlettersG_506
  have b_rlettersG_532 := Int64.toInt_lt rlettersG_532
  try have k_0 := ia_n 6 (by first | decide | omega)
  try have k_1 := ia_n (tK bt rlength rmostBytes (lrP (pSet bt rlength rmostBytes z106 z107 z108 6 30))) (by first | decide | omega)
  try have k_2 := ia_n 59 (by first | decide | omega)
  try have k_3 := ia_n 64 (by first | decide | omega)
  try simp only [ia_lt, ia_le, ia_eq, ia_m1, ia_0, ia_1, ne_eq, true_and, and_true, false_and, and_false, or_false, false_or, or_true, true_or, not_true_eq_false, not_false_eq_true] at *
  all_goals omega
set_option maxRecDepth 20000 in
theorem lf_f_read_66 (bt : Nat → Nat) (rlength : Nat) (rmostBytes : Nat) (rplace : Nat) (rkind : Int32) (rbegin : Nat) (rword : Int32) (rnumber : Int32) (rletters : Int64) (rtapeF : Nat → Int32) (gp : Nat) (k109 : Nat) (x110 : Int32) (k111 : Nat) (x112 : Int32) (k113 : Nat) (x114 : Int32) (x115 : Int32) (w116 : Int64) (f119 : Nat → Int64) (f120 : Nat → Int32) (f121 : Nat → Int64) (f122 : Nat → Int32) (f123 : Nat → Int32) (f124 : Nat → Int32) (k127 : Nat) (k128 : Nat) (x129 : Int32) (x130 : Int32) (x131 : Int32) (k132 : Nat) (k133 : Nat) (f134 : Nat → Int32) (z106 : Nat) (z107 : Nat → Nat) (z108 : Nat → Nat) (n146 : Nat) (r151 : Int32) (rplaceG_501 : Nat) (rkindG_502 : Int32) (rbeginG_503 : Nat) (rwordG_504 : Int32) (rnumberG_505 : Int32) (rlettersG_506 : Int64) (skinHeatG_509 : Int32) (rplaceG_527 : Nat) (rkindG_528 : Int32) (rbeginG_529 : Nat) (rwordG_530 : Int32) (rnumberG_531 : Int32) (rlettersG_532 : Int64) (y546 : Int32) (iv_rreader_0 : rlength ≤ 940) (iv_rreader_1 : rplace ≤ rlength) (iv_rreader_2 : rmostBytes ≤ 900) (iv_rreader_3 : rbegin ≤ 940) (hTC : TC bt rtapeF) (hRT : RT bt rlength rmostBytes gp rkind rbegin rplace rword rnumber rletters) (hgl : gp ≤ rlength) (j135 : k109 ≤ 900) (j136 : k111 ≤ 940) (j137 : k113 ≤ 940) (j138 : k111 ≤ rlength) (j139 : 2 ≤ k127) (j140 : k127 ≤ 6) (j141 : 2 ≤ k128) (j142 : k128 ≤ 6) (j143 : k132 ≤ 6) (j144 : k133 ≤ 6) (jRT : RT bt rlength rmostBytes z106 x112 k113 k111 x114 x115 w116) (jCS : CS z107 z108 k127 k128 x129 x130 x131 k132 k133 f134 f119 f120 f121 f122 f123 f124) (jSW : SW z107 z108) (jTB : TB x110 z107) (jPL : pLoop bt rlength rmostBytes 1000 gp s0 (fun _ => 0) 0 = pLoop bt rlength rmostBytes (1000 - k109) z106 z107 z108 k109) (j2k : 2 * k109 ≤ z106) (jLe : z106 ≤ rlength) (hm148 : 900 - k109 < n146 + 1) (c149 : k109 < 900) (c150 : ¬ x112 = 0) (p152 : r151 = x114) (c161 : r151 = nI 6) (p511 : rplaceG_501 ≤ rlength) (p512 : rbeginG_503 ≤ 940) (t513 : isO (pSet bt rlength rmostBytes z106 z107 z108 6 30) = true) (t514 : RT bt rlength rmostBytes (lrP (pSet bt rlength rmostBytes z106 z107 z108 6 30)) rkindG_502 rbeginG_503 rplaceG_501 rwordG_504 rnumberG_505 rlettersG_506) (t515 : CS (lrS (pSet bt rlength rmostBytes z106 z107 z108 6 30)) (lrN (pSet bt rlength rmostBytes z106 z107 z108 6 30)) k127 k128 x129 x130 skinHeatG_509 k132 k133 f134 f119 f120 f121 f122 f123 f124) (t516 : SW (lrS (pSet bt rlength rmostBytes z106 z107 z108 6 30)) (lrN (pSet bt rlength rmostBytes z106 z107 z108 6 30))) (t519 : FLG 6 z107 (lrS (pSet bt rlength rmostBytes z106 z107 z108 6 30))) (p536 : rplaceG_527 ≤ rlength) (p537 : rbeginG_529 ≤ 940) (t538 : nI (tK bt rlength rmostBytes (lrP (pSet bt rlength rmostBytes z106 z107 z108 6 30))) = (nI 59)) (t539 : RT bt rlength rmostBytes (tT bt rlength rmostBytes (lrP (pSet bt rlength rmostBytes z106 z107 z108 6 30))) rkindG_528 rbeginG_529 rplaceG_527 rwordG_530 rnumberG_531 rlettersG_532) (e547 : y546 = x110 ||| (nI 64)) : TB y546 (lrS (pSet bt rlength rmostBytes z106 z107 z108 6 30)) := by
  have q := ‹FLG 6 _ _›
  have q2 := TB_or jTB jSW (k := 6) (by decide) q.1 q.2
  subst_vars
  exact q2
set_option maxRecDepth 20000 in
theorem lf_f_read_67 (bt : Nat → Nat) (rlength : Nat) (rmostBytes : Nat) (rplace : Nat) (rkind : Int32) (rbegin : Nat) (rword : Int32) (rnumber : Int32) (rletters : Int64) (rtapeF : Nat → Int32) (gp : Nat) (k109 : Nat) (x110 : Int32) (k111 : Nat) (x112 : Int32) (k113 : Nat) (x114 : Int32) (x115 : Int32) (w116 : Int64) (f119 : Nat → Int64) (f120 : Nat → Int32) (f121 : Nat → Int64) (f122 : Nat → Int32) (f123 : Nat → Int32) (f124 : Nat → Int32) (k127 : Nat) (k128 : Nat) (x129 : Int32) (x130 : Int32) (x131 : Int32) (k132 : Nat) (k133 : Nat) (f134 : Nat → Int32) (z106 : Nat) (z107 : Nat → Nat) (z108 : Nat → Nat) (n146 : Nat) (r151 : Int32) (rplaceG_501 : Nat) (rkindG_502 : Int32) (rbeginG_503 : Nat) (rwordG_504 : Int32) (rnumberG_505 : Int32) (rlettersG_506 : Int64) (skinHeatG_509 : Int32) (rplaceG_527 : Nat) (rkindG_528 : Int32) (rbeginG_529 : Nat) (rwordG_530 : Int32) (rnumberG_531 : Int32) (rlettersG_532 : Int64) (y546 : Int32) (iv_rreader_0 : rlength ≤ 940) (iv_rreader_1 : rplace ≤ rlength) (iv_rreader_2 : rmostBytes ≤ 900) (iv_rreader_3 : rbegin ≤ 940) (hTC : TC bt rtapeF) (hRT : RT bt rlength rmostBytes gp rkind rbegin rplace rword rnumber rletters) (hgl : gp ≤ rlength) (j135 : k109 ≤ 900) (j136 : k111 ≤ 940) (j137 : k113 ≤ 940) (j138 : k111 ≤ rlength) (j139 : 2 ≤ k127) (j140 : k127 ≤ 6) (j141 : 2 ≤ k128) (j142 : k128 ≤ 6) (j143 : k132 ≤ 6) (j144 : k133 ≤ 6) (jRT : RT bt rlength rmostBytes z106 x112 k113 k111 x114 x115 w116) (jCS : CS z107 z108 k127 k128 x129 x130 x131 k132 k133 f134 f119 f120 f121 f122 f123 f124) (jSW : SW z107 z108) (jTB : TB x110 z107) (jPL : pLoop bt rlength rmostBytes 1000 gp s0 (fun _ => 0) 0 = pLoop bt rlength rmostBytes (1000 - k109) z106 z107 z108 k109) (j2k : 2 * k109 ≤ z106) (jLe : z106 ≤ rlength) (hm148 : 900 - k109 < n146 + 1) (c149 : k109 < 900) (c150 : ¬ x112 = 0) (p152 : r151 = x114) (c161 : r151 = nI 6) (p511 : rplaceG_501 ≤ rlength) (p512 : rbeginG_503 ≤ 940) (t513 : isO (pSet bt rlength rmostBytes z106 z107 z108 6 30) = true) (t514 : RT bt rlength rmostBytes (lrP (pSet bt rlength rmostBytes z106 z107 z108 6 30)) rkindG_502 rbeginG_503 rplaceG_501 rwordG_504 rnumberG_505 rlettersG_506) (t515 : CS (lrS (pSet bt rlength rmostBytes z106 z107 z108 6 30)) (lrN (pSet bt rlength rmostBytes z106 z107 z108 6 30)) k127 k128 x129 x130 skinHeatG_509 k132 k133 f134 f119 f120 f121 f122 f123 f124) (t516 : SW (lrS (pSet bt rlength rmostBytes z106 z107 z108 6 30)) (lrN (pSet bt rlength rmostBytes z106 z107 z108 6 30))) (t519 : FLG 6 z107 (lrS (pSet bt rlength rmostBytes z106 z107 z108 6 30))) (p536 : rplaceG_527 ≤ rlength) (p537 : rbeginG_529 ≤ 940) (t538 : nI (tK bt rlength rmostBytes (lrP (pSet bt rlength rmostBytes z106 z107 z108 6 30))) = (nI 59)) (t539 : RT bt rlength rmostBytes (tT bt rlength rmostBytes (lrP (pSet bt rlength rmostBytes z106 z107 z108 6 30))) rkindG_528 rbeginG_529 rplaceG_527 rwordG_530 rnumberG_531 rlettersG_532) (e547 : y546 = x110 ||| (nI 64)) : pLoop bt rlength rmostBytes 1000 gp s0 (fun _ => 0) 0 = pLoop bt rlength rmostBytes (1000 - (k109 + 1)) (tT bt rlength rmostBytes (lrP (pSet bt rlength rmostBytes z106 z107 z108 6 30))) (lrS (pSet bt rlength rmostBytes z106 z107 z108 6 30)) (lrN (pSet bt rlength rmostBytes z106 z107 z108 6 30)) (k109 + 1) := by
  have hk0 : tK bt rlength rmostBytes z106 ≠ 0 := fun h9 => absurd ((RT_k jRT (by decide)).mpr h9) (by
    have kk0 := ia_n 0 (by decide)
    have b_rkind := ia_b rkind
    have b_rword := ia_b rword
    have b_rnumber := ia_b rnumber
    have b_x110 := ia_b x110
    have b_x112 := ia_b x112
    have b_x114 := ia_b x114
    have b_x115 := ia_b x115
    have b_x129 := ia_b x129
    have b_x130 := ia_b x130
    have b_x131 := ia_b x131
    have b_r151 := ia_b r151
    have b_rkindG_502 := ia_b rkindG_502
    have b_rwordG_504 := ia_b rwordG_504
    have b_rnumberG_505 := ia_b rnumberG_505
    have b_skinHeatG_509 := ia_b skinHeatG_509
    have b_rkindG_528 := ia_b rkindG_528
    have b_rwordG_530 := ia_b rwordG_530
    have b_rnumberG_531 := ia_b rnumberG_531
    have b_y546 := ia_b y546
    have b_rletters := Int64.toInt_lt rletters
    have b_w116 := Int64.toInt_lt w116
    have b_rlettersG_506 := Int64.toInt_lt rlettersG_506
    have b_rlettersG_532 := Int64.toInt_lt rlettersG_532
    try have k_0 := ia_n 6 (by first | decide | omega)
    try have k_1 := ia_n (tK bt rlength rmostBytes (lrP (pSet bt rlength rmostBytes z106 z107 z108 6 30))) (by first | decide | omega)
    try have k_2 := ia_n 59 (by first | decide | omega)
    try have k_3 := ia_n 64 (by first | decide | omega)
    try simp only [ia_lt, ia_le, ia_eq, ia_m1, ia_0, ia_1, ne_eq, true_and, and_true, false_and, and_false, or_false, false_or, or_true, true_or, not_true_eq_false, not_false_eq_true] at *
    all_goals omega)
  have hW : tW bt rlength rmostBytes z106 = 6 := (RT_w jRT (by decide)).mp (by
    have kk6 := ia_n 6 (by decide)
    have b_rkind := ia_b rkind
    have b_rword := ia_b rword
    have b_rnumber := ia_b rnumber
    have b_x110 := ia_b x110
    have b_x112 := ia_b x112
    have b_x114 := ia_b x114
    have b_x115 := ia_b x115
    have b_x129 := ia_b x129
    have b_x130 := ia_b x130
    have b_x131 := ia_b x131
    have b_r151 := ia_b r151
    have b_rkindG_502 := ia_b rkindG_502
    have b_rwordG_504 := ia_b rwordG_504
    have b_rnumberG_505 := ia_b rnumberG_505
    have b_skinHeatG_509 := ia_b skinHeatG_509
    have b_rkindG_528 := ia_b rkindG_528
    have b_rwordG_530 := ia_b rwordG_530
    have b_rnumberG_531 := ia_b rnumberG_531
    have b_y546 := ia_b y546
    have b_rletters := Int64.toInt_lt rletters
    have b_w116 := Int64.toInt_lt w116
    have b_rlettersG_506 := Int64.toInt_lt rlettersG_506
    have b_rlettersG_532 := Int64.toInt_lt rlettersG_532
    try have k_0 := ia_n 6 (by first | decide | omega)
    try have k_1 := ia_n (tK bt rlength rmostBytes (lrP (pSet bt rlength rmostBytes z106 z107 z108 6 30))) (by first | decide | omega)
    try have k_2 := ia_n 59 (by first | decide | omega)
    try have k_3 := ia_n 64 (by first | decide | omega)
    try simp only [ia_lt, ia_le, ia_eq, ia_m1, ia_0, ia_1, ne_eq, true_and, and_true, false_and, and_false, or_false, false_or, or_true, true_or, not_true_eq_false, not_false_eq_true] at *
    all_goals omega)
  have hL := ln6 (σ := z107) (ν := z108) hW
  have e9 : 1000 - k109 = (1000 - (k109 + 1)) + 1 := by omega
  have h59 : tK bt rlength rmostBytes (lrP (pLine bt rlength rmostBytes z106 z107 z108)) = 59 := by
    rw [hL]
    have h8 := ‹nI (tK bt rlength rmostBytes (lrP _)) = nI 59›
    have h7 := tK_le bt rlength rmostBytes (lrP (pLine bt rlength rmostBytes z106 z107 z108))
    rw [hL] at h7
    rw [ia_eq, ia_n _ (by omega), ia_n _ (by omega)] at h8
    omega
  have q := pL_step (f := 1000 - (k109 + 1)) (k := k109) hk0 (by rw [hL]; assumption) h59
  rw [hL] at q
  rw [jPL, e9]
  exact q
set_option maxRecDepth 20000 in
theorem lf_f_read_68 (bt : Nat → Nat) (rlength : Nat) (rmostBytes : Nat) (rplace : Nat) (rkind : Int32) (rbegin : Nat) (rword : Int32) (rnumber : Int32) (rletters : Int64) (rtapeF : Nat → Int32) (gp : Nat) (k109 : Nat) (x110 : Int32) (k111 : Nat) (x112 : Int32) (k113 : Nat) (x114 : Int32) (x115 : Int32) (w116 : Int64) (f119 : Nat → Int64) (f120 : Nat → Int32) (f121 : Nat → Int64) (f122 : Nat → Int32) (f123 : Nat → Int32) (f124 : Nat → Int32) (k127 : Nat) (k128 : Nat) (x129 : Int32) (x130 : Int32) (x131 : Int32) (k132 : Nat) (k133 : Nat) (f134 : Nat → Int32) (z106 : Nat) (z107 : Nat → Nat) (z108 : Nat → Nat) (n146 : Nat) (r151 : Int32) (rplaceG_501 : Nat) (rkindG_502 : Int32) (rbeginG_503 : Nat) (rwordG_504 : Int32) (rnumberG_505 : Int32) (rlettersG_506 : Int64) (skinHeatG_509 : Int32) (rplaceG_527 : Nat) (rkindG_528 : Int32) (rbeginG_529 : Nat) (rwordG_530 : Int32) (rnumberG_531 : Int32) (rlettersG_532 : Int64) (y546 : Int32) (iv_rreader_0 : rlength ≤ 940) (iv_rreader_1 : rplace ≤ rlength) (iv_rreader_2 : rmostBytes ≤ 900) (iv_rreader_3 : rbegin ≤ 940) (hTC : TC bt rtapeF) (hRT : RT bt rlength rmostBytes gp rkind rbegin rplace rword rnumber rletters) (hgl : gp ≤ rlength) (j135 : k109 ≤ 900) (j136 : k111 ≤ 940) (j137 : k113 ≤ 940) (j138 : k111 ≤ rlength) (j139 : 2 ≤ k127) (j140 : k127 ≤ 6) (j141 : 2 ≤ k128) (j142 : k128 ≤ 6) (j143 : k132 ≤ 6) (j144 : k133 ≤ 6) (jRT : RT bt rlength rmostBytes z106 x112 k113 k111 x114 x115 w116) (jCS : CS z107 z108 k127 k128 x129 x130 x131 k132 k133 f134 f119 f120 f121 f122 f123 f124) (jSW : SW z107 z108) (jTB : TB x110 z107) (jPL : pLoop bt rlength rmostBytes 1000 gp s0 (fun _ => 0) 0 = pLoop bt rlength rmostBytes (1000 - k109) z106 z107 z108 k109) (j2k : 2 * k109 ≤ z106) (jLe : z106 ≤ rlength) (hm148 : 900 - k109 < n146 + 1) (c149 : k109 < 900) (c150 : ¬ x112 = 0) (p152 : r151 = x114) (c161 : r151 = nI 6) (p511 : rplaceG_501 ≤ rlength) (p512 : rbeginG_503 ≤ 940) (t513 : isO (pSet bt rlength rmostBytes z106 z107 z108 6 30) = true) (t514 : RT bt rlength rmostBytes (lrP (pSet bt rlength rmostBytes z106 z107 z108 6 30)) rkindG_502 rbeginG_503 rplaceG_501 rwordG_504 rnumberG_505 rlettersG_506) (t515 : CS (lrS (pSet bt rlength rmostBytes z106 z107 z108 6 30)) (lrN (pSet bt rlength rmostBytes z106 z107 z108 6 30)) k127 k128 x129 x130 skinHeatG_509 k132 k133 f134 f119 f120 f121 f122 f123 f124) (t516 : SW (lrS (pSet bt rlength rmostBytes z106 z107 z108 6 30)) (lrN (pSet bt rlength rmostBytes z106 z107 z108 6 30))) (t519 : FLG 6 z107 (lrS (pSet bt rlength rmostBytes z106 z107 z108 6 30))) (p536 : rplaceG_527 ≤ rlength) (p537 : rbeginG_529 ≤ 940) (t538 : nI (tK bt rlength rmostBytes (lrP (pSet bt rlength rmostBytes z106 z107 z108 6 30))) = (nI 59)) (t539 : RT bt rlength rmostBytes (tT bt rlength rmostBytes (lrP (pSet bt rlength rmostBytes z106 z107 z108 6 30))) rkindG_528 rbeginG_529 rplaceG_527 rwordG_530 rnumberG_531 rlettersG_532) (e547 : y546 = x110 ||| (nI 64)) : 2 * (k109 + 1) ≤ (tT bt rlength rmostBytes (lrP (pSet bt rlength rmostBytes z106 z107 z108 6 30))) := by
  have hk0 : tK bt rlength rmostBytes z106 ≠ 0 := fun h9 => absurd ((RT_k jRT (by decide)).mpr h9) (by
    have kk0 := ia_n 0 (by decide)
    have b_rkind := ia_b rkind
    have b_rword := ia_b rword
    have b_rnumber := ia_b rnumber
    have b_x110 := ia_b x110
    have b_x112 := ia_b x112
    have b_x114 := ia_b x114
    have b_x115 := ia_b x115
    have b_x129 := ia_b x129
    have b_x130 := ia_b x130
    have b_x131 := ia_b x131
    have b_r151 := ia_b r151
    have b_rkindG_502 := ia_b rkindG_502
    have b_rwordG_504 := ia_b rwordG_504
    have b_rnumberG_505 := ia_b rnumberG_505
    have b_skinHeatG_509 := ia_b skinHeatG_509
    have b_rkindG_528 := ia_b rkindG_528
    have b_rwordG_530 := ia_b rwordG_530
    have b_rnumberG_531 := ia_b rnumberG_531
    have b_y546 := ia_b y546
    have b_rletters := Int64.toInt_lt rletters
    have b_w116 := Int64.toInt_lt w116
    have b_rlettersG_506 := Int64.toInt_lt rlettersG_506
    have b_rlettersG_532 := Int64.toInt_lt rlettersG_532
    try have k_0 := ia_n 6 (by first | decide | omega)
    try have k_1 := ia_n (tK bt rlength rmostBytes (lrP (pSet bt rlength rmostBytes z106 z107 z108 6 30))) (by first | decide | omega)
    try have k_2 := ia_n 59 (by first | decide | omega)
    try have k_3 := ia_n 64 (by first | decide | omega)
    try simp only [ia_lt, ia_le, ia_eq, ia_m1, ia_0, ia_1, ne_eq, true_and, and_true, false_and, and_false, or_false, false_or, or_true, true_or, not_true_eq_false, not_false_eq_true] at *
    all_goals omega)
  have hW : tW bt rlength rmostBytes z106 = 6 := (RT_w jRT (by decide)).mp (by
    have kk6 := ia_n 6 (by decide)
    have b_rkind := ia_b rkind
    have b_rword := ia_b rword
    have b_rnumber := ia_b rnumber
    have b_x110 := ia_b x110
    have b_x112 := ia_b x112
    have b_x114 := ia_b x114
    have b_x115 := ia_b x115
    have b_x129 := ia_b x129
    have b_x130 := ia_b x130
    have b_x131 := ia_b x131
    have b_r151 := ia_b r151
    have b_rkindG_502 := ia_b rkindG_502
    have b_rwordG_504 := ia_b rwordG_504
    have b_rnumberG_505 := ia_b rnumberG_505
    have b_skinHeatG_509 := ia_b skinHeatG_509
    have b_rkindG_528 := ia_b rkindG_528
    have b_rwordG_530 := ia_b rwordG_530
    have b_rnumberG_531 := ia_b rnumberG_531
    have b_y546 := ia_b y546
    have b_rletters := Int64.toInt_lt rletters
    have b_w116 := Int64.toInt_lt w116
    have b_rlettersG_506 := Int64.toInt_lt rlettersG_506
    have b_rlettersG_532 := Int64.toInt_lt rlettersG_532
    try have k_0 := ia_n 6 (by first | decide | omega)
    try have k_1 := ia_n (tK bt rlength rmostBytes (lrP (pSet bt rlength rmostBytes z106 z107 z108 6 30))) (by first | decide | omega)
    try have k_2 := ia_n 59 (by first | decide | omega)
    try have k_3 := ia_n 64 (by first | decide | omega)
    try simp only [ia_lt, ia_le, ia_eq, ia_m1, ia_0, ia_1, ne_eq, true_and, and_true, false_and, and_false, or_false, false_or, or_true, true_or, not_true_eq_false, not_false_eq_true] at *
    all_goals omega)
  have hL := ln6 (σ := z107) (ν := z108) hW
  have e9 : 1000 - k109 = (1000 - (k109 + 1)) + 1 := by omega
  have h59 : tK bt rlength rmostBytes (lrP (pLine bt rlength rmostBytes z106 z107 z108)) = 59 := by
    rw [hL]
    have h8 := ‹nI (tK bt rlength rmostBytes (lrP _)) = nI 59›
    have h7 := tK_le bt rlength rmostBytes (lrP (pLine bt rlength rmostBytes z106 z107 z108))
    rw [hL] at h7
    rw [ia_eq, ia_n _ (by omega), ia_n _ (by omega)] at h8
    omega
  have q := pLine_pos (B := bt) (m := rmostBytes) (σ := z107) (ν := z108) jLe (by rw [hL]; assumption)
  have q2 := tT_gt (B := bt) (n := rlength) (m := rmostBytes) (p := lrP (pLine bt rlength rmostBytes z106 z107 z108)) (by omega) (by omega)
  have q3 := tT_le (B := bt) rmostBytes q.2
  rw [hL] at q q2 q3
  omega
set_option maxRecDepth 20000 in
theorem lf_f_read_69 (bt : Nat → Nat) (rlength : Nat) (rmostBytes : Nat) (rplace : Nat) (rkind : Int32) (rbegin : Nat) (rword : Int32) (rnumber : Int32) (rletters : Int64) (rtapeF : Nat → Int32) (gp : Nat) (k109 : Nat) (x110 : Int32) (k111 : Nat) (x112 : Int32) (k113 : Nat) (x114 : Int32) (x115 : Int32) (w116 : Int64) (f119 : Nat → Int64) (f120 : Nat → Int32) (f121 : Nat → Int64) (f122 : Nat → Int32) (f123 : Nat → Int32) (f124 : Nat → Int32) (k127 : Nat) (k128 : Nat) (x129 : Int32) (x130 : Int32) (x131 : Int32) (k132 : Nat) (k133 : Nat) (f134 : Nat → Int32) (z106 : Nat) (z107 : Nat → Nat) (z108 : Nat → Nat) (n146 : Nat) (r151 : Int32) (rplaceG_501 : Nat) (rkindG_502 : Int32) (rbeginG_503 : Nat) (rwordG_504 : Int32) (rnumberG_505 : Int32) (rlettersG_506 : Int64) (skinHeatG_509 : Int32) (rplaceG_527 : Nat) (rkindG_528 : Int32) (rbeginG_529 : Nat) (rwordG_530 : Int32) (rnumberG_531 : Int32) (rlettersG_532 : Int64) (y546 : Int32) (iv_rreader_0 : rlength ≤ 940) (iv_rreader_1 : rplace ≤ rlength) (iv_rreader_2 : rmostBytes ≤ 900) (iv_rreader_3 : rbegin ≤ 940) (hTC : TC bt rtapeF) (hRT : RT bt rlength rmostBytes gp rkind rbegin rplace rword rnumber rletters) (hgl : gp ≤ rlength) (j135 : k109 ≤ 900) (j136 : k111 ≤ 940) (j137 : k113 ≤ 940) (j138 : k111 ≤ rlength) (j139 : 2 ≤ k127) (j140 : k127 ≤ 6) (j141 : 2 ≤ k128) (j142 : k128 ≤ 6) (j143 : k132 ≤ 6) (j144 : k133 ≤ 6) (jRT : RT bt rlength rmostBytes z106 x112 k113 k111 x114 x115 w116) (jCS : CS z107 z108 k127 k128 x129 x130 x131 k132 k133 f134 f119 f120 f121 f122 f123 f124) (jSW : SW z107 z108) (jTB : TB x110 z107) (jPL : pLoop bt rlength rmostBytes 1000 gp s0 (fun _ => 0) 0 = pLoop bt rlength rmostBytes (1000 - k109) z106 z107 z108 k109) (j2k : 2 * k109 ≤ z106) (jLe : z106 ≤ rlength) (hm148 : 900 - k109 < n146 + 1) (c149 : k109 < 900) (c150 : ¬ x112 = 0) (p152 : r151 = x114) (c161 : r151 = nI 6) (p511 : rplaceG_501 ≤ rlength) (p512 : rbeginG_503 ≤ 940) (t513 : isO (pSet bt rlength rmostBytes z106 z107 z108 6 30) = true) (t514 : RT bt rlength rmostBytes (lrP (pSet bt rlength rmostBytes z106 z107 z108 6 30)) rkindG_502 rbeginG_503 rplaceG_501 rwordG_504 rnumberG_505 rlettersG_506) (t515 : CS (lrS (pSet bt rlength rmostBytes z106 z107 z108 6 30)) (lrN (pSet bt rlength rmostBytes z106 z107 z108 6 30)) k127 k128 x129 x130 skinHeatG_509 k132 k133 f134 f119 f120 f121 f122 f123 f124) (t516 : SW (lrS (pSet bt rlength rmostBytes z106 z107 z108 6 30)) (lrN (pSet bt rlength rmostBytes z106 z107 z108 6 30))) (t519 : FLG 6 z107 (lrS (pSet bt rlength rmostBytes z106 z107 z108 6 30))) (p536 : rplaceG_527 ≤ rlength) (p537 : rbeginG_529 ≤ 940) (t538 : nI (tK bt rlength rmostBytes (lrP (pSet bt rlength rmostBytes z106 z107 z108 6 30))) = (nI 59)) (t539 : RT bt rlength rmostBytes (tT bt rlength rmostBytes (lrP (pSet bt rlength rmostBytes z106 z107 z108 6 30))) rkindG_528 rbeginG_529 rplaceG_527 rwordG_530 rnumberG_531 rlettersG_532) (e547 : y546 = x110 ||| (nI 64)) : (tT bt rlength rmostBytes (lrP (pSet bt rlength rmostBytes z106 z107 z108 6 30))) ≤ rlength := by
  have hk0 : tK bt rlength rmostBytes z106 ≠ 0 := fun h9 => absurd ((RT_k jRT (by decide)).mpr h9) (by
    have kk0 := ia_n 0 (by decide)
    have b_rkind := ia_b rkind
    have b_rword := ia_b rword
    have b_rnumber := ia_b rnumber
    have b_x110 := ia_b x110
    have b_x112 := ia_b x112
    have b_x114 := ia_b x114
    have b_x115 := ia_b x115
    have b_x129 := ia_b x129
    have b_x130 := ia_b x130
    have b_x131 := ia_b x131
    have b_r151 := ia_b r151
    have b_rkindG_502 := ia_b rkindG_502
    have b_rwordG_504 := ia_b rwordG_504
    have b_rnumberG_505 := ia_b rnumberG_505
    have b_skinHeatG_509 := ia_b skinHeatG_509
    have b_rkindG_528 := ia_b rkindG_528
    have b_rwordG_530 := ia_b rwordG_530
    have b_rnumberG_531 := ia_b rnumberG_531
    have b_y546 := ia_b y546
    have b_rletters := Int64.toInt_lt rletters
    have b_w116 := Int64.toInt_lt w116
    have b_rlettersG_506 := Int64.toInt_lt rlettersG_506
    have b_rlettersG_532 := Int64.toInt_lt rlettersG_532
    try have k_0 := ia_n 6 (by first | decide | omega)
    try have k_1 := ia_n (tK bt rlength rmostBytes (lrP (pSet bt rlength rmostBytes z106 z107 z108 6 30))) (by first | decide | omega)
    try have k_2 := ia_n 59 (by first | decide | omega)
    try have k_3 := ia_n 64 (by first | decide | omega)
    try simp only [ia_lt, ia_le, ia_eq, ia_m1, ia_0, ia_1, ne_eq, true_and, and_true, false_and, and_false, or_false, false_or, or_true, true_or, not_true_eq_false, not_false_eq_true] at *
    all_goals omega)
  have hW : tW bt rlength rmostBytes z106 = 6 := (RT_w jRT (by decide)).mp (by
    have kk6 := ia_n 6 (by decide)
    have b_rkind := ia_b rkind
    have b_rword := ia_b rword
    have b_rnumber := ia_b rnumber
    have b_x110 := ia_b x110
    have b_x112 := ia_b x112
    have b_x114 := ia_b x114
    have b_x115 := ia_b x115
    have b_x129 := ia_b x129
    have b_x130 := ia_b x130
    have b_x131 := ia_b x131
    have b_r151 := ia_b r151
    have b_rkindG_502 := ia_b rkindG_502
    have b_rwordG_504 := ia_b rwordG_504
    have b_rnumberG_505 := ia_b rnumberG_505
    have b_skinHeatG_509 := ia_b skinHeatG_509
    have b_rkindG_528 := ia_b rkindG_528
    have b_rwordG_530 := ia_b rwordG_530
    have b_rnumberG_531 := ia_b rnumberG_531
    have b_y546 := ia_b y546
    have b_rletters := Int64.toInt_lt rletters
    have b_w116 := Int64.toInt_lt w116
    have b_rlettersG_506 := Int64.toInt_lt rlettersG_506
    have b_rlettersG_532 := Int64.toInt_lt rlettersG_532
    try have k_0 := ia_n 6 (by first | decide | omega)
    try have k_1 := ia_n (tK bt rlength rmostBytes (lrP (pSet bt rlength rmostBytes z106 z107 z108 6 30))) (by first | decide | omega)
    try have k_2 := ia_n 59 (by first | decide | omega)
    try have k_3 := ia_n 64 (by first | decide | omega)
    try simp only [ia_lt, ia_le, ia_eq, ia_m1, ia_0, ia_1, ne_eq, true_and, and_true, false_and, and_false, or_false, false_or, or_true, true_or, not_true_eq_false, not_false_eq_true] at *
    all_goals omega)
  have hL := ln6 (σ := z107) (ν := z108) hW
  have e9 : 1000 - k109 = (1000 - (k109 + 1)) + 1 := by omega
  have h59 : tK bt rlength rmostBytes (lrP (pLine bt rlength rmostBytes z106 z107 z108)) = 59 := by
    rw [hL]
    have h8 := ‹nI (tK bt rlength rmostBytes (lrP _)) = nI 59›
    have h7 := tK_le bt rlength rmostBytes (lrP (pLine bt rlength rmostBytes z106 z107 z108))
    rw [hL] at h7
    rw [ia_eq, ia_n _ (by omega), ia_n _ (by omega)] at h8
    omega
  have q := pLine_pos (B := bt) (m := rmostBytes) (σ := z107) (ν := z108) jLe (by rw [hL]; assumption)
  have q2 := tT_gt (B := bt) (n := rlength) (m := rmostBytes) (p := lrP (pLine bt rlength rmostBytes z106 z107 z108)) (by omega) (by omega)
  have q3 := tT_le (B := bt) rmostBytes q.2
  rw [hL] at q q2 q3
  omega
set_option maxRecDepth 20000 in
theorem lf_f_read_70 (adK : Nat → Nat) (adV : Nat → Nat) (st : Nat) (qtoldWords : Int32) (bt : Nat → Nat) (reader : Nat) (rtape : Nat) (rlength : Nat) (rmostBytes : Nat) (rplace : Nat) (rkind : Int32) (rbegin : Nat) (rword : Int32) (rnumber : Int32) (rletters : Int64) (rfaultKind : Int32) (rfaultPlace : Int32) (rtapeF : Nat → Int32) (a : Nat) (wide : Nat) (high : Nat) (heat : Int32) (cools : Int32) (skinHeat : Int32) (today : Int32) (stirs : Int32) (steps : Int32) (lumps : Nat) (boats : Nat) (thickness : Nat) (lumpNames : Nat) (lumpCells : Nat) (boatNames : Nat) (boatCells : Nat) (loads : Nat) (spoons : Nat) (spoonsLeft : Nat) (depths : Nat) (thicknessF : Nat → Int32) (lumpNamesF : Nat → Int64) (lumpCellsF : Nat → Int32) (boatNamesF : Nat → Int64) (boatCellsF : Nat → Int32) (loadsF : Nat → Int32) (spoonsF : Nat → Int32) (spoonsLeftF : Nat → Int32) (depthsF : Nat → Int32) (gp : Nat) (wideG_3 : Nat) (highG_4 : Nat) (heatG_5 : Int32) (coolsG_6 : Int32) (skinHeatG_7 : Int32) (todayG_8 : Int32) (stirsG_9 : Int32) (stepsG_10 : Int32) (lumpsG_11 : Nat) (boatsG_12 : Nat) (thicknessG_13 : Nat → Int32) (k109 : Nat) (x110 : Int32) (k111 : Nat) (x112 : Int32) (k113 : Nat) (x114 : Int32) (x115 : Int32) (w116 : Int64) (x117 : Int32) (x118 : Int32) (f119 : Nat → Int64) (f120 : Nat → Int32) (f121 : Nat → Int64) (f122 : Nat → Int32) (f123 : Nat → Int32) (f124 : Nat → Int32) (f125 : Nat → Int32) (f126 : Nat → Int32) (k127 : Nat) (k128 : Nat) (x129 : Int32) (x130 : Int32) (x131 : Int32) (k132 : Nat) (k133 : Nat) (f134 : Nat → Int32) (z106 : Nat) (z107 : Nat → Nat) (z108 : Nat → Nat) (n146 : Nat) (r151 : Int32) (rplaceG_501 : Nat) (rkindG_502 : Int32) (rbeginG_503 : Nat) (rwordG_504 : Int32) (rnumberG_505 : Int32) (rlettersG_506 : Int64) (rfaultKindG_507 : Int32) (rfaultPlaceG_508 : Int32) (skinHeatG_509 : Int32) (rplaceG_527 : Nat) (rkindG_528 : Int32) (rbeginG_529 : Nat) (rwordG_530 : Int32) (rnumberG_531 : Int32) (rlettersG_532 : Int64) (rfaultKindG_533 : Int32) (rfaultPlaceG_534 : Int32) (y546 : Int32) (iv_rreader_0 : rlength ≤ 940) (iv_rreader_1 : rplace ≤ rlength) (iv_rreader_2 : rmostBytes ≤ 900) (iv_rreader_3 : rbegin ≤ 940) (hTC : TC bt rtapeF) (iv_a_0 : 2 ≤ wide) (iv_a_1 : wide ≤ 6) (iv_a_2 : 2 ≤ high) (iv_a_3 : high ≤ 6) (iv_a_4 : lumps ≤ 6) (iv_a_5 : boats ≤ 6) (hRT : RT bt rlength rmostBytes gp rkind rbegin rplace rword rnumber rletters) (hgl : gp ≤ rlength) (p14 : 2 ≤ wideG_3) (p15 : wideG_3 ≤ 6) (p16 : 2 ≤ highG_4) (p17 : highG_4 ≤ 6) (p18 : lumpsG_11 ≤ 6) (p19 : boatsG_12 ≤ 6) (p20 : wideG_3 = 4) (p21 : highG_4 = 4) (p22 : heatG_5 = nI 10) (p23 : coolsG_6 = nI 1) (p24 : skinHeatG_7 = nI 3) (p25 : lumpsG_11 = 0) (p26 : boatsG_12 = 0) (p27 : ∀ c, c < 36 → thicknessG_13 c = nI 0) (j135 : k109 ≤ 900) (j136 : k111 ≤ 940) (j137 : k113 ≤ 940) (j138 : k111 ≤ rlength) (j139 : 2 ≤ k127) (j140 : k127 ≤ 6) (j141 : 2 ≤ k128) (j142 : k128 ≤ 6) (j143 : k132 ≤ 6) (j144 : k133 ≤ 6) (jRT : RT bt rlength rmostBytes z106 x112 k113 k111 x114 x115 w116) (jCS : CS z107 z108 k127 k128 x129 x130 x131 k132 k133 f134 f119 f120 f121 f122 f123 f124) (jSW : SW z107 z108) (jTB : TB x110 z107) (jPL : pLoop bt rlength rmostBytes 1000 gp s0 (fun _ => 0) 0 = pLoop bt rlength rmostBytes (1000 - k109) z106 z107 z108 k109) (j2k : 2 * k109 ≤ z106) (jLe : z106 ≤ rlength) (jFk : x117 = rfaultKind) (hm148 : 900 - k109 < n146 + 1) (c149 : k109 < 900) (c150 : ¬ x112 = 0) (p152 : r151 = x114) (c161 : r151 = nI 6) (p511 : rplaceG_501 ≤ rlength) (p512 : rbeginG_503 ≤ 940) (t513 : isO (pSet bt rlength rmostBytes z106 z107 z108 6 30) = true) (t514 : RT bt rlength rmostBytes (lrP (pSet bt rlength rmostBytes z106 z107 z108 6 30)) rkindG_502 rbeginG_503 rplaceG_501 rwordG_504 rnumberG_505 rlettersG_506) (t515 : CS (lrS (pSet bt rlength rmostBytes z106 z107 z108 6 30)) (lrN (pSet bt rlength rmostBytes z106 z107 z108 6 30)) k127 k128 x129 x130 skinHeatG_509 k132 k133 f134 f119 f120 f121 f122 f123 f124) (t516 : SW (lrS (pSet bt rlength rmostBytes z106 z107 z108 6 30)) (lrN (pSet bt rlength rmostBytes z106 z107 z108 6 30))) (t517 : rfaultKindG_507 = x117) (t518 : rfaultPlaceG_508 = x118) (t519 : FLG 6 z107 (lrS (pSet bt rlength rmostBytes z106 z107 z108 6 30))) (p536 : rplaceG_527 ≤ rlength) (p537 : rbeginG_529 ≤ 940) (t538 : nI (tK bt rlength rmostBytes (lrP (pSet bt rlength rmostBytes z106 z107 z108 6 30))) = (nI 59)) (t539 : RT bt rlength rmostBytes (tT bt rlength rmostBytes (lrP (pSet bt rlength rmostBytes z106 z107 z108 6 30))) rkindG_528 rbeginG_529 rplaceG_527 rwordG_530 rnumberG_531 rlettersG_532) (t540 : rfaultKindG_533 = rfaultKindG_507) (t541 : rfaultPlaceG_534 = rfaultPlaceG_508) (e547 : y546 = x110 ||| (nI 64)) : rfaultKindG_533 = rfaultKind := by
  subst_vars
  first
    | rfl
    | assumption
set_option maxRecDepth 20000 in
theorem lf_f_read_71 (bt : Nat → Nat) (rlength : Nat) (rmostBytes : Nat) (rplace : Nat) (rkind : Int32) (rbegin : Nat) (rword : Int32) (rnumber : Int32) (rletters : Int64) (rtapeF : Nat → Int32) (gp : Nat) (k109 : Nat) (x110 : Int32) (k111 : Nat) (x112 : Int32) (k113 : Nat) (x114 : Int32) (x115 : Int32) (w116 : Int64) (f119 : Nat → Int64) (f120 : Nat → Int32) (f121 : Nat → Int64) (f122 : Nat → Int32) (f123 : Nat → Int32) (f124 : Nat → Int32) (k127 : Nat) (k128 : Nat) (x129 : Int32) (x130 : Int32) (x131 : Int32) (k132 : Nat) (k133 : Nat) (f134 : Nat → Int32) (z106 : Nat) (z107 : Nat → Nat) (z108 : Nat → Nat) (n146 : Nat) (r151 : Int32) (rplaceG_501 : Nat) (rkindG_502 : Int32) (rbeginG_503 : Nat) (rwordG_504 : Int32) (rnumberG_505 : Int32) (rlettersG_506 : Int64) (skinHeatG_509 : Int32) (rplaceG_527 : Nat) (rkindG_528 : Int32) (rbeginG_529 : Nat) (rwordG_530 : Int32) (rnumberG_531 : Int32) (rlettersG_532 : Int64) (y546 : Int32) (iv_rreader_0 : rlength ≤ 940) (iv_rreader_1 : rplace ≤ rlength) (iv_rreader_2 : rmostBytes ≤ 900) (iv_rreader_3 : rbegin ≤ 940) (hTC : TC bt rtapeF) (hRT : RT bt rlength rmostBytes gp rkind rbegin rplace rword rnumber rletters) (hgl : gp ≤ rlength) (j135 : k109 ≤ 900) (j136 : k111 ≤ 940) (j137 : k113 ≤ 940) (j138 : k111 ≤ rlength) (j139 : 2 ≤ k127) (j140 : k127 ≤ 6) (j141 : 2 ≤ k128) (j142 : k128 ≤ 6) (j143 : k132 ≤ 6) (j144 : k133 ≤ 6) (jRT : RT bt rlength rmostBytes z106 x112 k113 k111 x114 x115 w116) (jCS : CS z107 z108 k127 k128 x129 x130 x131 k132 k133 f134 f119 f120 f121 f122 f123 f124) (jSW : SW z107 z108) (jTB : TB x110 z107) (jPL : pLoop bt rlength rmostBytes 1000 gp s0 (fun _ => 0) 0 = pLoop bt rlength rmostBytes (1000 - k109) z106 z107 z108 k109) (j2k : 2 * k109 ≤ z106) (jLe : z106 ≤ rlength) (hm148 : 900 - k109 < n146 + 1) (c149 : k109 < 900) (c150 : ¬ x112 = 0) (p152 : r151 = x114) (c161 : r151 = nI 6) (p511 : rplaceG_501 ≤ rlength) (p512 : rbeginG_503 ≤ 940) (t513 : isO (pSet bt rlength rmostBytes z106 z107 z108 6 30) = true) (t514 : RT bt rlength rmostBytes (lrP (pSet bt rlength rmostBytes z106 z107 z108 6 30)) rkindG_502 rbeginG_503 rplaceG_501 rwordG_504 rnumberG_505 rlettersG_506) (t515 : CS (lrS (pSet bt rlength rmostBytes z106 z107 z108 6 30)) (lrN (pSet bt rlength rmostBytes z106 z107 z108 6 30)) k127 k128 x129 x130 skinHeatG_509 k132 k133 f134 f119 f120 f121 f122 f123 f124) (t516 : SW (lrS (pSet bt rlength rmostBytes z106 z107 z108 6 30)) (lrN (pSet bt rlength rmostBytes z106 z107 z108 6 30))) (t519 : FLG 6 z107 (lrS (pSet bt rlength rmostBytes z106 z107 z108 6 30))) (p536 : rplaceG_527 ≤ rlength) (p537 : rbeginG_529 ≤ 940) (t538 : nI (tK bt rlength rmostBytes (lrP (pSet bt rlength rmostBytes z106 z107 z108 6 30))) = (nI 59)) (t539 : RT bt rlength rmostBytes (tT bt rlength rmostBytes (lrP (pSet bt rlength rmostBytes z106 z107 z108 6 30))) rkindG_528 rbeginG_529 rplaceG_527 rwordG_530 rnumberG_531 rlettersG_532) (e547 : y546 = x110 ||| (nI 64)) : 900 - (k109 + 1) < n146 := by
  have b_rkind := ia_b rkind
  have b_rword := ia_b rword
  have b_rnumber := ia_b rnumber
  have b_x110 := ia_b x110
  have b_x112 := ia_b x112
  have b_x114 := ia_b x114
  have b_x115 := ia_b x115
  have b_x129 := ia_b x129
  have b_x130 := ia_b x130
  have b_x131 := ia_b x131
  have b_r151 := ia_b r151
  have b_rkindG_502 := ia_b rkindG_502
  have b_rwordG_504 := ia_b rwordG_504
  have b_rnumberG_505 := ia_b rnumberG_505
  have b_skinHeatG_509 := ia_b skinHeatG_509
  have b_rkindG_528 := ia_b rkindG_528
  have b_rwordG_530 := ia_b rwordG_530
  have b_rnumberG_531 := ia_b rnumberG_531
  have b_y546 := ia_b y546
  have b_rletters := Int64.toInt_lt rletters
  have b_w116 := Int64.toInt_lt w116
  have b_rlettersG_506 := Int64.toInt_lt rlettersG_506
  have b_rlettersG_532 := Int64.toInt_lt rlettersG_532
  try have k_0 := ia_n 6 (by first | decide | omega)
  try have k_1 := ia_n (tK bt rlength rmostBytes (lrP (pSet bt rlength rmostBytes z106 z107 z108 6 30))) (by first | decide | omega)
  try have k_2 := ia_n 59 (by first | decide | omega)
  try have k_3 := ia_n 64 (by first | decide | omega)
  try simp only [ia_lt, ia_le, ia_eq, ia_m1, ia_0, ia_1, ne_eq, true_and, and_true, false_and, and_false, or_false, false_or, or_true, true_or, not_true_eq_false, not_false_eq_true] at *
  all_goals omega
set_option maxRecDepth 20000 in
theorem lf_f_read_72 (bt : Nat → Nat) (rlength : Nat) (rmostBytes : Nat) (rplace : Nat) (rkind : Int32) (rbegin : Nat) (rword : Int32) (rnumber : Int32) (rletters : Int64) (rtapeF : Nat → Int32) (gp : Nat) (k109 : Nat) (x110 : Int32) (k111 : Nat) (x112 : Int32) (k113 : Nat) (x114 : Int32) (x115 : Int32) (w116 : Int64) (f119 : Nat → Int64) (f120 : Nat → Int32) (f121 : Nat → Int64) (f122 : Nat → Int32) (f123 : Nat → Int32) (f124 : Nat → Int32) (k127 : Nat) (k128 : Nat) (x129 : Int32) (x130 : Int32) (x131 : Int32) (k132 : Nat) (k133 : Nat) (f134 : Nat → Int32) (z106 : Nat) (z107 : Nat → Nat) (z108 : Nat → Nat) (n146 : Nat) (r151 : Int32) (rplaceG_501 : Nat) (rkindG_502 : Int32) (rbeginG_503 : Nat) (rwordG_504 : Int32) (rnumberG_505 : Int32) (rlettersG_506 : Int64) (skinHeatG_509 : Int32) (rplaceG_527 : Nat) (rfaultKindG_533 : Int32) (rfaultPlaceG_534 : Int32) (iv_rreader_0 : rlength ≤ 940) (iv_rreader_1 : rplace ≤ rlength) (iv_rreader_2 : rmostBytes ≤ 900) (iv_rreader_3 : rbegin ≤ 940) (hTC : TC bt rtapeF) (hRT : RT bt rlength rmostBytes gp rkind rbegin rplace rword rnumber rletters) (hgl : gp ≤ rlength) (j135 : k109 ≤ 900) (j136 : k111 ≤ 940) (j137 : k113 ≤ 940) (j138 : k111 ≤ rlength) (j139 : 2 ≤ k127) (j140 : k127 ≤ 6) (j141 : 2 ≤ k128) (j142 : k128 ≤ 6) (j143 : k132 ≤ 6) (j144 : k133 ≤ 6) (jRT : RT bt rlength rmostBytes z106 x112 k113 k111 x114 x115 w116) (jCS : CS z107 z108 k127 k128 x129 x130 x131 k132 k133 f134 f119 f120 f121 f122 f123 f124) (jSW : SW z107 z108) (jTB : TB x110 z107) (jPL : pLoop bt rlength rmostBytes 1000 gp s0 (fun _ => 0) 0 = pLoop bt rlength rmostBytes (1000 - k109) z106 z107 z108 k109) (j2k : 2 * k109 ≤ z106) (jLe : z106 ≤ rlength) (hm148 : 900 - k109 < n146 + 1) (c149 : k109 < 900) (c150 : ¬ x112 = 0) (p152 : r151 = x114) (c161 : r151 = nI 6) (p511 : rplaceG_501 ≤ rlength) (p512 : rbeginG_503 ≤ 940) (t513 : isO (pSet bt rlength rmostBytes z106 z107 z108 6 30) = true) (t514 : RT bt rlength rmostBytes (lrP (pSet bt rlength rmostBytes z106 z107 z108 6 30)) rkindG_502 rbeginG_503 rplaceG_501 rwordG_504 rnumberG_505 rlettersG_506) (t515 : CS (lrS (pSet bt rlength rmostBytes z106 z107 z108 6 30)) (lrN (pSet bt rlength rmostBytes z106 z107 z108 6 30)) k127 k128 x129 x130 skinHeatG_509 k132 k133 f134 f119 f120 f121 f122 f123 f124) (t516 : SW (lrS (pSet bt rlength rmostBytes z106 z107 z108 6 30)) (lrN (pSet bt rlength rmostBytes z106 z107 z108 6 30))) (t519 : FLG 6 z107 (lrS (pSet bt rlength rmostBytes z106 z107 z108 6 30))) (p536 : rplaceG_527 ≤ rlength) (t542 : ¬ nI (tK bt rlength rmostBytes (lrP (pSet bt rlength rmostBytes z106 z107 z108 6 30))) = (nI 59)) (t543 : rfaultKindG_533 = nI 1) (t544 : rfaultPlaceG_534 = nI (tF bt rlength rmostBytes (lrP (pSet bt rlength rmostBytes z106 z107 z108 6 30)))) : isO (pLoop bt rlength rmostBytes 1000 gp s0 (fun _ => 0) 0) = false ∧ rfaultKindG_533 = nI (erA (pLoop bt rlength rmostBytes 1000 gp s0 (fun _ => 0) 0)) ∧ rfaultPlaceG_534 = nI (erB (pLoop bt rlength rmostBytes 1000 gp s0 (fun _ => 0) 0)) := by
  have hk0 : tK bt rlength rmostBytes z106 ≠ 0 := fun h9 => absurd ((RT_k jRT (by decide)).mpr h9) (by
    have kk0 := ia_n 0 (by decide)
    have b_rkind := ia_b rkind
    have b_rword := ia_b rword
    have b_rnumber := ia_b rnumber
    have b_x110 := ia_b x110
    have b_x112 := ia_b x112
    have b_x114 := ia_b x114
    have b_x115 := ia_b x115
    have b_x129 := ia_b x129
    have b_x130 := ia_b x130
    have b_x131 := ia_b x131
    have b_r151 := ia_b r151
    have b_rkindG_502 := ia_b rkindG_502
    have b_rwordG_504 := ia_b rwordG_504
    have b_rnumberG_505 := ia_b rnumberG_505
    have b_skinHeatG_509 := ia_b skinHeatG_509
    have b_rfaultKindG_533 := ia_b rfaultKindG_533
    have b_rfaultPlaceG_534 := ia_b rfaultPlaceG_534
    have b_rletters := Int64.toInt_lt rletters
    have b_w116 := Int64.toInt_lt w116
    have b_rlettersG_506 := Int64.toInt_lt rlettersG_506
    try have k_0 := ia_n 6 (by first | decide | omega)
    try have k_1 := ia_n (tK bt rlength rmostBytes (lrP (pSet bt rlength rmostBytes z106 z107 z108 6 30))) (by first | decide | omega)
    try have k_2 := ia_n 59 (by first | decide | omega)
    try have k_3 := ia_n 1 (by first | decide | omega)
    try have k_4 := ia_n (tF bt rlength rmostBytes (lrP (pSet bt rlength rmostBytes z106 z107 z108 6 30))) (by first | decide | omega)
    try have k_5 := ia_n (erA (pLoop bt rlength rmostBytes 1000 gp s0 (fun _ => 0) 0)) (by first | decide | omega)
    try have k_6 := ia_n (erB (pLoop bt rlength rmostBytes 1000 gp s0 (fun _ => 0) 0)) (by first | decide | omega)
    try simp only [ia_lt, ia_le, ia_eq, ia_m1, ia_0, ia_1, ne_eq, true_and, and_true, false_and, and_false, or_false, false_or, or_true, true_or, not_true_eq_false, not_false_eq_true] at *
    all_goals omega)
  have hW : tW bt rlength rmostBytes z106 = 6 := (RT_w jRT (by decide)).mp (by
    have kk6 := ia_n 6 (by decide)
    have b_rkind := ia_b rkind
    have b_rword := ia_b rword
    have b_rnumber := ia_b rnumber
    have b_x110 := ia_b x110
    have b_x112 := ia_b x112
    have b_x114 := ia_b x114
    have b_x115 := ia_b x115
    have b_x129 := ia_b x129
    have b_x130 := ia_b x130
    have b_x131 := ia_b x131
    have b_r151 := ia_b r151
    have b_rkindG_502 := ia_b rkindG_502
    have b_rwordG_504 := ia_b rwordG_504
    have b_rnumberG_505 := ia_b rnumberG_505
    have b_skinHeatG_509 := ia_b skinHeatG_509
    have b_rfaultKindG_533 := ia_b rfaultKindG_533
    have b_rfaultPlaceG_534 := ia_b rfaultPlaceG_534
    have b_rletters := Int64.toInt_lt rletters
    have b_w116 := Int64.toInt_lt w116
    have b_rlettersG_506 := Int64.toInt_lt rlettersG_506
    try have k_0 := ia_n 6 (by first | decide | omega)
    try have k_1 := ia_n (tK bt rlength rmostBytes (lrP (pSet bt rlength rmostBytes z106 z107 z108 6 30))) (by first | decide | omega)
    try have k_2 := ia_n 59 (by first | decide | omega)
    try have k_3 := ia_n 1 (by first | decide | omega)
    try have k_4 := ia_n (tF bt rlength rmostBytes (lrP (pSet bt rlength rmostBytes z106 z107 z108 6 30))) (by first | decide | omega)
    try have k_5 := ia_n (erA (pLoop bt rlength rmostBytes 1000 gp s0 (fun _ => 0) 0)) (by first | decide | omega)
    try have k_6 := ia_n (erB (pLoop bt rlength rmostBytes 1000 gp s0 (fun _ => 0) 0)) (by first | decide | omega)
    try simp only [ia_lt, ia_le, ia_eq, ia_m1, ia_0, ia_1, ne_eq, true_and, and_true, false_and, and_false, or_false, false_or, or_true, true_or, not_true_eq_false, not_false_eq_true] at *
    all_goals omega)
  have hL := ln6 (σ := z107) (ν := z108) hW
  have e9 : 1000 - k109 = (1000 - (k109 + 1)) + 1 := by omega
  have h59 : ¬ tK bt rlength rmostBytes (lrP (pLine bt rlength rmostBytes z106 z107 z108)) = 59 := by
    rw [hL]
    have h8 := ‹¬ nI (tK bt rlength rmostBytes (lrP _)) = nI 59›
    have h7 := tK_le bt rlength rmostBytes (lrP (pLine bt rlength rmostBytes z106 z107 z108))
    rw [hL] at h7
    rw [ia_eq, ia_n _ (by omega), ia_n _ (by omega)] at h8
    omega
  have q := pL_sgn (f := 1000 - (k109 + 1)) (k := k109) hk0 (by rw [hL]; assumption) h59
  rw [hL] at q
  rw [jPL, e9, q]
  exact ⟨rfl, ‹_›, ‹_›⟩
set_option maxRecDepth 20000 in
theorem lf_f_read_73 (bt : Nat → Nat) (rlength : Nat) (rmostBytes : Nat) (rplace : Nat) (rkind : Int32) (rbegin : Nat) (rword : Int32) (rnumber : Int32) (rletters : Int64) (rtapeF : Nat → Int32) (gp : Nat) (k109 : Nat) (x110 : Int32) (k111 : Nat) (x112 : Int32) (k113 : Nat) (x114 : Int32) (x115 : Int32) (w116 : Int64) (f119 : Nat → Int64) (f120 : Nat → Int32) (f121 : Nat → Int64) (f122 : Nat → Int32) (f123 : Nat → Int32) (f124 : Nat → Int32) (k127 : Nat) (k128 : Nat) (x129 : Int32) (x130 : Int32) (x131 : Int32) (k132 : Nat) (k133 : Nat) (f134 : Nat → Int32) (z106 : Nat) (z107 : Nat → Nat) (z108 : Nat → Nat) (n146 : Nat) (r151 : Int32) (rplaceG_501 : Nat) (rfaultKindG_507 : Int32) (rfaultPlaceG_508 : Int32) (iv_rreader_0 : rlength ≤ 940) (iv_rreader_1 : rplace ≤ rlength) (iv_rreader_2 : rmostBytes ≤ 900) (iv_rreader_3 : rbegin ≤ 940) (hTC : TC bt rtapeF) (hRT : RT bt rlength rmostBytes gp rkind rbegin rplace rword rnumber rletters) (hgl : gp ≤ rlength) (j135 : k109 ≤ 900) (j136 : k111 ≤ 940) (j137 : k113 ≤ 940) (j138 : k111 ≤ rlength) (j139 : 2 ≤ k127) (j140 : k127 ≤ 6) (j141 : 2 ≤ k128) (j142 : k128 ≤ 6) (j143 : k132 ≤ 6) (j144 : k133 ≤ 6) (jRT : RT bt rlength rmostBytes z106 x112 k113 k111 x114 x115 w116) (jCS : CS z107 z108 k127 k128 x129 x130 x131 k132 k133 f134 f119 f120 f121 f122 f123 f124) (jSW : SW z107 z108) (jTB : TB x110 z107) (jPL : pLoop bt rlength rmostBytes 1000 gp s0 (fun _ => 0) 0 = pLoop bt rlength rmostBytes (1000 - k109) z106 z107 z108 k109) (j2k : 2 * k109 ≤ z106) (jLe : z106 ≤ rlength) (hm148 : 900 - k109 < n146 + 1) (c149 : k109 < 900) (c150 : ¬ x112 = 0) (p152 : r151 = x114) (c161 : r151 = nI 6) (p511 : rplaceG_501 ≤ rlength) (t520 : isO (pSet bt rlength rmostBytes z106 z107 z108 6 30) = false) (t521 : rfaultKindG_507 = nI (erA (pSet bt rlength rmostBytes z106 z107 z108 6 30))) (t522 : rfaultPlaceG_508 = nI (erB (pSet bt rlength rmostBytes z106 z107 z108 6 30))) : isO (pLoop bt rlength rmostBytes 1000 gp s0 (fun _ => 0) 0) = false ∧ rfaultKindG_507 = nI (erA (pLoop bt rlength rmostBytes 1000 gp s0 (fun _ => 0) 0)) ∧ rfaultPlaceG_508 = nI (erB (pLoop bt rlength rmostBytes 1000 gp s0 (fun _ => 0) 0)) := by
  have hk0 : tK bt rlength rmostBytes z106 ≠ 0 := fun h9 => absurd ((RT_k jRT (by decide)).mpr h9) (by
    have kk0 := ia_n 0 (by decide)
    have b_rkind := ia_b rkind
    have b_rword := ia_b rword
    have b_rnumber := ia_b rnumber
    have b_x110 := ia_b x110
    have b_x112 := ia_b x112
    have b_x114 := ia_b x114
    have b_x115 := ia_b x115
    have b_x129 := ia_b x129
    have b_x130 := ia_b x130
    have b_x131 := ia_b x131
    have b_r151 := ia_b r151
    have b_rfaultKindG_507 := ia_b rfaultKindG_507
    have b_rfaultPlaceG_508 := ia_b rfaultPlaceG_508
    have b_rletters := Int64.toInt_lt rletters
    have b_w116 := Int64.toInt_lt w116
    try have k_0 := ia_n 6 (by first | decide | omega)
    try have k_1 := ia_n (erA (pSet bt rlength rmostBytes z106 z107 z108 6 30)) (by first | decide | omega)
    try have k_2 := ia_n (erB (pSet bt rlength rmostBytes z106 z107 z108 6 30)) (by first | decide | omega)
    try have k_3 := ia_n (erA (pLoop bt rlength rmostBytes 1000 gp s0 (fun _ => 0) 0)) (by first | decide | omega)
    try have k_4 := ia_n (erB (pLoop bt rlength rmostBytes 1000 gp s0 (fun _ => 0) 0)) (by first | decide | omega)
    try simp only [ia_lt, ia_le, ia_eq, ia_m1, ia_0, ia_1, ne_eq, true_and, and_true, false_and, and_false, or_false, false_or, or_true, true_or, not_true_eq_false, not_false_eq_true] at *
    all_goals omega)
  have hW : tW bt rlength rmostBytes z106 = 6 := (RT_w jRT (by decide)).mp (by
    have kk6 := ia_n 6 (by decide)
    have b_rkind := ia_b rkind
    have b_rword := ia_b rword
    have b_rnumber := ia_b rnumber
    have b_x110 := ia_b x110
    have b_x112 := ia_b x112
    have b_x114 := ia_b x114
    have b_x115 := ia_b x115
    have b_x129 := ia_b x129
    have b_x130 := ia_b x130
    have b_x131 := ia_b x131
    have b_r151 := ia_b r151
    have b_rfaultKindG_507 := ia_b rfaultKindG_507
    have b_rfaultPlaceG_508 := ia_b rfaultPlaceG_508
    have b_rletters := Int64.toInt_lt rletters
    have b_w116 := Int64.toInt_lt w116
    try have k_0 := ia_n 6 (by first | decide | omega)
    try have k_1 := ia_n (erA (pSet bt rlength rmostBytes z106 z107 z108 6 30)) (by first | decide | omega)
    try have k_2 := ia_n (erB (pSet bt rlength rmostBytes z106 z107 z108 6 30)) (by first | decide | omega)
    try have k_3 := ia_n (erA (pLoop bt rlength rmostBytes 1000 gp s0 (fun _ => 0) 0)) (by first | decide | omega)
    try have k_4 := ia_n (erB (pLoop bt rlength rmostBytes 1000 gp s0 (fun _ => 0) 0)) (by first | decide | omega)
    try simp only [ia_lt, ia_le, ia_eq, ia_m1, ia_0, ia_1, ne_eq, true_and, and_true, false_and, and_false, or_false, false_or, or_true, true_or, not_true_eq_false, not_false_eq_true] at *
    all_goals omega)
  have hL := ln6 (σ := z107) (ν := z108) hW
  have e9 : 1000 - k109 = (1000 - (k109 + 1)) + 1 := by omega
  have q := pL_err (f := 1000 - (k109 + 1)) (k := k109) hk0 (by rw [hL]; assumption)
  rw [hL] at q
  rw [jPL, e9, q]
  exact ⟨rfl, ‹_›, ‹_›⟩
set_option maxRecDepth 20000 in
theorem lf_f_read_74   : 0 ≤ 900 := by
  try simp only [ia_lt, ia_le, ia_eq, ia_m1, ia_0, ia_1, ne_eq, true_and, and_true, false_and, and_false, or_false, false_or, or_true, true_or, not_true_eq_false, not_false_eq_true] at *
  all_goals omega
set_option maxRecDepth 20000 in
theorem lf_f_read_75 (bt : Nat → Nat) (rlength : Nat) (rmostBytes : Nat) (rplace : Nat) (rkind : Int32) (rbegin : Nat) (rword : Int32) (rnumber : Int32) (rletters : Int64) (rtapeF : Nat → Int32) (gp : Nat) (iv_rreader_0 : rlength ≤ 940) (iv_rreader_1 : rplace ≤ rlength) (iv_rreader_2 : rmostBytes ≤ 900) (iv_rreader_3 : rbegin ≤ 940) (hTC : TC bt rtapeF) (hRT : RT bt rlength rmostBytes gp rkind rbegin rplace rword rnumber rletters) (hgl : gp ≤ rlength) : rplace ≤ 940 := by
  have b_rkind := ia_b rkind
  have b_rword := ia_b rword
  have b_rnumber := ia_b rnumber
  have b_rletters := Int64.toInt_lt rletters
  try simp only [ia_lt, ia_le, ia_eq, ia_m1, ia_0, ia_1, ne_eq, true_and, and_true, false_and, and_false, or_false, false_or, or_true, true_or, not_true_eq_false, not_false_eq_true] at *
  all_goals omega
set_option maxRecDepth 20000 in
theorem lf_f_read_76 (adK : Nat → Nat) (adV : Nat → Nat) (st : Nat) (qtoldWords : Int32) (bt : Nat → Nat) (reader : Nat) (rtape : Nat) (rlength : Nat) (rmostBytes : Nat) (rplace : Nat) (rkind : Int32) (rbegin : Nat) (rword : Int32) (rnumber : Int32) (rletters : Int64) (rfaultKind : Int32) (rfaultPlace : Int32) (rtapeF : Nat → Int32) (a : Nat) (wide : Nat) (high : Nat) (heat : Int32) (cools : Int32) (skinHeat : Int32) (today : Int32) (stirs : Int32) (steps : Int32) (lumps : Nat) (boats : Nat) (thickness : Nat) (lumpNames : Nat) (lumpCells : Nat) (boatNames : Nat) (boatCells : Nat) (loads : Nat) (spoons : Nat) (spoonsLeft : Nat) (depths : Nat) (thicknessF : Nat → Int32) (lumpNamesF : Nat → Int64) (lumpCellsF : Nat → Int32) (boatNamesF : Nat → Int64) (boatCellsF : Nat → Int32) (loadsF : Nat → Int32) (spoonsF : Nat → Int32) (spoonsLeftF : Nat → Int32) (depthsF : Nat → Int32) (gp : Nat) (wideG_3 : Nat) (highG_4 : Nat) (heatG_5 : Int32) (coolsG_6 : Int32) (skinHeatG_7 : Int32) (todayG_8 : Int32) (stirsG_9 : Int32) (stepsG_10 : Int32) (lumpsG_11 : Nat) (boatsG_12 : Nat) (thicknessG_13 : Nat → Int32) (iv_rreader_0 : rlength ≤ 940) (iv_rreader_1 : rplace ≤ rlength) (iv_rreader_2 : rmostBytes ≤ 900) (iv_rreader_3 : rbegin ≤ 940) (hTC : TC bt rtapeF) (iv_a_0 : 2 ≤ wide) (iv_a_1 : wide ≤ 6) (iv_a_2 : 2 ≤ high) (iv_a_3 : high ≤ 6) (iv_a_4 : lumps ≤ 6) (iv_a_5 : boats ≤ 6) (hRT : RT bt rlength rmostBytes gp rkind rbegin rplace rword rnumber rletters) (hgl : gp ≤ rlength) (p14 : 2 ≤ wideG_3) (p15 : wideG_3 ≤ 6) (p16 : 2 ≤ highG_4) (p17 : highG_4 ≤ 6) (p18 : lumpsG_11 ≤ 6) (p19 : boatsG_12 ≤ 6) (p20 : wideG_3 = 4) (p21 : highG_4 = 4) (p22 : heatG_5 = nI 10) (p23 : coolsG_6 = nI 1) (p24 : skinHeatG_7 = nI 3) (p25 : lumpsG_11 = 0) (p26 : boatsG_12 = 0) (p27 : ∀ c, c < 36 → thicknessG_13 c = nI 0) : CS s0 (fun _ => 0) wideG_3 highG_4 heatG_5 coolsG_6 skinHeatG_7 lumpsG_11 boatsG_12 thicknessG_13 lumpNamesF lumpCellsF boatNamesF boatCellsF loadsF spoonsF := by
  first
    | assumption
    | (subst_vars; exact CS_0 (by assumption))
set_option maxRecDepth 20000 in
theorem lf_f_read_77 (adK : Nat → Nat) (adV : Nat → Nat) (st : Nat) (qtoldWords : Int32) (bt : Nat → Nat) (reader : Nat) (rtape : Nat) (rlength : Nat) (rmostBytes : Nat) (rplace : Nat) (rkind : Int32) (rbegin : Nat) (rword : Int32) (rnumber : Int32) (rletters : Int64) (rfaultKind : Int32) (rfaultPlace : Int32) (rtapeF : Nat → Int32) (a : Nat) (wide : Nat) (high : Nat) (heat : Int32) (cools : Int32) (skinHeat : Int32) (today : Int32) (stirs : Int32) (steps : Int32) (lumps : Nat) (boats : Nat) (thickness : Nat) (lumpNames : Nat) (lumpCells : Nat) (boatNames : Nat) (boatCells : Nat) (loads : Nat) (spoons : Nat) (spoonsLeft : Nat) (depths : Nat) (thicknessF : Nat → Int32) (lumpNamesF : Nat → Int64) (lumpCellsF : Nat → Int32) (boatNamesF : Nat → Int64) (boatCellsF : Nat → Int32) (loadsF : Nat → Int32) (spoonsF : Nat → Int32) (spoonsLeftF : Nat → Int32) (depthsF : Nat → Int32) (gp : Nat) (wideG_3 : Nat) (highG_4 : Nat) (heatG_5 : Int32) (coolsG_6 : Int32) (skinHeatG_7 : Int32) (todayG_8 : Int32) (stirsG_9 : Int32) (stepsG_10 : Int32) (lumpsG_11 : Nat) (boatsG_12 : Nat) (thicknessG_13 : Nat → Int32) (iv_rreader_0 : rlength ≤ 940) (iv_rreader_1 : rplace ≤ rlength) (iv_rreader_2 : rmostBytes ≤ 900) (iv_rreader_3 : rbegin ≤ 940) (hTC : TC bt rtapeF) (iv_a_0 : 2 ≤ wide) (iv_a_1 : wide ≤ 6) (iv_a_2 : 2 ≤ high) (iv_a_3 : high ≤ 6) (iv_a_4 : lumps ≤ 6) (iv_a_5 : boats ≤ 6) (hRT : RT bt rlength rmostBytes gp rkind rbegin rplace rword rnumber rletters) (hgl : gp ≤ rlength) (p14 : 2 ≤ wideG_3) (p15 : wideG_3 ≤ 6) (p16 : 2 ≤ highG_4) (p17 : highG_4 ≤ 6) (p18 : lumpsG_11 ≤ 6) (p19 : boatsG_12 ≤ 6) (p20 : wideG_3 = 4) (p21 : highG_4 = 4) (p22 : heatG_5 = nI 10) (p23 : coolsG_6 = nI 1) (p24 : skinHeatG_7 = nI 3) (p25 : lumpsG_11 = 0) (p26 : boatsG_12 = 0) (p27 : ∀ c, c < 36 → thicknessG_13 c = nI 0) : SW s0 (fun _ => 0) := by
  first
    | exact SW_0
    | assumption
set_option maxRecDepth 20000 in
theorem lf_f_read_78   : TB (nI 0) s0 := by
  exact TB_0
set_option maxRecDepth 20000 in
theorem lf_f_read_79 (bt : Nat → Nat) (rlength : Nat) (rmostBytes : Nat) (rplace : Nat) (rkind : Int32) (rbegin : Nat) (rword : Int32) (rnumber : Int32) (rletters : Int64) (rtapeF : Nat → Int32) (gp : Nat) (iv_rreader_0 : rlength ≤ 940) (iv_rreader_1 : rplace ≤ rlength) (iv_rreader_2 : rmostBytes ≤ 900) (iv_rreader_3 : rbegin ≤ 940) (hTC : TC bt rtapeF) (hRT : RT bt rlength rmostBytes gp rkind rbegin rplace rword rnumber rletters) (hgl : gp ≤ rlength) : pLoop bt rlength rmostBytes 1000 gp s0 (fun _ => 0) 0 = pLoop bt rlength rmostBytes (1000 - 0) gp s0 (fun _ => 0) 0 := by
  rfl
set_option maxRecDepth 20000 in
theorem lf_f_read_80 (bt : Nat → Nat) (rlength : Nat) (rmostBytes : Nat) (rplace : Nat) (rkind : Int32) (rbegin : Nat) (rword : Int32) (rnumber : Int32) (rletters : Int64) (rtapeF : Nat → Int32) (gp : Nat) (iv_rreader_0 : rlength ≤ 940) (iv_rreader_1 : rplace ≤ rlength) (iv_rreader_2 : rmostBytes ≤ 900) (iv_rreader_3 : rbegin ≤ 940) (hTC : TC bt rtapeF) (hRT : RT bt rlength rmostBytes gp rkind rbegin rplace rword rnumber rletters) (hgl : gp ≤ rlength) : 2 * 0 ≤ gp := by
  first
    | assumption
    | omega
set_option maxRecDepth 20000 in
theorem lf_f_read_81 (adK : Nat → Nat) (adV : Nat → Nat) (st : Nat) (qtoldWords : Int32) (bt : Nat → Nat) (reader : Nat) (rtape : Nat) (rlength : Nat) (rmostBytes : Nat) (rplace : Nat) (rkind : Int32) (rbegin : Nat) (rword : Int32) (rnumber : Int32) (rletters : Int64) (rfaultKind : Int32) (rfaultPlace : Int32) (rtapeF : Nat → Int32) (a : Nat) (wide : Nat) (high : Nat) (heat : Int32) (cools : Int32) (skinHeat : Int32) (today : Int32) (stirs : Int32) (steps : Int32) (lumps : Nat) (boats : Nat) (thickness : Nat) (lumpNames : Nat) (lumpCells : Nat) (boatNames : Nat) (boatCells : Nat) (loads : Nat) (spoons : Nat) (spoonsLeft : Nat) (depths : Nat) (thicknessF : Nat → Int32) (lumpNamesF : Nat → Int64) (lumpCellsF : Nat → Int32) (boatNamesF : Nat → Int64) (boatCellsF : Nat → Int32) (loadsF : Nat → Int32) (spoonsF : Nat → Int32) (spoonsLeftF : Nat → Int32) (depthsF : Nat → Int32) (gp : Nat) (wideG_3 : Nat) (highG_4 : Nat) (heatG_5 : Int32) (coolsG_6 : Int32) (skinHeatG_7 : Int32) (todayG_8 : Int32) (stirsG_9 : Int32) (stepsG_10 : Int32) (lumpsG_11 : Nat) (boatsG_12 : Nat) (thicknessG_13 : Nat → Int32) (iv_rreader_0 : rlength ≤ 940) (iv_rreader_1 : rplace ≤ rlength) (iv_rreader_2 : rmostBytes ≤ 900) (iv_rreader_3 : rbegin ≤ 940) (hTC : TC bt rtapeF) (iv_a_0 : 2 ≤ wide) (iv_a_1 : wide ≤ 6) (iv_a_2 : 2 ≤ high) (iv_a_3 : high ≤ 6) (iv_a_4 : lumps ≤ 6) (iv_a_5 : boats ≤ 6) (hRT : RT bt rlength rmostBytes gp rkind rbegin rplace rword rnumber rletters) (hgl : gp ≤ rlength) (p14 : 2 ≤ wideG_3) (p15 : wideG_3 ≤ 6) (p16 : 2 ≤ highG_4) (p17 : highG_4 ≤ 6) (p18 : lumpsG_11 ≤ 6) (p19 : boatsG_12 ≤ 6) (p20 : wideG_3 = 4) (p21 : highG_4 = 4) (p22 : heatG_5 = nI 10) (p23 : coolsG_6 = nI 1) (p24 : skinHeatG_7 = nI 3) (p25 : lumpsG_11 = 0) (p26 : boatsG_12 = 0) (p27 : ∀ c, c < 36 → thicknessG_13 c = nI 0) : rfaultKind = rfaultKind := by
  subst_vars
  first
    | rfl
    | assumption
set_option maxHeartbeats 4000000 in
set_option maxRecDepth 100000 in
theorem c_f_read (l : Launch) (dC : Nat → ClassId) (dI : Nat → Nat → Nat) (ky : Nat → ClassId) (sz : Nat) (adK : Nat → Nat) (adV : Nat → Nat) (st : Nat) (qtoldWords : Int32) (bt : Nat → Nat) (reader : Nat) (rtape : Nat) (rlength : Nat) (rmostBytes : Nat) (rplace : Nat) (rkind : Int32) (rbegin : Nat) (rword : Int32) (rnumber : Int32) (rletters : Int64) (rfaultKind : Int32) (rfaultPlace : Int32) (rtapeF : Nat → Int32) (a : Nat) (wide : Nat) (high : Nat) (heat : Int32) (cools : Int32) (skinHeat : Int32) (today : Int32) (stirs : Int32) (steps : Int32) (lumps : Nat) (boats : Nat) (thickness : Nat) (lumpNames : Nat) (lumpCells : Nat) (boatNames : Nat) (boatCells : Nat) (loads : Nat) (spoons : Nat) (spoonsLeft : Nat) (depths : Nat) (thicknessF : Nat → Int32) (lumpNamesF : Nat → Int64) (lumpCellsF : Nat → Int32) (boatNamesF : Nat → Int64) (boatCellsF : Nat → Int32) (loadsF : Nat → Int32) (spoonsF : Nat → Int32) (spoonsLeftF : Nat → Int32) (depthsF : Nat → Int32) (gp : Nat) (iv_rreader_0 : rlength ≤ 940) (iv_rreader_1 : rplace ≤ rlength) (iv_rreader_2 : rmostBytes ≤ 900) (iv_rreader_3 : rbegin ≤ 940) (hTC : TC bt rtapeF) (iv_a_0 : 2 ≤ wide) (iv_a_1 : wide ≤ 6) (iv_a_2 : 2 ≤ high) (iv_a_3 : high ≤ 6) (iv_a_4 : lumps ≤ 6) (iv_a_5 : boats ≤ 6) (hRT : RT bt rlength rmostBytes gp rkind rbegin rplace rword rnumber rletters) (hgl : gp ≤ rlength) : Met l yX8_read wsX8_read ({ frames := 9, cells := 0, slots := 0, locals := 210 }) (PcUE dC dI ky adK adV [.ref st, .ref reader, .ref a] [(st, .inr (8, [.int qtoldWords])), (reader, .inr (5, [.ref rtape, .int (nI rlength), .int (nI rmostBytes), .int (nI rplace), .int rkind, .int (nI rbegin), .int rword, .int rnumber, .long rletters, .int rfaultKind, .int rfaultPlace])), (rtape, .inl (ky 2, 940, .inl rtapeF)), (a, .inr (7, [.int (nI wide), .int (nI high), .int heat, .int cools, .int skinHeat, .int today, .int stirs, .int steps, .int (nI lumps), .int (nI boats), .ref thickness, .ref lumpNames, .ref lumpCells, .ref boatNames, .ref boatCells, .ref loads, .ref spoons, .ref spoonsLeft, .ref depths])), (thickness, .inl (ky 0, 36, .inl thicknessF)), (lumpNames, .inl (ky 1, 6, .inr (.inl lumpNamesF))), (lumpCells, .inl (ky 0, 6, .inl lumpCellsF)), (boatNames, .inl (ky 1, 6, .inr (.inl boatNamesF))), (boatCells, .inl (ky 0, 6, .inl boatCellsF)), (loads, .inl (ky 0, 6, .inl loadsF)), (spoons, .inl (ky 0, 6, .inl spoonsF)), (spoonsLeft, .inl (ky 0, 6, .inl spoonsLeftF)), (depths, .inl (ky 0, 6, .inl depthsF))] sz) (va_Qi (fun (r : Int32) (u : Int32 × Nat × Int32 × Nat × Int32 × Int32 × Int64 × Int32 × Int32 × Nat × Nat × Int32 × Int32 × Int32 × Int32 × Int32 × Int32 × Nat × Nat × (Nat → Int32) × (Nat → Int64) × (Nat → Int32) × (Nat → Int64) × (Nat → Int32) × (Nat → Int32) × (Nat → Int32) × (Nat → Int32) × (Nat → Int32)) => match u with | (qtoldWordsG, rplaceG, rkindG, rbeginG, rwordG, rnumberG, rlettersG, rfaultKindG, rfaultPlaceG, wideG, highG, heatG, coolsG, skinHeatG, todayG, stirsG, stepsG, lumpsG, boatsG, thicknessG, lumpNamesG, lumpCellsG, boatNamesG, boatCellsG, loadsG, spoonsG, spoonsLeftG, depthsG) => ((r = (-1 : Int32) ∧ (isO (pLoop bt rlength rmostBytes 1000 gp s0 (fun _ => 0) 0) = false ∧ rfaultKindG = nI (erA (pLoop bt rlength rmostBytes 1000 gp s0 (fun _ => 0) 0)) ∧ rfaultPlaceG = nI (erB (pLoop bt rlength rmostBytes 1000 gp s0 (fun _ => 0) 0)))) ∨ (∃ k9 : Nat, (k9 < 901 ∧ isO (pLoop bt rlength rmostBytes 1000 gp s0 (fun _ => 0) 0) = true ∧ lrP (pLoop bt rlength rmostBytes 1000 gp s0 (fun _ => 0) 0) = k9 ∧ CS (lrS (pLoop bt rlength rmostBytes 1000 gp s0 (fun _ => 0) 0)) (lrN (pLoop bt rlength rmostBytes 1000 gp s0 (fun _ => 0) 0)) wideG highG heatG coolsG skinHeatG lumpsG boatsG thicknessG lumpNamesG lumpCellsG boatNamesG boatCellsG loadsG spoonsG ∧ SW (lrS (pLoop bt rlength rmostBytes 1000 gp s0 (fun _ => 0) 0)) (lrN (pLoop bt rlength rmostBytes 1000 gp s0 (fun _ => 0) 0)) ∧ rfaultKindG = rfaultKind) ∧ r = nI k9)) ∧ (rplaceG ≤ rlength) ∧ (rbeginG ≤ 940) ∧ (2 ≤ wideG) ∧ (wideG ≤ 6) ∧ (2 ≤ highG) ∧ (highG ≤ 6) ∧ (lumpsG ≤ 6) ∧ (boatsG ≤ 6)) (BU dC dI ky (fun (u : Int32 × Nat × Int32 × Nat × Int32 × Int32 × Int64 × Int32 × Int32 × Nat × Nat × Int32 × Int32 × Int32 × Int32 × Int32 × Int32 × Nat × Nat × (Nat → Int32) × (Nat → Int64) × (Nat → Int32) × (Nat → Int64) × (Nat → Int32) × (Nat → Int32) × (Nat → Int32) × (Nat → Int32) × (Nat → Int32)) => match u with | (qtoldWordsG, rplaceG, rkindG, rbeginG, rwordG, rnumberG, rlettersG, rfaultKindG, rfaultPlaceG, wideG, highG, heatG, coolsG, skinHeatG, todayG, stirsG, stepsG, lumpsG, boatsG, thicknessG, lumpNamesG, lumpCellsG, boatNamesG, boatCellsG, loadsG, spoonsG, spoonsLeftG, depthsG) => [(st, .inr (8, [.int qtoldWordsG])), (reader, .inr (5, [.ref rtape, .int (nI rlength), .int (nI rmostBytes), .int (nI rplaceG), .int rkindG, .int (nI rbeginG), .int rwordG, .int rnumberG, .long rlettersG, .int rfaultKindG, .int rfaultPlaceG])), (rtape, .inl (ky 2, 940, .inl rtapeF)), (a, .inr (7, [.int (nI wideG), .int (nI highG), .int heatG, .int coolsG, .int skinHeatG, .int todayG, .int stirsG, .int stepsG, .int (nI lumpsG), .int (nI boatsG), .ref thickness, .ref lumpNames, .ref lumpCells, .ref boatNames, .ref boatCells, .ref loads, .ref spoons, .ref spoonsLeft, .ref depths])), (thickness, .inl (ky 0, 36, .inl thicknessG)), (lumpNames, .inl (ky 1, 6, .inr (.inl lumpNamesG))), (lumpCells, .inl (ky 0, 6, .inl lumpCellsG)), (boatNames, .inl (ky 1, 6, .inr (.inl boatNamesG))), (boatCells, .inl (ky 0, 6, .inl boatCellsG)), (loads, .inl (ky 0, 6, .inl loadsG)), (spoons, .inl (ky 0, 6, .inl spoonsG)), (spoonsLeft, .inl (ky 0, 6, .inl spoonsLeftG)), (depths, .inl (ky 0, 6, .inl depthsG))]) (va_A [(st, .inr (8, [.int qtoldWords])), (reader, .inr (5, [.ref rtape, .int (nI rlength), .int (nI rmostBytes), .int (nI rplace), .int rkind, .int (nI rbegin), .int rword, .int rnumber, .long rletters, .int rfaultKind, .int rfaultPlace])), (rtape, .inl (ky 2, 940, .inl rtapeF)), (a, .inr (7, [.int (nI wide), .int (nI high), .int heat, .int cools, .int skinHeat, .int today, .int stirs, .int steps, .int (nI lumps), .int (nI boats), .ref thickness, .ref lumpNames, .ref lumpCells, .ref boatNames, .ref boatCells, .ref loads, .ref spoons, .ref spoonsLeft, .ref depths])), (thickness, .inl (ky 0, 36, .inl thicknessF)), (lumpNames, .inl (ky 1, 6, .inr (.inl lumpNamesF))), (lumpCells, .inl (ky 0, 6, .inl lumpCellsF)), (boatNames, .inl (ky 1, 6, .inr (.inl boatNamesF))), (boatCells, .inl (ky 0, 6, .inl boatCellsF)), (loads, .inl (ky 0, 6, .inl loadsF)), (spoons, .inl (ky 0, 6, .inl spoonsF)), (spoonsLeft, .inl (ky 0, 6, .inl spoonsLeftF)), (depths, .inl (ky 0, 6, .inl depthsF))] sz)) (va_A [(st, .inr (8, [.int qtoldWords])), (reader, .inr (5, [.ref rtape, .int (nI rlength), .int (nI rmostBytes), .int (nI rplace), .int rkind, .int (nI rbegin), .int rword, .int rnumber, .long rletters, .int rfaultKind, .int rfaultPlace])), (rtape, .inl (ky 2, 940, .inl rtapeF)), (a, .inr (7, [.int (nI wide), .int (nI high), .int heat, .int cools, .int skinHeat, .int today, .int stirs, .int steps, .int (nI lumps), .int (nI boats), .ref thickness, .ref lumpNames, .ref lumpCells, .ref boatNames, .ref boatCells, .ref loads, .ref spoons, .ref spoonsLeft, .ref depths])), (thickness, .inl (ky 0, 36, .inl thicknessF)), (lumpNames, .inl (ky 1, 6, .inr (.inl lumpNamesF))), (lumpCells, .inl (ky 0, 6, .inl lumpCellsF)), (boatNames, .inl (ky 1, 6, .inr (.inl boatNamesF))), (boatCells, .inl (ky 0, 6, .inl boatCellsF)), (loads, .inl (ky 0, 6, .inl loadsF)), (spoons, .inl (ky 0, 6, .inl spoonsF)), (spoonsLeft, .inl (ky 0, 6, .inl spoonsLeftF)), (depths, .inl (ky 0, 6, .inl depthsF))] sz)) 0 0 (va_A [(st, .inr (8, [.int qtoldWords])), (reader, .inr (5, [.ref rtape, .int (nI rlength), .int (nI rmostBytes), .int (nI rplace), .int rkind, .int (nI rbegin), .int rword, .int rnumber, .long rletters, .int rfaultKind, .int rfaultPlace])), (rtape, .inl (ky 2, 940, .inl rtapeF)), (a, .inr (7, [.int (nI wide), .int (nI high), .int heat, .int cools, .int skinHeat, .int today, .int stirs, .int steps, .int (nI lumps), .int (nI boats), .ref thickness, .ref lumpNames, .ref lumpCells, .ref boatNames, .ref boatCells, .ref loads, .ref spoons, .ref spoonsLeft, .ref depths])), (thickness, .inl (ky 0, 36, .inl thicknessF)), (lumpNames, .inl (ky 1, 6, .inr (.inl lumpNamesF))), (lumpCells, .inl (ky 0, 6, .inl lumpCellsF)), (boatNames, .inl (ky 1, 6, .inr (.inl boatNamesF))), (boatCells, .inl (ky 0, 6, .inl boatCellsF)), (loads, .inl (ky 0, 6, .inl loadsF)), (spoons, .inl (ky 0, 6, .inl spoonsF)), (spoonsLeft, .inl (ky 0, 6, .inl spoonsLeftF)), (depths, .inl (ky 0, 6, .inl depthsF))] sz) := by
  refine Met.ofW (cc := cX8_read) (maxL := 6) (ret := (some .int)) (by decide) rfl ?_
  intro p e s m args below meth c s₁ B hml hv
  obtain ⟨rfl, hsz, hP, hK, hD0, hE⟩ := hv
  have hx := B.exec
  have hb := B.bytes
  have hr := B.returns
  have hts := atoms_spec (ws := wsX8_read) B.pre
  have hown : s.vm.findClass RX8 = some m.cls := findClass_of_methodNamed B.named
  have hlocks := B.notSynchronized
  have hin5 : ∀ w ∈ u_ws RX5 TX5 11, w ∈ wsX8_read := by decide +kernel
  have hin8 : ∀ w ∈ u_ws RX8 TX8 1, w ∈ wsX8_read := by decide +kernel
  subst hsz
  have hD := hD0.self (sz := s.heap.size)
  generalize hAe : va_A [(st, .inr (8, [.int qtoldWords])), (reader, .inr (5, [.ref rtape, .int (nI rlength), .int (nI rmostBytes), .int (nI rplace), .int rkind, .int (nI rbegin), .int rword, .int rnumber, .long rletters, .int rfaultKind, .int rfaultPlace])), (rtape, .inl (ky 2, 940, .inl rtapeF)), (a, .inr (7, [.int (nI wide), .int (nI high), .int heat, .int cools, .int skinHeat, .int today, .int stirs, .int steps, .int (nI lumps), .int (nI boats), .ref thickness, .ref lumpNames, .ref lumpCells, .ref boatNames, .ref boatCells, .ref loads, .ref spoons, .ref spoonsLeft, .ref depths])), (thickness, .inl (ky 0, 36, .inl thicknessF)), (lumpNames, .inl (ky 1, 6, .inr (.inl lumpNamesF))), (lumpCells, .inl (ky 0, 6, .inl lumpCellsF)), (boatNames, .inl (ky 1, 6, .inr (.inl boatNamesF))), (boatCells, .inl (ky 0, 6, .inl boatCellsF)), (loads, .inl (ky 0, 6, .inl loadsF)), (spoons, .inl (ky 0, 6, .inl spoonsF)), (spoonsLeft, .inl (ky 0, 6, .inl spoonsLeftF)), (depths, .inl (ky 0, 6, .inl depthsF))] s.heap.size = A at hD hE ⊢
  have hA : ∀ q : Nat, s.heap.size ≤ q → A q := fun q h => by rw [← hAe]; exact Or.inr h
  have hS : va_S A s.heap s.heap [] := va_S.rf
  have hl := lv_entry ([.ref st, .ref reader, .ref a]) (n := 6) (Nat.le_of_ble_eq_true rfl)
  rw [lg_entry_eq]
  generalize (lg_sl ([.ref st, .ref reader, .ref a]) ++ List.replicate (6 - (lg_sl ([.ref st, .ref reader, .ref a])).length) Slot.unset).toArray = ls at hl ⊢
  have hl : lv_has ls 6 [(0, .ref st), (1, .ref reader), (2, .ref a)] := hl
  refine q_name (fun Q hQ => ?_)
  generalize ([.ref st, .ref reader, .ref a] : List Value).toArray = args at hts hQ ⊢
  refine lv_aload_n hx hb dX8_read_0 rfl (lv_at hl 2 rfl) ?_
  refine r_call_v (wr := [(st, .inr (8, [.int qtoldWords])), (reader, .inr (5, [.ref rtape, .int (nI rlength), .int (nI rmostBytes), .int (nI rplace), .int rkind, .int (nI rbegin), .int rword, .int rnumber, .long rletters, .int rfaultKind, .int rfaultPlace])), (rtape, .inl (ky 2, 940, .inl rtapeF)), (lumpNames, .inl (ky 1, 6, .inr (.inl lumpNamesF))), (lumpCells, .inl (ky 0, 6, .inl lumpCellsF)), (boatNames, .inl (ky 1, 6, .inr (.inl boatNamesF))), (boatCells, .inl (ky 0, 6, .inl boatCellsF)), (loads, .inl (ky 0, 6, .inl loadsF)), (spoons, .inl (ky 0, 6, .inl spoonsF)), (spoonsLeft, .inl (ky 0, 6, .inl spoonsLeftF)), (depths, .inl (ky 0, 6, .inl depthsF))]) (va_runV (As := []) (rest := []) ⟨hx, hb, hml, hown, hts⟩ (c_f_empty l dC dI ky s.heap.size a wide high heat cools skinHeat today stirs steps lumps boats thickness lumpNames lumpCells boatNames boatCells loads spoons spoonsLeft depths thicknessF iv_a_0 iv_a_1 iv_a_2 iv_a_3 iv_a_4 iv_a_5) (cwV 0 hts gX8_read_X7_empty rfl rfl rfl (by decide +kernel) ⟨(Nat.le_of_ble_eq_true rfl), (Nat.le_of_ble_eq_true rfl)⟩) (pre_UV hK hP hD [3, 4] (by decide) rfl (ci := 7) (q0 := 3) rfl rfl) rfl rfl hl.1 rfl (lv_room (Nat.le_of_ble_eq_true rfl)) dX8_read_1 ⟨(Nat.le_of_ble_eq_true rfl), (Nat.le_of_ble_eq_true rfl)⟩) hP hD hS hA [3, 4] [0, 1, 2, 5, 6, 7, 8, 9, 10, 11, 12] rfl rfl (by decide) (by decide) (fun  u1 H locs p2 hP hD hS => ?_)
  obtain ⟨wideG_3, highG_4, heatG_5, coolsG_6, skinHeatG_7, todayG_8, stirsG_9, stepsG_10, lumpsG_11, boatsG_12, thicknessG_13⟩ := u1
  try dsimp only at p2
  obtain ⟨p14, p15, p16, p17, p18, p19, p20, p21, p22, p23, p24, p25, p26, p27⟩ := p2
  refine W.widen (k := 0) (n := 0) (Nat.le_of_ble_eq_true rfl) (Nat.le_of_ble_eq_true rfl) ?_
  have hP : va_P (dC, dI) vwCl [(st, .inr (8, [.int qtoldWords])), (reader, .inr (5, [.ref rtape, .int (nI rlength), .int (nI rmostBytes), .int (nI rplace), .int rkind, .int (nI rbegin), .int rword, .int rnumber, .long rletters, .int rfaultKind, .int rfaultPlace])), (rtape, .inl (ky 2, 940, .inl rtapeF)), (lumpNames, .inl (ky 1, 6, .inr (.inl lumpNamesF))), (lumpCells, .inl (ky 0, 6, .inl lumpCellsF)), (boatNames, .inl (ky 1, 6, .inr (.inl boatNamesF))), (boatCells, .inl (ky 0, 6, .inl boatCellsF)), (loads, .inl (ky 0, 6, .inl loadsF)), (spoons, .inl (ky 0, 6, .inl spoonsF)), (spoonsLeft, .inl (ky 0, 6, .inl spoonsLeftF)), (depths, .inl (ky 0, 6, .inl depthsF)), (a, .inr (7, [.int (nI wideG_3), .int (nI highG_4), .int heatG_5, .int coolsG_6, .int skinHeatG_7, .int todayG_8, .int stirsG_9, .int stepsG_10, .int (nI lumpsG_11), .int (nI boatsG_12), .ref thickness, .ref lumpNames, .ref lumpCells, .ref boatNames, .ref boatCells, .ref loads, .ref spoons, .ref spoonsLeft, .ref depths])), (thickness, .inl (ky 0, 36, .inl thicknessG_13))] H := hP
  have hD : va_D A [(st, .inr (8, [.int qtoldWords])), (reader, .inr (5, [.ref rtape, .int (nI rlength), .int (nI rmostBytes), .int (nI rplace), .int rkind, .int (nI rbegin), .int rword, .int rnumber, .long rletters, .int rfaultKind, .int rfaultPlace])), (rtape, .inl (ky 2, 940, .inl rtapeF)), (lumpNames, .inl (ky 1, 6, .inr (.inl lumpNamesF))), (lumpCells, .inl (ky 0, 6, .inl lumpCellsF)), (boatNames, .inl (ky 1, 6, .inr (.inl boatNamesF))), (boatCells, .inl (ky 0, 6, .inl boatCellsF)), (loads, .inl (ky 0, 6, .inl loadsF)), (spoons, .inl (ky 0, 6, .inl spoonsF)), (spoonsLeft, .inl (ky 0, 6, .inl spoonsLeftF)), (depths, .inl (ky 0, 6, .inl depthsF)), (a, .inr (7, [.int (nI wideG_3), .int (nI highG_4), .int heatG_5, .int coolsG_6, .int skinHeatG_7, .int todayG_8, .int stirsG_9, .int stepsG_10, .int (nI lumpsG_11), .int (nI boatsG_12), .ref thickness, .ref lumpNames, .ref lumpCells, .ref boatNames, .ref boatCells, .ref loads, .ref spoons, .ref spoonsLeft, .ref depths])), (thickness, .inl (ky 0, 36, .inl thicknessG_13))] := hD
  refine lv_aload_n hx hb dX8_read_4 rfl (lv_at hl 0 rfl) ?_
  refine lv_iconst (v := nI 0) hx hb dX8_read_5 (by decide) ?_
  refine va_put (D := (dC, dI)) (ci := 8) (v := .int (nI 0)) (ty := .int) (C := RX8) (T := TX8) (N := 1) hx hb hts hin8 tyX8 tyX8_ok nmX8 hown hK hP hD hS 0 rfl rfl 0 (by decide) (hts (.fieldLink RX8 16 "PorridgeSea$SeaText" "toldWords" "I") (List.mem_of_getElem? (i := 1) rfl)) (fun _ h9 => h9) rfl (by decide +kernel) rfl rfl (Nat.le_of_ble_eq_true rfl) dX8_read_6 (fun H locs hP hD hS => ?_)
  have hP : va_P (dC, dI) vwCl [(st, .inr (8, [.int (nI 0)])), (reader, .inr (5, [.ref rtape, .int (nI rlength), .int (nI rmostBytes), .int (nI rplace), .int rkind, .int (nI rbegin), .int rword, .int rnumber, .long rletters, .int rfaultKind, .int rfaultPlace])), (rtape, .inl (ky 2, 940, .inl rtapeF)), (lumpNames, .inl (ky 1, 6, .inr (.inl lumpNamesF))), (lumpCells, .inl (ky 0, 6, .inl lumpCellsF)), (boatNames, .inl (ky 1, 6, .inr (.inl boatNamesF))), (boatCells, .inl (ky 0, 6, .inl boatCellsF)), (loads, .inl (ky 0, 6, .inl loadsF)), (spoons, .inl (ky 0, 6, .inl spoonsF)), (spoonsLeft, .inl (ky 0, 6, .inl spoonsLeftF)), (depths, .inl (ky 0, 6, .inl depthsF)), (a, .inr (7, [.int (nI wideG_3), .int (nI highG_4), .int heatG_5, .int coolsG_6, .int skinHeatG_7, .int todayG_8, .int stirsG_9, .int stepsG_10, .int (nI lumpsG_11), .int (nI boatsG_12), .ref thickness, .ref lumpNames, .ref lumpCells, .ref boatNames, .ref boatCells, .ref loads, .ref spoons, .ref spoonsLeft, .ref depths])), (thickness, .inl (ky 0, 36, .inl thicknessG_13))] H := hP
  have hD : va_D A [(st, .inr (8, [.int (nI 0)])), (reader, .inr (5, [.ref rtape, .int (nI rlength), .int (nI rmostBytes), .int (nI rplace), .int rkind, .int (nI rbegin), .int rword, .int rnumber, .long rletters, .int rfaultKind, .int rfaultPlace])), (rtape, .inl (ky 2, 940, .inl rtapeF)), (lumpNames, .inl (ky 1, 6, .inr (.inl lumpNamesF))), (lumpCells, .inl (ky 0, 6, .inl lumpCellsF)), (boatNames, .inl (ky 1, 6, .inr (.inl boatNamesF))), (boatCells, .inl (ky 0, 6, .inl boatCellsF)), (loads, .inl (ky 0, 6, .inl loadsF)), (spoons, .inl (ky 0, 6, .inl spoonsF)), (spoonsLeft, .inl (ky 0, 6, .inl spoonsLeftF)), (depths, .inl (ky 0, 6, .inl depthsF)), (a, .inr (7, [.int (nI wideG_3), .int (nI highG_4), .int heatG_5, .int coolsG_6, .int skinHeatG_7, .int todayG_8, .int stirsG_9, .int stepsG_10, .int (nI lumpsG_11), .int (nI boatsG_12), .ref thickness, .ref lumpNames, .ref lumpCells, .ref boatNames, .ref boatCells, .ref loads, .ref spoons, .ref spoonsLeft, .ref depths])), (thickness, .inl (ky 0, 36, .inl thicknessG_13))] := hD
  refine lv_iconst (v := nI 0) hx hb dX8_read_9 (by decide) ?_
  refine lv_istore_n (lv' := [(3, .int (nI 0)), (0, .ref st), (1, .ref reader), (2, .ref a)]) hx hb dX8_read_10 rfl hl (by decide) rfl (fun ls hl => ?_)
  have hL145 : ∀ (n146 : Nat) (k109 : Nat) (x110 : Int32) (k111 : Nat) (x112 : Int32) (k113 : Nat) (x114 : Int32) (x115 : Int32) (w116 : Int64) (x117 : Int32) (x118 : Int32) (f119 : Nat → Int64) (f120 : Nat → Int32) (f121 : Nat → Int64) (f122 : Nat → Int32) (f123 : Nat → Int32) (f124 : Nat → Int32) (f125 : Nat → Int32) (f126 : Nat → Int32) (k127 : Nat) (k128 : Nat) (x129 : Int32) (x130 : Int32) (x131 : Int32) (k132 : Nat) (k133 : Nat) (f134 : Nat → Int32) (z106 : Nat) (z107 : Nat → Nat) (z108 : Nat → Nat), (k109 ≤ 900) → (k111 ≤ 940) → (k113 ≤ 940) → (k111 ≤ rlength) → (2 ≤ k127) → (k127 ≤ 6) → (2 ≤ k128) → (k128 ≤ 6) → (k132 ≤ 6) → (k133 ≤ 6) → (RT bt rlength rmostBytes z106 x112 k113 k111 x114 x115 w116) → (CS z107 z108 k127 k128 x129 x130 x131 k132 k133 f134 f119 f120 f121 f122 f123 f124) → (SW z107 z108) → (TB x110 z107) → (pLoop bt rlength rmostBytes 1000 gp s0 (fun _ => 0) 0 = pLoop bt rlength rmostBytes (1000 - k109) z106 z107 z108 k109) → (2 * k109 ≤ z106) → (z106 ≤ rlength) → (x117 = rfaultKind) → 900 - k109 < n146 → ∀ (H : Heap) (locs : List Loc) (ls : Array Slot), va_P (dC, dI) vwCl [(st, .inr (8, [.int x110])), (reader, .inr (5, [.ref rtape, .int (nI rlength), .int (nI rmostBytes), .int (nI k111), .int x112, .int (nI k113), .int x114, .int x115, .long w116, .int x117, .int x118])), (rtape, .inl (ky 2, 940, .inl rtapeF)), (lumpNames, .inl (ky 1, 6, .inr (.inl f119))), (lumpCells, .inl (ky 0, 6, .inl f120)), (boatNames, .inl (ky 1, 6, .inr (.inl f121))), (boatCells, .inl (ky 0, 6, .inl f122)), (loads, .inl (ky 0, 6, .inl f123)), (spoons, .inl (ky 0, 6, .inl f124)), (spoonsLeft, .inl (ky 0, 6, .inl f125)), (depths, .inl (ky 0, 6, .inl f126)), (a, .inr (7, [.int (nI k127), .int (nI k128), .int x129, .int x130, .int x131, .int todayG_8, .int stirsG_9, .int stepsG_10, .int (nI k132), .int (nI k133), .ref thickness, .ref lumpNames, .ref lumpCells, .ref boatNames, .ref boatCells, .ref loads, .ref spoons, .ref spoonsLeft, .ref depths])), (thickness, .inl (ky 0, 36, .inl f134))] H → va_D A [(st, .inr (8, [.int x110])), (reader, .inr (5, [.ref rtape, .int (nI rlength), .int (nI rmostBytes), .int (nI k111), .int x112, .int (nI k113), .int x114, .int x115, .long w116, .int x117, .int x118])), (rtape, .inl (ky 2, 940, .inl rtapeF)), (lumpNames, .inl (ky 1, 6, .inr (.inl f119))), (lumpCells, .inl (ky 0, 6, .inl f120)), (boatNames, .inl (ky 1, 6, .inr (.inl f121))), (boatCells, .inl (ky 0, 6, .inl f122)), (loads, .inl (ky 0, 6, .inl f123)), (spoons, .inl (ky 0, 6, .inl f124)), (spoonsLeft, .inl (ky 0, 6, .inl f125)), (depths, .inl (ky 0, 6, .inl f126)), (a, .inr (7, [.int (nI k127), .int (nI k128), .int x129, .int x130, .int x131, .int todayG_8, .int stirsG_9, .int stepsG_10, .int (nI k132), .int (nI k133), .ref thickness, .ref lumpNames, .ref lumpCells, .ref boatNames, .ref boatCells, .ref loads, .ref spoons, .ref spoonsLeft, .ref depths])), (thickness, .inl (ky 0, 36, .inl f134))] → va_S A s.heap H locs → lv_has ls 6 [(3, .int (nI k109)), (0, .ref st), (1, .ref reader), (2, .ref a)] → W p l e (headSpec wsX8_read ({ frames := 9, cells := 0, slots := 0, locals := 210 })).room s m args below meth c H locs 0 0 Q (F0 m 11 ls []) := by
    intro n146
    induction n146 with
    | zero => intro k109 x110 k111 x112 k113 x114 x115 w116 x117 x118 f119 f120 f121 f122 f123 f124 f125 f126 k127 k128 x129 x130 x131 k132 k133 f134 z106 z107 z108 _ _ _ _ _ _ _ _ _ _ _ _ _ _ _ _ _ _ h9; exact absurd h9 (Nat.not_lt_zero _)
    | succ n146 ih147 =>
      intro k109 x110 k111 x112 k113 x114 x115 w116 x117 x118 f119 f120 f121 f122 f123 f124 f125 f126 k127 k128 x129 x130 x131 k132 k133 f134 z106 z107 z108 j135 j136 j137 j138 j139 j140 j141 j142 j143 j144 jRT jCS jSW jTB jPL j2k jLe jFk hm148 H locs ls hP hD hS hl
      refine lv_iload_n hx hb dX8_read_11 rfl (lv_at hl 0 rfl) ?_
      refine lv_sipush (v := nI 900) hx hb dX8_read_12 (by decide) ?_
      refine n_icmp_ge (x := k109) (y := 900) (tgt := 175) hx hb (by omega) (by omega) dX8_read_15 (by decide) (fun c149 => ?_) (fun c149 => ?_)
      · refine lv_iload_n hx hb dX8_read_175 rfl (lv_at hl 0 rfl) ?_
        rw [hQ]
        have hP9 := hP.sub (ws' := [(st, .inr (8, [.int x110])), (reader, .inr (5, [.ref rtape, .int (nI rlength), .int (nI rmostBytes), .int (nI k111), .int x112, .int (nI k113), .int x114, .int x115, .long w116, .int x117, .int x118])), (rtape, .inl (ky 2, 940, .inl rtapeF)), (a, .inr (7, [.int (nI k127), .int (nI k128), .int x129, .int x130, .int x131, .int todayG_8, .int stirsG_9, .int stepsG_10, .int (nI k132), .int (nI k133), .ref thickness, .ref lumpNames, .ref lumpCells, .ref boatNames, .ref boatCells, .ref loads, .ref spoons, .ref spoonsLeft, .ref depths])), (thickness, .inl (ky 0, 36, .inl f134)), (lumpNames, .inl (ky 1, 6, .inr (.inl f119))), (lumpCells, .inl (ky 0, 6, .inl f120)), (boatNames, .inl (ky 1, 6, .inr (.inl f121))), (boatCells, .inl (ky 0, 6, .inl f122)), (loads, .inl (ky 0, 6, .inl f123)), (spoons, .inl (ky 0, 6, .inl f124)), (spoonsLeft, .inl (ky 0, 6, .inl f125)), (depths, .inl (ky 0, 6, .inl f126))]) [0, 1, 2, 11, 12, 3, 4, 5, 6, 7, 8, 9, 10] rfl
        have hD9 := hD.sub (ws' := [(st, .inr (8, [.int x110])), (reader, .inr (5, [.ref rtape, .int (nI rlength), .int (nI rmostBytes), .int (nI k111), .int x112, .int (nI k113), .int x114, .int x115, .long w116, .int x117, .int x118])), (rtape, .inl (ky 2, 940, .inl rtapeF)), (a, .inr (7, [.int (nI k127), .int (nI k128), .int x129, .int x130, .int x131, .int todayG_8, .int stirsG_9, .int stepsG_10, .int (nI k132), .int (nI k133), .ref thickness, .ref lumpNames, .ref lumpCells, .ref boatNames, .ref boatCells, .ref loads, .ref spoons, .ref spoonsLeft, .ref depths])), (thickness, .inl (ky 0, 36, .inl f134)), (lumpNames, .inl (ky 1, 6, .inr (.inl f119))), (lumpCells, .inl (ky 0, 6, .inl f120)), (boatNames, .inl (ky 1, 6, .inr (.inl f121))), (boatCells, .inl (ky 0, 6, .inl f122)), (loads, .inl (ky 0, 6, .inl f123)), (spoons, .inl (ky 0, 6, .inl f124)), (spoonsLeft, .inl (ky 0, 6, .inl f125)), (depths, .inl (ky 0, 6, .inl f126))]) [0, 1, 2, 11, 12, 3, 4, 5, 6, 7, 8, 9, 10] (by decide) rfl
        exact W.iret (v := nI k109) hx hb hr (fun t9 ht9 hW9 => ⟨⟨nI k109, (x110, k111, x112, k113, x114, x115, w116, x117, x118, k127, k128, x129, x130, x131, todayG_8, stirsG_9, stepsG_10, k132, k133, f134, f119, f120, f121, f122, f123, f124, f125, f126), rfl, ⟨(Or.inr ⟨k109, (lf_f_read_1 bt rlength rmostBytes rplace rkind rbegin rword rnumber rletters rfaultKind rtapeF gp k109 x110 k111 x112 k113 x114 x115 w116 x117 f119 f120 f121 f122 f123 f124 k127 k128 x129 x130 x131 k132 k133 f134 z106 z107 z108 n146 iv_rreader_0 iv_rreader_1 iv_rreader_2 iv_rreader_3 hTC hRT hgl j135 j136 j137 j138 j139 j140 j141 j142 j143 j144 jRT jCS jSW jTB jPL j2k jLe jFk hm148 c149), rfl⟩), j138, j137, j139, j140, j141, j142, j143, j144⟩, by rw [ht9]; exact hP9, va_K.moved hW9.alike hK, hD9⟩, hS.F ht9⟩) hS.2.2 dX8_read_176
      · refine lv_aload_n hx hb dX8_read_18 rfl (lv_at hl 2 rfl) ?_
        refine va_get (D := (dC, dI)) (ci := 5) (v := .int x112) (C := RX5) (T := TX5) (N := 11) hx hb hts hin5 hown hK hP 1 rfl rfl 4 (by decide) (hts (.fieldLink RX8 22 "PorridgeSea$Reader" "kind" "I") (List.mem_of_getElem? (i := 2) rfl)) (fun _ h9 => h9) rfl dX8_read_19 ?_
        refine lv_if_eq (tgt := 175) hx hb dX8_read_22 (by decide) (fun c150 => ?_) (fun c150 => ?_)
        · refine lv_iload_n hx hb dX8_read_175 rfl (lv_at hl 0 rfl) ?_
          rw [hQ]
          have hP9 := hP.sub (ws' := [(st, .inr (8, [.int x110])), (reader, .inr (5, [.ref rtape, .int (nI rlength), .int (nI rmostBytes), .int (nI k111), .int x112, .int (nI k113), .int x114, .int x115, .long w116, .int x117, .int x118])), (rtape, .inl (ky 2, 940, .inl rtapeF)), (a, .inr (7, [.int (nI k127), .int (nI k128), .int x129, .int x130, .int x131, .int todayG_8, .int stirsG_9, .int stepsG_10, .int (nI k132), .int (nI k133), .ref thickness, .ref lumpNames, .ref lumpCells, .ref boatNames, .ref boatCells, .ref loads, .ref spoons, .ref spoonsLeft, .ref depths])), (thickness, .inl (ky 0, 36, .inl f134)), (lumpNames, .inl (ky 1, 6, .inr (.inl f119))), (lumpCells, .inl (ky 0, 6, .inl f120)), (boatNames, .inl (ky 1, 6, .inr (.inl f121))), (boatCells, .inl (ky 0, 6, .inl f122)), (loads, .inl (ky 0, 6, .inl f123)), (spoons, .inl (ky 0, 6, .inl f124)), (spoonsLeft, .inl (ky 0, 6, .inl f125)), (depths, .inl (ky 0, 6, .inl f126))]) [0, 1, 2, 11, 12, 3, 4, 5, 6, 7, 8, 9, 10] rfl
          have hD9 := hD.sub (ws' := [(st, .inr (8, [.int x110])), (reader, .inr (5, [.ref rtape, .int (nI rlength), .int (nI rmostBytes), .int (nI k111), .int x112, .int (nI k113), .int x114, .int x115, .long w116, .int x117, .int x118])), (rtape, .inl (ky 2, 940, .inl rtapeF)), (a, .inr (7, [.int (nI k127), .int (nI k128), .int x129, .int x130, .int x131, .int todayG_8, .int stirsG_9, .int stepsG_10, .int (nI k132), .int (nI k133), .ref thickness, .ref lumpNames, .ref lumpCells, .ref boatNames, .ref boatCells, .ref loads, .ref spoons, .ref spoonsLeft, .ref depths])), (thickness, .inl (ky 0, 36, .inl f134)), (lumpNames, .inl (ky 1, 6, .inr (.inl f119))), (lumpCells, .inl (ky 0, 6, .inl f120)), (boatNames, .inl (ky 1, 6, .inr (.inl f121))), (boatCells, .inl (ky 0, 6, .inl f122)), (loads, .inl (ky 0, 6, .inl f123)), (spoons, .inl (ky 0, 6, .inl f124)), (spoonsLeft, .inl (ky 0, 6, .inl f125)), (depths, .inl (ky 0, 6, .inl f126))]) [0, 1, 2, 11, 12, 3, 4, 5, 6, 7, 8, 9, 10] (by decide) rfl
          exact W.iret (v := nI k109) hx hb hr (fun t9 ht9 hW9 => ⟨⟨nI k109, (x110, k111, x112, k113, x114, x115, w116, x117, x118, k127, k128, x129, x130, x131, todayG_8, stirsG_9, stepsG_10, k132, k133, f134, f119, f120, f121, f122, f123, f124, f125, f126), rfl, ⟨(Or.inr ⟨k109, (lf_f_read_2 bt rlength rmostBytes rplace rkind rbegin rword rnumber rletters rfaultKind rtapeF gp k109 x110 k111 x112 k113 x114 x115 w116 x117 f119 f120 f121 f122 f123 f124 k127 k128 x129 x130 x131 k132 k133 f134 z106 z107 z108 n146 iv_rreader_0 iv_rreader_1 iv_rreader_2 iv_rreader_3 hTC hRT hgl j135 j136 j137 j138 j139 j140 j141 j142 j143 j144 jRT jCS jSW jTB jPL j2k jLe jFk hm148 c149 c150), rfl⟩), j138, j137, j139, j140, j141, j142, j143, j144⟩, by rw [ht9]; exact hP9, va_K.moved hW9.alike hK, hD9⟩, hS.F ht9⟩) hS.2.2 dX8_read_176
        · refine lv_aload_n hx hb dX8_read_25 rfl (lv_at hl 2 rfl) ?_
          refine vp_callSi (W.runV (As := []) (rest := []) ⟨hx, hb, hml, hown, hts⟩ (c_f_nextWord l dC dI ky reader rtape rlength rmostBytes k111 x112 k113 x114 x115 w116 x117 x118 iv_rreader_0 j138 iv_rreader_2 j137) (cwV 0 hts gX8_read_X5_nextWord rfl rfl rfl (by decide +kernel) ⟨(Nat.le_of_ble_eq_true rfl), (Nat.le_of_ble_eq_true rfl)⟩) (pre_PV hK hP [1] rfl (ci := 5) (q0 := 1) rfl rfl) rfl rfl hl.1 rfl (lv_room (Nat.le_of_ble_eq_true rfl)) dX8_read_26 ⟨(Nat.le_of_ble_eq_true rfl), (Nat.le_of_ble_eq_true rfl)⟩) (fun r151 p152 => ?_)
          refine lv_istore (lv' := [(4, .int r151), (3, .int (nI k109)), (0, .ref st), (1, .ref reader), (2, .ref a)]) hx hb dX8_read_29 hl (by decide) rfl (fun ls hl => ?_)
          refine lv_iload hx hb dX8_read_31 (lv_at hl 0 rfl) ?_
          rcases sw_0_6 r151 with c154 | c155 | c156 | c157 | c158 | c159 | c160 | c161
          · refine lv_tableOut (tgt := 133) hx hb dX8_read_33 c154 (by decide) ?_
            refine lv_aload_n hx hb dX8_read_133 rfl (lv_at hl 3 rfl) ?_
            refine lv_iconst (v := nI 1) hx hb dX8_read_134 (by decide) ?_
            refine r_call_i (wr := [(st, .inr (8, [.int x110])), (rtape, .inl (ky 2, 940, .inl rtapeF)), (lumpNames, .inl (ky 1, 6, .inr (.inl f119))), (lumpCells, .inl (ky 0, 6, .inl f120)), (boatNames, .inl (ky 1, 6, .inr (.inl f121))), (boatCells, .inl (ky 0, 6, .inl f122)), (loads, .inl (ky 0, 6, .inl f123)), (spoons, .inl (ky 0, 6, .inl f124)), (spoonsLeft, .inl (ky 0, 6, .inl f125)), (depths, .inl (ky 0, 6, .inl f126)), (a, .inr (7, [.int (nI k127), .int (nI k128), .int x129, .int x130, .int x131, .int todayG_8, .int stirsG_9, .int stepsG_10, .int (nI k132), .int (nI k133), .ref thickness, .ref lumpNames, .ref lumpCells, .ref boatNames, .ref boatCells, .ref loads, .ref spoons, .ref spoonsLeft, .ref depths])), (thickness, .inl (ky 0, 36, .inl f134))]) (va_runV (As := [.int (nI 1)]) (rest := []) ⟨hx, hb, hml, hown, hts⟩ (c_f_refuse l dC dI ky H.size reader rtape rlength rmostBytes k111 x112 k113 x114 x115 w116 x117 x118 (nI 1) iv_rreader_0 j138 iv_rreader_2 j137) (cwV 1 hts gX8_read_X5_refuse rfl rfl rfl (by decide +kernel) ⟨(Nat.le_of_ble_eq_true rfl), (Nat.le_of_ble_eq_true rfl)⟩) (pre_UV hK hP hD [1] (by decide) rfl (ci := 5) (q0 := 1) rfl rfl) rfl rfl hl.1 rfl (lv_room (Nat.le_of_ble_eq_true rfl)) dX8_read_135 ⟨(Nat.le_of_ble_eq_true rfl), (Nat.le_of_ble_eq_true rfl)⟩) hP hD hS hA [1] [0, 2, 3, 4, 5, 6, 7, 8, 9, 10, 11, 12] rfl rfl (by decide) (by decide) (fun r164 u162 H locs p163 hP hD hS => ?_)
            obtain ⟨rfaultKindG_165, rfaultPlaceG_166⟩ := u162
            try dsimp only at p163
            obtain ⟨p167, p168, p169⟩ := p163
            refine W.widen (k := 0) (n := 0) (Nat.le_of_ble_eq_true rfl) (Nat.le_of_ble_eq_true rfl) ?_
            have hP : va_P (dC, dI) vwCl [(st, .inr (8, [.int x110])), (rtape, .inl (ky 2, 940, .inl rtapeF)), (lumpNames, .inl (ky 1, 6, .inr (.inl f119))), (lumpCells, .inl (ky 0, 6, .inl f120)), (boatNames, .inl (ky 1, 6, .inr (.inl f121))), (boatCells, .inl (ky 0, 6, .inl f122)), (loads, .inl (ky 0, 6, .inl f123)), (spoons, .inl (ky 0, 6, .inl f124)), (spoonsLeft, .inl (ky 0, 6, .inl f125)), (depths, .inl (ky 0, 6, .inl f126)), (a, .inr (7, [.int (nI k127), .int (nI k128), .int x129, .int x130, .int x131, .int todayG_8, .int stirsG_9, .int stepsG_10, .int (nI k132), .int (nI k133), .ref thickness, .ref lumpNames, .ref lumpCells, .ref boatNames, .ref boatCells, .ref loads, .ref spoons, .ref spoonsLeft, .ref depths])), (thickness, .inl (ky 0, 36, .inl f134)), (reader, .inr (5, [.ref rtape, .int (nI rlength), .int (nI rmostBytes), .int (nI k111), .int x112, .int (nI k113), .int x114, .int x115, .long w116, .int rfaultKindG_165, .int rfaultPlaceG_166]))] H := hP
            have hD : va_D A [(st, .inr (8, [.int x110])), (rtape, .inl (ky 2, 940, .inl rtapeF)), (lumpNames, .inl (ky 1, 6, .inr (.inl f119))), (lumpCells, .inl (ky 0, 6, .inl f120)), (boatNames, .inl (ky 1, 6, .inr (.inl f121))), (boatCells, .inl (ky 0, 6, .inl f122)), (loads, .inl (ky 0, 6, .inl f123)), (spoons, .inl (ky 0, 6, .inl f124)), (spoonsLeft, .inl (ky 0, 6, .inl f125)), (depths, .inl (ky 0, 6, .inl f126)), (a, .inr (7, [.int (nI k127), .int (nI k128), .int x129, .int x130, .int x131, .int todayG_8, .int stirsG_9, .int stepsG_10, .int (nI k132), .int (nI k133), .ref thickness, .ref lumpNames, .ref lumpCells, .ref boatNames, .ref boatCells, .ref loads, .ref spoons, .ref spoonsLeft, .ref depths])), (thickness, .inl (ky 0, 36, .inl f134)), (reader, .inr (5, [.ref rtape, .int (nI rlength), .int (nI rmostBytes), .int (nI k111), .int x112, .int (nI k113), .int x114, .int x115, .long w116, .int rfaultKindG_165, .int rfaultPlaceG_166]))] := hD
            subst p167
            refine lv_istore (lv' := [(5, .int (nI 0)), (4, .int r151), (3, .int (nI k109)), (0, .ref st), (1, .ref reader), (2, .ref a)]) hx hb dX8_read_138 hl (by decide) rfl (fun ls hl => ?_)
            refine lv_iload hx hb dX8_read_140 (lv_at hl 0 rfl) ?_
            refine lv_if_eq (tgt := 154) hx hb dX8_read_142 (by decide) (fun c170 => ?_) (fun c170 => absurd (by decide) c170)
            refine lv_iconst (v := (-1 : Int32)) hx hb dX8_read_154 (by decide) ?_
            rw [hQ]
            have hP9 := hP.sub (ws' := [(st, .inr (8, [.int x110])), (reader, .inr (5, [.ref rtape, .int (nI rlength), .int (nI rmostBytes), .int (nI k111), .int x112, .int (nI k113), .int x114, .int x115, .long w116, .int rfaultKindG_165, .int rfaultPlaceG_166])), (rtape, .inl (ky 2, 940, .inl rtapeF)), (a, .inr (7, [.int (nI k127), .int (nI k128), .int x129, .int x130, .int x131, .int todayG_8, .int stirsG_9, .int stepsG_10, .int (nI k132), .int (nI k133), .ref thickness, .ref lumpNames, .ref lumpCells, .ref boatNames, .ref boatCells, .ref loads, .ref spoons, .ref spoonsLeft, .ref depths])), (thickness, .inl (ky 0, 36, .inl f134)), (lumpNames, .inl (ky 1, 6, .inr (.inl f119))), (lumpCells, .inl (ky 0, 6, .inl f120)), (boatNames, .inl (ky 1, 6, .inr (.inl f121))), (boatCells, .inl (ky 0, 6, .inl f122)), (loads, .inl (ky 0, 6, .inl f123)), (spoons, .inl (ky 0, 6, .inl f124)), (spoonsLeft, .inl (ky 0, 6, .inl f125)), (depths, .inl (ky 0, 6, .inl f126))]) [0, 12, 1, 10, 11, 2, 3, 4, 5, 6, 7, 8, 9] rfl
            have hD9 := hD.sub (ws' := [(st, .inr (8, [.int x110])), (reader, .inr (5, [.ref rtape, .int (nI rlength), .int (nI rmostBytes), .int (nI k111), .int x112, .int (nI k113), .int x114, .int x115, .long w116, .int rfaultKindG_165, .int rfaultPlaceG_166])), (rtape, .inl (ky 2, 940, .inl rtapeF)), (a, .inr (7, [.int (nI k127), .int (nI k128), .int x129, .int x130, .int x131, .int todayG_8, .int stirsG_9, .int stepsG_10, .int (nI k132), .int (nI k133), .ref thickness, .ref lumpNames, .ref lumpCells, .ref boatNames, .ref boatCells, .ref loads, .ref spoons, .ref spoonsLeft, .ref depths])), (thickness, .inl (ky 0, 36, .inl f134)), (lumpNames, .inl (ky 1, 6, .inr (.inl f119))), (lumpCells, .inl (ky 0, 6, .inl f120)), (boatNames, .inl (ky 1, 6, .inr (.inl f121))), (boatCells, .inl (ky 0, 6, .inl f122)), (loads, .inl (ky 0, 6, .inl f123)), (spoons, .inl (ky 0, 6, .inl f124)), (spoonsLeft, .inl (ky 0, 6, .inl f125)), (depths, .inl (ky 0, 6, .inl f126))]) [0, 12, 1, 10, 11, 2, 3, 4, 5, 6, 7, 8, 9] (by decide) rfl
            exact W.iret (v := (-1 : Int32)) hx hb hr (fun t9 ht9 hW9 => ⟨⟨(-1 : Int32), (x110, k111, x112, k113, x114, x115, w116, rfaultKindG_165, rfaultPlaceG_166, k127, k128, x129, x130, x131, todayG_8, stirsG_9, stepsG_10, k132, k133, f134, f119, f120, f121, f122, f123, f124, f125, f126), rfl, ⟨(Or.inl ⟨rfl, (lf_f_read_3 bt rlength rmostBytes rplace rkind rbegin rword rnumber rletters rtapeF gp k109 x110 k111 x112 k113 x114 x115 w116 f119 f120 f121 f122 f123 f124 k127 k128 x129 x130 x131 k132 k133 f134 z106 z107 z108 n146 r151 rfaultKindG_165 rfaultPlaceG_166 iv_rreader_0 iv_rreader_1 iv_rreader_2 iv_rreader_3 hTC hRT hgl j135 j136 j137 j138 j139 j140 j141 j142 j143 j144 jRT jCS jSW jTB jPL j2k jLe hm148 c149 c150 p152 c154 p168 p169)⟩), j138, j137, j139, j140, j141, j142, j143, j144⟩, by rw [ht9]; exact hP9, va_K.moved hW9.alike hK, hD9⟩, hS.F ht9⟩) hS.2.2 dX8_read_155
          · refine r_ti (nI 0) c155 ?_
            rw [c155] at hl
            refine lv_tableIn (off := 43) (tgt := 76) hx hb dX8_read_33 (by decide) (by decide) rfl (by decide) ?_
            refine lv_aload_n hx hb dX8_read_76 rfl (lv_at hl 2 rfl) ?_
            refine lv_aload_n hx hb dX8_read_77 rfl (lv_at hl 3 rfl) ?_
            refine lv_aload_n hx hb dX8_read_78 rfl (lv_at hl 4 rfl) ?_
            refine r_call_i (wr := []) (va_runV (As := [.ref reader, .ref a]) (rest := []) ⟨hx, hb, hml, hown, hts⟩ (c_f_readSize l dC dI ky H.size adK adV st x110 bt reader rtape rlength rmostBytes k111 x112 k113 x114 x115 w116 x117 x118 rtapeF a k127 k128 x129 x130 x131 todayG_8 stirsG_9 stepsG_10 k132 k133 thickness lumpNames lumpCells boatNames boatCells loads spoons spoonsLeft depths f134 f119 f120 f121 f122 f123 f124 f125 f126 z106 z107 z108 iv_rreader_0 j138 iv_rreader_2 j137 hTC j139 j140 j141 j142 j143 j144 jRT jCS jSW jTB) (cwV 2 hts gX8_read_X8_readSize rfl rfl rfl (by decide +kernel) ⟨(Nat.le_of_ble_eq_true rfl), (Nat.le_of_ble_eq_true rfl)⟩) (pre_UEV hE hS hA hK hP hD [0, 1, 2, 11, 12, 3, 4, 5, 6, 7, 8, 9, 10] (by decide) rfl (va_recv hK hP (ci := 8) (q0 := 0) rfl rfl)) rfl rfl hl.1 rfl (lv_room (Nat.le_of_ble_eq_true rfl)) dX8_read_79 ⟨(Nat.le_of_ble_eq_true rfl), (Nat.le_of_ble_eq_true rfl)⟩) hP hD hS hA [0, 1, 2, 11, 12, 3, 4, 5, 6, 7, 8, 9, 10] [] rfl rfl (by decide) (by decide) (fun r173 u171 H locs p172 hP hD hS => ?_)
            obtain ⟨rplaceG_174, rkindG_175, rbeginG_176, rwordG_177, rnumberG_178, rlettersG_179, rfaultKindG_180, rfaultPlaceG_181, wideG_182, highG_183⟩ := u171
            try dsimp only at p172
            obtain ⟨p184, p185, p186, p187, p188, p189, p190⟩ := p172
            refine W.widen (k := 0) (n := 0) (Nat.le_of_ble_eq_true rfl) (Nat.le_of_ble_eq_true rfl) ?_
            have hP : va_P (dC, dI) vwCl [(st, .inr (8, [.int x110])), (reader, .inr (5, [.ref rtape, .int (nI rlength), .int (nI rmostBytes), .int (nI rplaceG_174), .int rkindG_175, .int (nI rbeginG_176), .int rwordG_177, .int rnumberG_178, .long rlettersG_179, .int rfaultKindG_180, .int rfaultPlaceG_181])), (rtape, .inl (ky 2, 940, .inl rtapeF)), (a, .inr (7, [.int (nI wideG_182), .int (nI highG_183), .int x129, .int x130, .int x131, .int todayG_8, .int stirsG_9, .int stepsG_10, .int (nI k132), .int (nI k133), .ref thickness, .ref lumpNames, .ref lumpCells, .ref boatNames, .ref boatCells, .ref loads, .ref spoons, .ref spoonsLeft, .ref depths])), (thickness, .inl (ky 0, 36, .inl f134)), (lumpNames, .inl (ky 1, 6, .inr (.inl f119))), (lumpCells, .inl (ky 0, 6, .inl f120)), (boatNames, .inl (ky 1, 6, .inr (.inl f121))), (boatCells, .inl (ky 0, 6, .inl f122)), (loads, .inl (ky 0, 6, .inl f123)), (spoons, .inl (ky 0, 6, .inl f124)), (spoonsLeft, .inl (ky 0, 6, .inl f125)), (depths, .inl (ky 0, 6, .inl f126))] H := hP
            have hD : va_D A [(st, .inr (8, [.int x110])), (reader, .inr (5, [.ref rtape, .int (nI rlength), .int (nI rmostBytes), .int (nI rplaceG_174), .int rkindG_175, .int (nI rbeginG_176), .int rwordG_177, .int rnumberG_178, .long rlettersG_179, .int rfaultKindG_180, .int rfaultPlaceG_181])), (rtape, .inl (ky 2, 940, .inl rtapeF)), (a, .inr (7, [.int (nI wideG_182), .int (nI highG_183), .int x129, .int x130, .int x131, .int todayG_8, .int stirsG_9, .int stepsG_10, .int (nI k132), .int (nI k133), .ref thickness, .ref lumpNames, .ref lumpCells, .ref boatNames, .ref boatCells, .ref loads, .ref spoons, .ref spoonsLeft, .ref depths])), (thickness, .inl (ky 0, 36, .inl f134)), (lumpNames, .inl (ky 1, 6, .inr (.inl f119))), (lumpCells, .inl (ky 0, 6, .inl f120)), (boatNames, .inl (ky 1, 6, .inr (.inl f121))), (boatCells, .inl (ky 0, 6, .inl f122)), (loads, .inl (ky 0, 6, .inl f123)), (spoons, .inl (ky 0, 6, .inl f124)), (spoonsLeft, .inl (ky 0, 6, .inl f125)), (depths, .inl (ky 0, 6, .inl f126))] := hD
            rcases p184 with ⟨rfl, t191, t192, t193, t194, t195, t196, t197⟩ | ⟨rfl, t198, t199, t200⟩
            · refine lv_istore (lv' := [(5, .int (nI 1)), (4, .int (nI 0)), (3, .int (nI k109)), (0, .ref st), (1, .ref reader), (2, .ref a)]) hx hb dX8_read_82 hl (by decide) rfl (fun ls hl => ?_)
              refine lv_goto (tgt := 140) hx hb dX8_read_84 (by decide) ?_
              refine lv_iload hx hb dX8_read_140 (lv_at hl 0 rfl) ?_
              refine lv_if_eq (tgt := 154) hx hb dX8_read_142 (by decide) (fun c201 => absurd c201 (by decide)) (fun c201 => ?_)
              refine lv_aload_n hx hb dX8_read_145 rfl (lv_at hl 4 rfl) ?_
              refine lv_bipush (v := nI 59) hx hb dX8_read_146 (by decide) ?_
              refine r_call_i (wr := [(st, .inr (8, [.int x110])), (a, .inr (7, [.int (nI wideG_182), .int (nI highG_183), .int x129, .int x130, .int x131, .int todayG_8, .int stirsG_9, .int stepsG_10, .int (nI k132), .int (nI k133), .ref thickness, .ref lumpNames, .ref lumpCells, .ref boatNames, .ref boatCells, .ref loads, .ref spoons, .ref spoonsLeft, .ref depths])), (thickness, .inl (ky 0, 36, .inl f134)), (lumpNames, .inl (ky 1, 6, .inr (.inl f119))), (lumpCells, .inl (ky 0, 6, .inl f120)), (boatNames, .inl (ky 1, 6, .inr (.inl f121))), (boatCells, .inl (ky 0, 6, .inl f122)), (loads, .inl (ky 0, 6, .inl f123)), (spoons, .inl (ky 0, 6, .inl f124)), (spoonsLeft, .inl (ky 0, 6, .inl f125)), (depths, .inl (ky 0, 6, .inl f126))]) (va_runV (As := [.int (nI 59)]) (rest := []) ⟨hx, hb, hml, hown, hts⟩ (c_f_takeSign l dC dI ky H.size adK adV bt reader rtape rlength rmostBytes rplaceG_174 rkindG_175 rbeginG_176 rwordG_177 rnumberG_178 rlettersG_179 rfaultKindG_180 rfaultPlaceG_181 rtapeF (lrP (pSize bt rlength rmostBytes z106 z107 z108)) (nI 59) iv_rreader_0 p185 iv_rreader_2 p186 hTC t192) (cwV 1 hts gX8_read_X5_takeSign rfl rfl rfl (by decide +kernel) ⟨(Nat.le_of_ble_eq_true rfl), (Nat.le_of_ble_eq_true rfl)⟩) (pre_UEV hE hS hA hK hP hD [1, 2] (by decide) rfl (va_recv hK hP (ci := 5) (q0 := 1) rfl rfl)) rfl rfl hl.1 rfl (lv_room (Nat.le_of_ble_eq_true rfl)) dX8_read_148 ⟨(Nat.le_of_ble_eq_true rfl), (Nat.le_of_ble_eq_true rfl)⟩) hP hD hS hA [1, 2] [0, 3, 4, 5, 6, 7, 8, 9, 10, 11, 12] rfl rfl (by decide) (by decide) (fun r204 u202 H locs p203 hP hD hS => ?_)
              obtain ⟨rplaceG_205, rkindG_206, rbeginG_207, rwordG_208, rnumberG_209, rlettersG_210, rfaultKindG_211, rfaultPlaceG_212⟩ := u202
              try dsimp only at p203
              obtain ⟨p213, p214, p215⟩ := p203
              refine W.widen (k := 0) (n := 0) (Nat.le_of_ble_eq_true rfl) (Nat.le_of_ble_eq_true rfl) ?_
              have hP : va_P (dC, dI) vwCl [(st, .inr (8, [.int x110])), (a, .inr (7, [.int (nI wideG_182), .int (nI highG_183), .int x129, .int x130, .int x131, .int todayG_8, .int stirsG_9, .int stepsG_10, .int (nI k132), .int (nI k133), .ref thickness, .ref lumpNames, .ref lumpCells, .ref boatNames, .ref boatCells, .ref loads, .ref spoons, .ref spoonsLeft, .ref depths])), (thickness, .inl (ky 0, 36, .inl f134)), (lumpNames, .inl (ky 1, 6, .inr (.inl f119))), (lumpCells, .inl (ky 0, 6, .inl f120)), (boatNames, .inl (ky 1, 6, .inr (.inl f121))), (boatCells, .inl (ky 0, 6, .inl f122)), (loads, .inl (ky 0, 6, .inl f123)), (spoons, .inl (ky 0, 6, .inl f124)), (spoonsLeft, .inl (ky 0, 6, .inl f125)), (depths, .inl (ky 0, 6, .inl f126)), (reader, .inr (5, [.ref rtape, .int (nI rlength), .int (nI rmostBytes), .int (nI rplaceG_205), .int rkindG_206, .int (nI rbeginG_207), .int rwordG_208, .int rnumberG_209, .long rlettersG_210, .int rfaultKindG_211, .int rfaultPlaceG_212])), (rtape, .inl (ky 2, 940, .inl rtapeF))] H := hP
              have hD : va_D A [(st, .inr (8, [.int x110])), (a, .inr (7, [.int (nI wideG_182), .int (nI highG_183), .int x129, .int x130, .int x131, .int todayG_8, .int stirsG_9, .int stepsG_10, .int (nI k132), .int (nI k133), .ref thickness, .ref lumpNames, .ref lumpCells, .ref boatNames, .ref boatCells, .ref loads, .ref spoons, .ref spoonsLeft, .ref depths])), (thickness, .inl (ky 0, 36, .inl f134)), (lumpNames, .inl (ky 1, 6, .inr (.inl f119))), (lumpCells, .inl (ky 0, 6, .inl f120)), (boatNames, .inl (ky 1, 6, .inr (.inl f121))), (boatCells, .inl (ky 0, 6, .inl f122)), (loads, .inl (ky 0, 6, .inl f123)), (spoons, .inl (ky 0, 6, .inl f124)), (spoonsLeft, .inl (ky 0, 6, .inl f125)), (depths, .inl (ky 0, 6, .inl f126)), (reader, .inr (5, [.ref rtape, .int (nI rlength), .int (nI rmostBytes), .int (nI rplaceG_205), .int rkindG_206, .int (nI rbeginG_207), .int rwordG_208, .int rnumberG_209, .long rlettersG_210, .int rfaultKindG_211, .int rfaultPlaceG_212])), (rtape, .inl (ky 2, 940, .inl rtapeF))] := hD
              rcases p213 with ⟨rfl, t216, t217, t218, t219⟩ | ⟨rfl, t220, t221, t222⟩
              · refine lv_if_ne (tgt := 156) hx hb dX8_read_151 (by decide) (fun c223 => ?_) (fun c223 => absurd c223 (by decide))
                refine lv_aload_n hx hb dX8_read_156 rfl (lv_at hl 3 rfl) ?_
                refine lv_dup hx hb dX8_read_157 rfl ?_
                refine va_get (D := (dC, dI)) (ci := 8) (v := .int x110) (C := RX8) (T := TX8) (N := 1) hx hb hts hin8 hown hK hP 0 rfl rfl 0 (by decide) (hts (.fieldLink RX8 16 "PorridgeSea$SeaText" "toldWords" "I") (List.mem_of_getElem? (i := 1) rfl)) (fun _ h9 => h9) rfl dX8_read_158 ?_
                refine lv_iconst (v := nI 1) hx hb dX8_read_161 (by decide) ?_
                refine lv_iload hx hb dX8_read_162 (lv_at hl 1 rfl) ?_
                refine lv_ishl hx hb dX8_read_164 ?_
                refine r_ti (nI 1) (by decide) ?_
                refine lv_ior hx hb dX8_read_165 ?_
                refine lv_topi (fun y224 e225 => ?_)
                refine va_put (D := (dC, dI)) (ci := 8) (v := .int y224) (ty := .int) (C := RX8) (T := TX8) (N := 1) hx hb hts hin8 tyX8 tyX8_ok nmX8 hown hK hP hD hS 0 rfl rfl 0 (by decide) (hts (.fieldLink RX8 16 "PorridgeSea$SeaText" "toldWords" "I") (List.mem_of_getElem? (i := 1) rfl)) (fun _ h9 => h9) rfl (by decide +kernel) rfl rfl (Nat.le_of_ble_eq_true rfl) dX8_read_166 (fun H locs hP hD hS => ?_)
                have hP : va_P (dC, dI) vwCl [(st, .inr (8, [.int y224])), (a, .inr (7, [.int (nI wideG_182), .int (nI highG_183), .int x129, .int x130, .int x131, .int todayG_8, .int stirsG_9, .int stepsG_10, .int (nI k132), .int (nI k133), .ref thickness, .ref lumpNames, .ref lumpCells, .ref boatNames, .ref boatCells, .ref loads, .ref spoons, .ref spoonsLeft, .ref depths])), (thickness, .inl (ky 0, 36, .inl f134)), (lumpNames, .inl (ky 1, 6, .inr (.inl f119))), (lumpCells, .inl (ky 0, 6, .inl f120)), (boatNames, .inl (ky 1, 6, .inr (.inl f121))), (boatCells, .inl (ky 0, 6, .inl f122)), (loads, .inl (ky 0, 6, .inl f123)), (spoons, .inl (ky 0, 6, .inl f124)), (spoonsLeft, .inl (ky 0, 6, .inl f125)), (depths, .inl (ky 0, 6, .inl f126)), (reader, .inr (5, [.ref rtape, .int (nI rlength), .int (nI rmostBytes), .int (nI rplaceG_205), .int rkindG_206, .int (nI rbeginG_207), .int rwordG_208, .int rnumberG_209, .long rlettersG_210, .int rfaultKindG_211, .int rfaultPlaceG_212])), (rtape, .inl (ky 2, 940, .inl rtapeF))] H := hP
                have hD : va_D A [(st, .inr (8, [.int y224])), (a, .inr (7, [.int (nI wideG_182), .int (nI highG_183), .int x129, .int x130, .int x131, .int todayG_8, .int stirsG_9, .int stepsG_10, .int (nI k132), .int (nI k133), .ref thickness, .ref lumpNames, .ref lumpCells, .ref boatNames, .ref boatCells, .ref loads, .ref spoons, .ref spoonsLeft, .ref depths])), (thickness, .inl (ky 0, 36, .inl f134)), (lumpNames, .inl (ky 1, 6, .inr (.inl f119))), (lumpCells, .inl (ky 0, 6, .inl f120)), (boatNames, .inl (ky 1, 6, .inr (.inl f121))), (boatCells, .inl (ky 0, 6, .inl f122)), (loads, .inl (ky 0, 6, .inl f123)), (spoons, .inl (ky 0, 6, .inl f124)), (spoonsLeft, .inl (ky 0, 6, .inl f125)), (depths, .inl (ky 0, 6, .inl f126)), (reader, .inr (5, [.ref rtape, .int (nI rlength), .int (nI rmostBytes), .int (nI rplaceG_205), .int rkindG_206, .int (nI rbeginG_207), .int rwordG_208, .int rnumberG_209, .long rlettersG_210, .int rfaultKindG_211, .int rfaultPlaceG_212])), (rtape, .inl (ky 2, 940, .inl rtapeF))] := hD
                refine lv_iinc (v := nI (k109 + 1)) (lv' := [(3, .int (nI (k109 + 1))), (5, .int (nI 1)), (4, .int (nI 0)), (0, .ref st), (1, .ref reader), (2, .ref a)]) hx hb dX8_read_169 hl (k := 2) rfl (show nI k109 + nI 1 = nI (k109 + 1) from nI_add _ _) (by decide) rfl (fun ls hl => ?_)
                refine lv_goto (tgt := 11) hx hb dX8_read_172 (by decide) ?_
                exact ih147 (k109 + 1) y224 rplaceG_205 rkindG_206 rbeginG_207 rwordG_208 rnumberG_209 rlettersG_210 rfaultKindG_211 rfaultPlaceG_212 f119 f120 f121 f122 f123 f124 f125 f126 wideG_182 highG_183 x129 x130 x131 k132 k133 f134 (tT bt rlength rmostBytes (lrP (pSize bt rlength rmostBytes z106 z107 z108))) (lrS (pSize bt rlength rmostBytes z106 z107 z108)) (lrN (pSize bt rlength rmostBytes z106 z107 z108)) (lf_f_read_4 bt rlength rmostBytes rplace rkind rbegin rword rnumber rletters rtapeF gp k109 x110 k111 x112 k113 x114 x115 w116 f119 f120 f121 f122 f123 f124 k127 k128 x129 x130 x131 k132 k133 f134 z106 z107 z108 n146 r151 rplaceG_174 rkindG_175 rbeginG_176 rwordG_177 rnumberG_178 rlettersG_179 wideG_182 highG_183 rplaceG_205 rkindG_206 rbeginG_207 rwordG_208 rnumberG_209 rlettersG_210 y224 iv_rreader_0 iv_rreader_1 iv_rreader_2 iv_rreader_3 hTC hRT hgl j135 j136 j137 j138 j139 j140 j141 j142 j143 j144 jRT jCS jSW jTB jPL j2k jLe hm148 c149 c150 p152 c155 p185 p186 p187 p188 p189 p190 t191 t192 t193 t194 t197 p214 p215 t216 t217 e225) (lf_f_read_5 bt rlength rmostBytes rplace rkind rbegin rword rnumber rletters rtapeF gp k109 x110 k111 x112 k113 x114 x115 w116 f119 f120 f121 f122 f123 f124 k127 k128 x129 x130 x131 k132 k133 f134 z106 z107 z108 n146 r151 rplaceG_174 rkindG_175 rbeginG_176 rwordG_177 rnumberG_178 rlettersG_179 wideG_182 highG_183 rplaceG_205 rkindG_206 rbeginG_207 rwordG_208 rnumberG_209 rlettersG_210 y224 iv_rreader_0 iv_rreader_1 iv_rreader_2 iv_rreader_3 hTC hRT hgl j135 j136 j137 j138 j139 j140 j141 j142 j143 j144 jRT jCS jSW jTB jPL j2k jLe hm148 c149 c150 p152 c155 p185 p186 p187 p188 p189 p190 t191 t192 t193 t194 t197 p214 p215 t216 t217 e225) p215 p214 p187 p188 p189 p190 j143 j144 t217 t193 t194 (lf_f_read_6 bt rlength rmostBytes rplace rkind rbegin rword rnumber rletters rtapeF gp k109 x110 k111 x112 k113 x114 x115 w116 f119 f120 f121 f122 f123 f124 k127 k128 x129 x130 x131 k132 k133 f134 z106 z107 z108 n146 r151 rplaceG_174 rkindG_175 rbeginG_176 rwordG_177 rnumberG_178 rlettersG_179 wideG_182 highG_183 rplaceG_205 rkindG_206 rbeginG_207 rwordG_208 rnumberG_209 rlettersG_210 y224 iv_rreader_0 iv_rreader_1 iv_rreader_2 iv_rreader_3 hTC hRT hgl j135 j136 j137 j138 j139 j140 j141 j142 j143 j144 jRT jCS jSW jTB jPL j2k jLe hm148 c149 c150 p152 c155 p185 p186 p187 p188 p189 p190 t191 t192 t193 t194 t197 p214 p215 t216 t217 e225) (lf_f_read_7 bt rlength rmostBytes rplace rkind rbegin rword rnumber rletters rtapeF gp k109 x110 k111 x112 k113 x114 x115 w116 f119 f120 f121 f122 f123 f124 k127 k128 x129 x130 x131 k132 k133 f134 z106 z107 z108 n146 r151 rplaceG_174 rkindG_175 rbeginG_176 rwordG_177 rnumberG_178 rlettersG_179 wideG_182 highG_183 rplaceG_205 rkindG_206 rbeginG_207 rwordG_208 rnumberG_209 rlettersG_210 y224 iv_rreader_0 iv_rreader_1 iv_rreader_2 iv_rreader_3 hTC hRT hgl j135 j136 j137 j138 j139 j140 j141 j142 j143 j144 jRT jCS jSW jTB jPL j2k jLe hm148 c149 c150 p152 c155 p185 p186 p187 p188 p189 p190 t191 t192 t193 t194 t197 p214 p215 t216 t217 e225) (lf_f_read_8 bt rlength rmostBytes rplace rkind rbegin rword rnumber rletters rtapeF gp k109 x110 k111 x112 k113 x114 x115 w116 f119 f120 f121 f122 f123 f124 k127 k128 x129 x130 x131 k132 k133 f134 z106 z107 z108 n146 r151 rplaceG_174 rkindG_175 rbeginG_176 rwordG_177 rnumberG_178 rlettersG_179 wideG_182 highG_183 rplaceG_205 rkindG_206 rbeginG_207 rwordG_208 rnumberG_209 rlettersG_210 y224 iv_rreader_0 iv_rreader_1 iv_rreader_2 iv_rreader_3 hTC hRT hgl j135 j136 j137 j138 j139 j140 j141 j142 j143 j144 jRT jCS jSW jTB jPL j2k jLe hm148 c149 c150 p152 c155 p185 p186 p187 p188 p189 p190 t191 t192 t193 t194 t197 p214 p215 t216 t217 e225) (lf_f_read_9 bt rlength rmostBytes rplace rkind rbegin rword rnumber rletters rtapeF gp k109 x110 k111 x112 k113 x114 x115 w116 f119 f120 f121 f122 f123 f124 k127 k128 x129 x130 x131 k132 k133 f134 z106 z107 z108 n146 r151 rplaceG_174 rkindG_175 rbeginG_176 rwordG_177 rnumberG_178 rlettersG_179 wideG_182 highG_183 rplaceG_205 rkindG_206 rbeginG_207 rwordG_208 rnumberG_209 rlettersG_210 y224 iv_rreader_0 iv_rreader_1 iv_rreader_2 iv_rreader_3 hTC hRT hgl j135 j136 j137 j138 j139 j140 j141 j142 j143 j144 jRT jCS jSW jTB jPL j2k jLe hm148 c149 c150 p152 c155 p185 p186 p187 p188 p189 p190 t191 t192 t193 t194 t197 p214 p215 t216 t217 e225) (lf_f_read_10 adK adV st qtoldWords bt reader rtape rlength rmostBytes rplace rkind rbegin rword rnumber rletters rfaultKind rfaultPlace rtapeF a wide high heat cools skinHeat today stirs steps lumps boats thickness lumpNames lumpCells boatNames boatCells loads spoons spoonsLeft depths thicknessF lumpNamesF lumpCellsF boatNamesF boatCellsF loadsF spoonsF spoonsLeftF depthsF gp wideG_3 highG_4 heatG_5 coolsG_6 skinHeatG_7 todayG_8 stirsG_9 stepsG_10 lumpsG_11 boatsG_12 thicknessG_13 k109 x110 k111 x112 k113 x114 x115 w116 x117 x118 f119 f120 f121 f122 f123 f124 f125 f126 k127 k128 x129 x130 x131 k132 k133 f134 z106 z107 z108 n146 r151 rplaceG_174 rkindG_175 rbeginG_176 rwordG_177 rnumberG_178 rlettersG_179 rfaultKindG_180 rfaultPlaceG_181 wideG_182 highG_183 rplaceG_205 rkindG_206 rbeginG_207 rwordG_208 rnumberG_209 rlettersG_210 rfaultKindG_211 rfaultPlaceG_212 y224 iv_rreader_0 iv_rreader_1 iv_rreader_2 iv_rreader_3 hTC iv_a_0 iv_a_1 iv_a_2 iv_a_3 iv_a_4 iv_a_5 hRT hgl p14 p15 p16 p17 p18 p19 p20 p21 p22 p23 p24 p25 p26 p27 j135 j136 j137 j138 j139 j140 j141 j142 j143 j144 jRT jCS jSW jTB jPL j2k jLe jFk hm148 c149 c150 p152 c155 p185 p186 p187 p188 p189 p190 t191 t192 t193 t194 t195 t196 t197 p214 p215 t216 t217 t218 t219 e225) (lf_f_read_11 bt rlength rmostBytes rplace rkind rbegin rword rnumber rletters rtapeF gp k109 x110 k111 x112 k113 x114 x115 w116 f119 f120 f121 f122 f123 f124 k127 k128 x129 x130 x131 k132 k133 f134 z106 z107 z108 n146 r151 rplaceG_174 rkindG_175 rbeginG_176 rwordG_177 rnumberG_178 rlettersG_179 wideG_182 highG_183 rplaceG_205 rkindG_206 rbeginG_207 rwordG_208 rnumberG_209 rlettersG_210 y224 iv_rreader_0 iv_rreader_1 iv_rreader_2 iv_rreader_3 hTC hRT hgl j135 j136 j137 j138 j139 j140 j141 j142 j143 j144 jRT jCS jSW jTB jPL j2k jLe hm148 c149 c150 p152 c155 p185 p186 p187 p188 p189 p190 t191 t192 t193 t194 t197 p214 p215 t216 t217 e225) _ _ _ (hP.sub [0, 11, 12, 3, 4, 5, 6, 7, 8, 9, 10, 1, 2] rfl) (hD.sub [0, 11, 12, 3, 4, 5, 6, 7, 8, 9, 10, 1, 2] (by decide) rfl) hS (lv_sub hl [0, 3, 4, 5] rfl)
              · refine lv_if_ne (tgt := 156) hx hb dX8_read_151 (by decide) (fun c226 => absurd c226 (by decide)) (fun c226 => ?_)
                refine lv_iconst (v := (-1 : Int32)) hx hb dX8_read_154 (by decide) ?_
                rw [hQ]
                have hP9 := hP.sub (ws' := [(st, .inr (8, [.int x110])), (reader, .inr (5, [.ref rtape, .int (nI rlength), .int (nI rmostBytes), .int (nI rplaceG_205), .int rkindG_206, .int (nI rbeginG_207), .int rwordG_208, .int rnumberG_209, .long rlettersG_210, .int rfaultKindG_211, .int rfaultPlaceG_212])), (rtape, .inl (ky 2, 940, .inl rtapeF)), (a, .inr (7, [.int (nI wideG_182), .int (nI highG_183), .int x129, .int x130, .int x131, .int todayG_8, .int stirsG_9, .int stepsG_10, .int (nI k132), .int (nI k133), .ref thickness, .ref lumpNames, .ref lumpCells, .ref boatNames, .ref boatCells, .ref loads, .ref spoons, .ref spoonsLeft, .ref depths])), (thickness, .inl (ky 0, 36, .inl f134)), (lumpNames, .inl (ky 1, 6, .inr (.inl f119))), (lumpCells, .inl (ky 0, 6, .inl f120)), (boatNames, .inl (ky 1, 6, .inr (.inl f121))), (boatCells, .inl (ky 0, 6, .inl f122)), (loads, .inl (ky 0, 6, .inl f123)), (spoons, .inl (ky 0, 6, .inl f124)), (spoonsLeft, .inl (ky 0, 6, .inl f125)), (depths, .inl (ky 0, 6, .inl f126))]) [0, 11, 12, 1, 2, 3, 4, 5, 6, 7, 8, 9, 10] rfl
                have hD9 := hD.sub (ws' := [(st, .inr (8, [.int x110])), (reader, .inr (5, [.ref rtape, .int (nI rlength), .int (nI rmostBytes), .int (nI rplaceG_205), .int rkindG_206, .int (nI rbeginG_207), .int rwordG_208, .int rnumberG_209, .long rlettersG_210, .int rfaultKindG_211, .int rfaultPlaceG_212])), (rtape, .inl (ky 2, 940, .inl rtapeF)), (a, .inr (7, [.int (nI wideG_182), .int (nI highG_183), .int x129, .int x130, .int x131, .int todayG_8, .int stirsG_9, .int stepsG_10, .int (nI k132), .int (nI k133), .ref thickness, .ref lumpNames, .ref lumpCells, .ref boatNames, .ref boatCells, .ref loads, .ref spoons, .ref spoonsLeft, .ref depths])), (thickness, .inl (ky 0, 36, .inl f134)), (lumpNames, .inl (ky 1, 6, .inr (.inl f119))), (lumpCells, .inl (ky 0, 6, .inl f120)), (boatNames, .inl (ky 1, 6, .inr (.inl f121))), (boatCells, .inl (ky 0, 6, .inl f122)), (loads, .inl (ky 0, 6, .inl f123)), (spoons, .inl (ky 0, 6, .inl f124)), (spoonsLeft, .inl (ky 0, 6, .inl f125)), (depths, .inl (ky 0, 6, .inl f126))]) [0, 11, 12, 1, 2, 3, 4, 5, 6, 7, 8, 9, 10] (by decide) rfl
                exact W.iret (v := (-1 : Int32)) hx hb hr (fun t9 ht9 hW9 => ⟨⟨(-1 : Int32), (x110, rplaceG_205, rkindG_206, rbeginG_207, rwordG_208, rnumberG_209, rlettersG_210, rfaultKindG_211, rfaultPlaceG_212, wideG_182, highG_183, x129, x130, x131, todayG_8, stirsG_9, stepsG_10, k132, k133, f134, f119, f120, f121, f122, f123, f124, f125, f126), rfl, ⟨(Or.inl ⟨rfl, (lf_f_read_12 bt rlength rmostBytes rplace rkind rbegin rword rnumber rletters rtapeF gp k109 x110 k111 x112 k113 x114 x115 w116 f119 f120 f121 f122 f123 f124 k127 k128 x129 x130 x131 k132 k133 f134 z106 z107 z108 n146 r151 rplaceG_174 rkindG_175 rbeginG_176 rwordG_177 rnumberG_178 rlettersG_179 wideG_182 highG_183 rplaceG_205 rfaultKindG_211 rfaultPlaceG_212 iv_rreader_0 iv_rreader_1 iv_rreader_2 iv_rreader_3 hTC hRT hgl j135 j136 j137 j138 j139 j140 j141 j142 j143 j144 jRT jCS jSW jTB jPL j2k jLe hm148 c149 c150 p152 c155 p185 p186 p187 p188 p189 p190 t191 t192 t193 t194 t197 p214 t220 t221 t222)⟩), p214, p215, p187, p188, p189, p190, j143, j144⟩, by rw [ht9]; exact hP9, va_K.moved hW9.alike hK, hD9⟩, hS.F ht9⟩) hS.2.2 dX8_read_155
            · refine lv_istore (lv' := [(5, .int (nI 0)), (4, .int (nI 0)), (3, .int (nI k109)), (0, .ref st), (1, .ref reader), (2, .ref a)]) hx hb dX8_read_82 hl (by decide) rfl (fun ls hl => ?_)
              refine lv_goto (tgt := 140) hx hb dX8_read_84 (by decide) ?_
              refine lv_iload hx hb dX8_read_140 (lv_at hl 0 rfl) ?_
              refine lv_if_eq (tgt := 154) hx hb dX8_read_142 (by decide) (fun c227 => ?_) (fun c227 => absurd (by decide) c227)
              refine lv_iconst (v := (-1 : Int32)) hx hb dX8_read_154 (by decide) ?_
              rw [hQ]
              exact W.iret (v := (-1 : Int32)) hx hb hr (fun t9 ht9 hW9 => ⟨⟨(-1 : Int32), (x110, rplaceG_174, rkindG_175, rbeginG_176, rwordG_177, rnumberG_178, rlettersG_179, rfaultKindG_180, rfaultPlaceG_181, wideG_182, highG_183, x129, x130, x131, todayG_8, stirsG_9, stepsG_10, k132, k133, f134, f119, f120, f121, f122, f123, f124, f125, f126), rfl, ⟨(Or.inl ⟨rfl, (lf_f_read_13 bt rlength rmostBytes rplace rkind rbegin rword rnumber rletters rtapeF gp k109 x110 k111 x112 k113 x114 x115 w116 f119 f120 f121 f122 f123 f124 k127 k128 x129 x130 x131 k132 k133 f134 z106 z107 z108 n146 r151 rplaceG_174 rfaultKindG_180 rfaultPlaceG_181 iv_rreader_0 iv_rreader_1 iv_rreader_2 iv_rreader_3 hTC hRT hgl j135 j136 j137 j138 j139 j140 j141 j142 j143 j144 jRT jCS jSW jTB jPL j2k jLe hm148 c149 c150 p152 c155 p185 t198 t199 t200)⟩), p185, p186, p187, p188, p189, p190, j143, j144⟩, by rw [ht9]; exact hP, va_K.moved hW9.alike hK, hD⟩, hS.F ht9⟩) hS.2.2 dX8_read_155
          · refine r_ti (nI 1) c156 ?_
            rw [c156] at hl
            refine lv_tableIn (off := 54) (tgt := 87) hx hb dX8_read_33 (by decide) (by decide) rfl (by decide) ?_
            refine lv_aload_n hx hb dX8_read_87 rfl (lv_at hl 2 rfl) ?_
            refine lv_aload_n hx hb dX8_read_88 rfl (lv_at hl 3 rfl) ?_
            refine lv_aload_n hx hb dX8_read_89 rfl (lv_at hl 4 rfl) ?_
            refine r_call_i (wr := []) (va_runV (As := [.ref reader, .ref a]) (rest := []) ⟨hx, hb, hml, hown, hts⟩ (c_f_readThick l dC dI ky H.size adK adV st x110 bt reader rtape rlength rmostBytes k111 x112 k113 x114 x115 w116 x117 x118 rtapeF a k127 k128 x129 x130 x131 todayG_8 stirsG_9 stepsG_10 k132 k133 thickness lumpNames lumpCells boatNames boatCells loads spoons spoonsLeft depths f134 f119 f120 f121 f122 f123 f124 f125 f126 z106 z107 z108 iv_rreader_0 j138 iv_rreader_2 j137 hTC j139 j140 j141 j142 j143 j144 jRT jCS jSW) (cwV 2 hts gX8_read_X8_readThick rfl rfl rfl (by decide +kernel) ⟨(Nat.le_of_ble_eq_true rfl), (Nat.le_of_ble_eq_true rfl)⟩) (pre_UEV hE hS hA hK hP hD [0, 1, 2, 11, 12, 3, 4, 5, 6, 7, 8, 9, 10] (by decide) rfl (va_recv hK hP (ci := 8) (q0 := 0) rfl rfl)) rfl rfl hl.1 rfl (lv_room (Nat.le_of_ble_eq_true rfl)) dX8_read_90 ⟨(Nat.le_of_ble_eq_true rfl), (Nat.le_of_ble_eq_true rfl)⟩) hP hD hS hA [0, 1, 2, 11, 12, 3, 4, 5, 6, 7, 8, 9, 10] [] rfl rfl (by decide) (by decide) (fun r230 u228 H locs p229 hP hD hS => ?_)
            obtain ⟨rplaceG_231, rkindG_232, rbeginG_233, rwordG_234, rnumberG_235, rlettersG_236, rfaultKindG_237, rfaultPlaceG_238, thicknessG_239⟩ := u228
            try dsimp only at p229
            obtain ⟨p240, p241, p242⟩ := p229
            refine W.widen (k := 0) (n := 0) (Nat.le_of_ble_eq_true rfl) (Nat.le_of_ble_eq_true rfl) ?_
            have hP : va_P (dC, dI) vwCl [(st, .inr (8, [.int x110])), (reader, .inr (5, [.ref rtape, .int (nI rlength), .int (nI rmostBytes), .int (nI rplaceG_231), .int rkindG_232, .int (nI rbeginG_233), .int rwordG_234, .int rnumberG_235, .long rlettersG_236, .int rfaultKindG_237, .int rfaultPlaceG_238])), (rtape, .inl (ky 2, 940, .inl rtapeF)), (a, .inr (7, [.int (nI k127), .int (nI k128), .int x129, .int x130, .int x131, .int todayG_8, .int stirsG_9, .int stepsG_10, .int (nI k132), .int (nI k133), .ref thickness, .ref lumpNames, .ref lumpCells, .ref boatNames, .ref boatCells, .ref loads, .ref spoons, .ref spoonsLeft, .ref depths])), (thickness, .inl (ky 0, 36, .inl thicknessG_239)), (lumpNames, .inl (ky 1, 6, .inr (.inl f119))), (lumpCells, .inl (ky 0, 6, .inl f120)), (boatNames, .inl (ky 1, 6, .inr (.inl f121))), (boatCells, .inl (ky 0, 6, .inl f122)), (loads, .inl (ky 0, 6, .inl f123)), (spoons, .inl (ky 0, 6, .inl f124)), (spoonsLeft, .inl (ky 0, 6, .inl f125)), (depths, .inl (ky 0, 6, .inl f126))] H := hP
            have hD : va_D A [(st, .inr (8, [.int x110])), (reader, .inr (5, [.ref rtape, .int (nI rlength), .int (nI rmostBytes), .int (nI rplaceG_231), .int rkindG_232, .int (nI rbeginG_233), .int rwordG_234, .int rnumberG_235, .long rlettersG_236, .int rfaultKindG_237, .int rfaultPlaceG_238])), (rtape, .inl (ky 2, 940, .inl rtapeF)), (a, .inr (7, [.int (nI k127), .int (nI k128), .int x129, .int x130, .int x131, .int todayG_8, .int stirsG_9, .int stepsG_10, .int (nI k132), .int (nI k133), .ref thickness, .ref lumpNames, .ref lumpCells, .ref boatNames, .ref boatCells, .ref loads, .ref spoons, .ref spoonsLeft, .ref depths])), (thickness, .inl (ky 0, 36, .inl thicknessG_239)), (lumpNames, .inl (ky 1, 6, .inr (.inl f119))), (lumpCells, .inl (ky 0, 6, .inl f120)), (boatNames, .inl (ky 1, 6, .inr (.inl f121))), (boatCells, .inl (ky 0, 6, .inl f122)), (loads, .inl (ky 0, 6, .inl f123)), (spoons, .inl (ky 0, 6, .inl f124)), (spoonsLeft, .inl (ky 0, 6, .inl f125)), (depths, .inl (ky 0, 6, .inl f126))] := hD
            rcases p240 with ⟨rfl, t243, t244, t245, t246, t247, t248, t249⟩ | ⟨rfl, t250, t251, t252⟩
            · refine lv_istore (lv' := [(5, .int (nI 1)), (4, .int (nI 1)), (3, .int (nI k109)), (0, .ref st), (1, .ref reader), (2, .ref a)]) hx hb dX8_read_93 hl (by decide) rfl (fun ls hl => ?_)
              refine lv_goto (tgt := 140) hx hb dX8_read_95 (by decide) ?_
              refine lv_iload hx hb dX8_read_140 (lv_at hl 0 rfl) ?_
              refine lv_if_eq (tgt := 154) hx hb dX8_read_142 (by decide) (fun c253 => absurd c253 (by decide)) (fun c253 => ?_)
              refine lv_aload_n hx hb dX8_read_145 rfl (lv_at hl 4 rfl) ?_
              refine lv_bipush (v := nI 59) hx hb dX8_read_146 (by decide) ?_
              refine r_call_i (wr := [(st, .inr (8, [.int x110])), (a, .inr (7, [.int (nI k127), .int (nI k128), .int x129, .int x130, .int x131, .int todayG_8, .int stirsG_9, .int stepsG_10, .int (nI k132), .int (nI k133), .ref thickness, .ref lumpNames, .ref lumpCells, .ref boatNames, .ref boatCells, .ref loads, .ref spoons, .ref spoonsLeft, .ref depths])), (thickness, .inl (ky 0, 36, .inl thicknessG_239)), (lumpNames, .inl (ky 1, 6, .inr (.inl f119))), (lumpCells, .inl (ky 0, 6, .inl f120)), (boatNames, .inl (ky 1, 6, .inr (.inl f121))), (boatCells, .inl (ky 0, 6, .inl f122)), (loads, .inl (ky 0, 6, .inl f123)), (spoons, .inl (ky 0, 6, .inl f124)), (spoonsLeft, .inl (ky 0, 6, .inl f125)), (depths, .inl (ky 0, 6, .inl f126))]) (va_runV (As := [.int (nI 59)]) (rest := []) ⟨hx, hb, hml, hown, hts⟩ (c_f_takeSign l dC dI ky H.size adK adV bt reader rtape rlength rmostBytes rplaceG_231 rkindG_232 rbeginG_233 rwordG_234 rnumberG_235 rlettersG_236 rfaultKindG_237 rfaultPlaceG_238 rtapeF (lrP (pThick bt rlength rmostBytes z106 z107 z108)) (nI 59) iv_rreader_0 p241 iv_rreader_2 p242 hTC t244) (cwV 1 hts gX8_read_X5_takeSign rfl rfl rfl (by decide +kernel) ⟨(Nat.le_of_ble_eq_true rfl), (Nat.le_of_ble_eq_true rfl)⟩) (pre_UEV hE hS hA hK hP hD [1, 2] (by decide) rfl (va_recv hK hP (ci := 5) (q0 := 1) rfl rfl)) rfl rfl hl.1 rfl (lv_room (Nat.le_of_ble_eq_true rfl)) dX8_read_148 ⟨(Nat.le_of_ble_eq_true rfl), (Nat.le_of_ble_eq_true rfl)⟩) hP hD hS hA [1, 2] [0, 3, 4, 5, 6, 7, 8, 9, 10, 11, 12] rfl rfl (by decide) (by decide) (fun r256 u254 H locs p255 hP hD hS => ?_)
              obtain ⟨rplaceG_257, rkindG_258, rbeginG_259, rwordG_260, rnumberG_261, rlettersG_262, rfaultKindG_263, rfaultPlaceG_264⟩ := u254
              try dsimp only at p255
              obtain ⟨p265, p266, p267⟩ := p255
              refine W.widen (k := 0) (n := 0) (Nat.le_of_ble_eq_true rfl) (Nat.le_of_ble_eq_true rfl) ?_
              have hP : va_P (dC, dI) vwCl [(st, .inr (8, [.int x110])), (a, .inr (7, [.int (nI k127), .int (nI k128), .int x129, .int x130, .int x131, .int todayG_8, .int stirsG_9, .int stepsG_10, .int (nI k132), .int (nI k133), .ref thickness, .ref lumpNames, .ref lumpCells, .ref boatNames, .ref boatCells, .ref loads, .ref spoons, .ref spoonsLeft, .ref depths])), (thickness, .inl (ky 0, 36, .inl thicknessG_239)), (lumpNames, .inl (ky 1, 6, .inr (.inl f119))), (lumpCells, .inl (ky 0, 6, .inl f120)), (boatNames, .inl (ky 1, 6, .inr (.inl f121))), (boatCells, .inl (ky 0, 6, .inl f122)), (loads, .inl (ky 0, 6, .inl f123)), (spoons, .inl (ky 0, 6, .inl f124)), (spoonsLeft, .inl (ky 0, 6, .inl f125)), (depths, .inl (ky 0, 6, .inl f126)), (reader, .inr (5, [.ref rtape, .int (nI rlength), .int (nI rmostBytes), .int (nI rplaceG_257), .int rkindG_258, .int (nI rbeginG_259), .int rwordG_260, .int rnumberG_261, .long rlettersG_262, .int rfaultKindG_263, .int rfaultPlaceG_264])), (rtape, .inl (ky 2, 940, .inl rtapeF))] H := hP
              have hD : va_D A [(st, .inr (8, [.int x110])), (a, .inr (7, [.int (nI k127), .int (nI k128), .int x129, .int x130, .int x131, .int todayG_8, .int stirsG_9, .int stepsG_10, .int (nI k132), .int (nI k133), .ref thickness, .ref lumpNames, .ref lumpCells, .ref boatNames, .ref boatCells, .ref loads, .ref spoons, .ref spoonsLeft, .ref depths])), (thickness, .inl (ky 0, 36, .inl thicknessG_239)), (lumpNames, .inl (ky 1, 6, .inr (.inl f119))), (lumpCells, .inl (ky 0, 6, .inl f120)), (boatNames, .inl (ky 1, 6, .inr (.inl f121))), (boatCells, .inl (ky 0, 6, .inl f122)), (loads, .inl (ky 0, 6, .inl f123)), (spoons, .inl (ky 0, 6, .inl f124)), (spoonsLeft, .inl (ky 0, 6, .inl f125)), (depths, .inl (ky 0, 6, .inl f126)), (reader, .inr (5, [.ref rtape, .int (nI rlength), .int (nI rmostBytes), .int (nI rplaceG_257), .int rkindG_258, .int (nI rbeginG_259), .int rwordG_260, .int rnumberG_261, .long rlettersG_262, .int rfaultKindG_263, .int rfaultPlaceG_264])), (rtape, .inl (ky 2, 940, .inl rtapeF))] := hD
              rcases p265 with ⟨rfl, t268, t269, t270, t271⟩ | ⟨rfl, t272, t273, t274⟩
              · refine lv_if_ne (tgt := 156) hx hb dX8_read_151 (by decide) (fun c275 => ?_) (fun c275 => absurd c275 (by decide))
                refine lv_aload_n hx hb dX8_read_156 rfl (lv_at hl 3 rfl) ?_
                refine lv_dup hx hb dX8_read_157 rfl ?_
                refine va_get (D := (dC, dI)) (ci := 8) (v := .int x110) (C := RX8) (T := TX8) (N := 1) hx hb hts hin8 hown hK hP 0 rfl rfl 0 (by decide) (hts (.fieldLink RX8 16 "PorridgeSea$SeaText" "toldWords" "I") (List.mem_of_getElem? (i := 1) rfl)) (fun _ h9 => h9) rfl dX8_read_158 ?_
                refine lv_iconst (v := nI 1) hx hb dX8_read_161 (by decide) ?_
                refine lv_iload hx hb dX8_read_162 (lv_at hl 1 rfl) ?_
                refine lv_ishl hx hb dX8_read_164 ?_
                refine r_ti (nI 2) (by decide) ?_
                refine lv_ior hx hb dX8_read_165 ?_
                refine lv_topi (fun y276 e277 => ?_)
                refine va_put (D := (dC, dI)) (ci := 8) (v := .int y276) (ty := .int) (C := RX8) (T := TX8) (N := 1) hx hb hts hin8 tyX8 tyX8_ok nmX8 hown hK hP hD hS 0 rfl rfl 0 (by decide) (hts (.fieldLink RX8 16 "PorridgeSea$SeaText" "toldWords" "I") (List.mem_of_getElem? (i := 1) rfl)) (fun _ h9 => h9) rfl (by decide +kernel) rfl rfl (Nat.le_of_ble_eq_true rfl) dX8_read_166 (fun H locs hP hD hS => ?_)
                have hP : va_P (dC, dI) vwCl [(st, .inr (8, [.int y276])), (a, .inr (7, [.int (nI k127), .int (nI k128), .int x129, .int x130, .int x131, .int todayG_8, .int stirsG_9, .int stepsG_10, .int (nI k132), .int (nI k133), .ref thickness, .ref lumpNames, .ref lumpCells, .ref boatNames, .ref boatCells, .ref loads, .ref spoons, .ref spoonsLeft, .ref depths])), (thickness, .inl (ky 0, 36, .inl thicknessG_239)), (lumpNames, .inl (ky 1, 6, .inr (.inl f119))), (lumpCells, .inl (ky 0, 6, .inl f120)), (boatNames, .inl (ky 1, 6, .inr (.inl f121))), (boatCells, .inl (ky 0, 6, .inl f122)), (loads, .inl (ky 0, 6, .inl f123)), (spoons, .inl (ky 0, 6, .inl f124)), (spoonsLeft, .inl (ky 0, 6, .inl f125)), (depths, .inl (ky 0, 6, .inl f126)), (reader, .inr (5, [.ref rtape, .int (nI rlength), .int (nI rmostBytes), .int (nI rplaceG_257), .int rkindG_258, .int (nI rbeginG_259), .int rwordG_260, .int rnumberG_261, .long rlettersG_262, .int rfaultKindG_263, .int rfaultPlaceG_264])), (rtape, .inl (ky 2, 940, .inl rtapeF))] H := hP
                have hD : va_D A [(st, .inr (8, [.int y276])), (a, .inr (7, [.int (nI k127), .int (nI k128), .int x129, .int x130, .int x131, .int todayG_8, .int stirsG_9, .int stepsG_10, .int (nI k132), .int (nI k133), .ref thickness, .ref lumpNames, .ref lumpCells, .ref boatNames, .ref boatCells, .ref loads, .ref spoons, .ref spoonsLeft, .ref depths])), (thickness, .inl (ky 0, 36, .inl thicknessG_239)), (lumpNames, .inl (ky 1, 6, .inr (.inl f119))), (lumpCells, .inl (ky 0, 6, .inl f120)), (boatNames, .inl (ky 1, 6, .inr (.inl f121))), (boatCells, .inl (ky 0, 6, .inl f122)), (loads, .inl (ky 0, 6, .inl f123)), (spoons, .inl (ky 0, 6, .inl f124)), (spoonsLeft, .inl (ky 0, 6, .inl f125)), (depths, .inl (ky 0, 6, .inl f126)), (reader, .inr (5, [.ref rtape, .int (nI rlength), .int (nI rmostBytes), .int (nI rplaceG_257), .int rkindG_258, .int (nI rbeginG_259), .int rwordG_260, .int rnumberG_261, .long rlettersG_262, .int rfaultKindG_263, .int rfaultPlaceG_264])), (rtape, .inl (ky 2, 940, .inl rtapeF))] := hD
                refine lv_iinc (v := nI (k109 + 1)) (lv' := [(3, .int (nI (k109 + 1))), (5, .int (nI 1)), (4, .int (nI 1)), (0, .ref st), (1, .ref reader), (2, .ref a)]) hx hb dX8_read_169 hl (k := 2) rfl (show nI k109 + nI 1 = nI (k109 + 1) from nI_add _ _) (by decide) rfl (fun ls hl => ?_)
                refine lv_goto (tgt := 11) hx hb dX8_read_172 (by decide) ?_
                exact ih147 (k109 + 1) y276 rplaceG_257 rkindG_258 rbeginG_259 rwordG_260 rnumberG_261 rlettersG_262 rfaultKindG_263 rfaultPlaceG_264 f119 f120 f121 f122 f123 f124 f125 f126 k127 k128 x129 x130 x131 k132 k133 thicknessG_239 (tT bt rlength rmostBytes (lrP (pThick bt rlength rmostBytes z106 z107 z108))) (lrS (pThick bt rlength rmostBytes z106 z107 z108)) (lrN (pThick bt rlength rmostBytes z106 z107 z108)) (lf_f_read_14 bt rlength rmostBytes rplace rkind rbegin rword rnumber rletters rtapeF gp k109 x110 k111 x112 k113 x114 x115 w116 f119 f120 f121 f122 f123 f124 k127 k128 x129 x130 x131 k132 k133 f134 z106 z107 z108 n146 r151 rplaceG_231 rkindG_232 rbeginG_233 rwordG_234 rnumberG_235 rlettersG_236 thicknessG_239 rplaceG_257 rkindG_258 rbeginG_259 rwordG_260 rnumberG_261 rlettersG_262 y276 iv_rreader_0 iv_rreader_1 iv_rreader_2 iv_rreader_3 hTC hRT hgl j135 j136 j137 j138 j139 j140 j141 j142 j143 j144 jRT jCS jSW jTB jPL j2k jLe hm148 c149 c150 p152 c156 p241 p242 t243 t244 t245 t246 t249 p266 p267 t268 t269 e277) (lf_f_read_15 bt rlength rmostBytes rplace rkind rbegin rword rnumber rletters rtapeF gp k109 x110 k111 x112 k113 x114 x115 w116 f119 f120 f121 f122 f123 f124 k127 k128 x129 x130 x131 k132 k133 f134 z106 z107 z108 n146 r151 rplaceG_231 rkindG_232 rbeginG_233 rwordG_234 rnumberG_235 rlettersG_236 thicknessG_239 rplaceG_257 rkindG_258 rbeginG_259 rwordG_260 rnumberG_261 rlettersG_262 y276 iv_rreader_0 iv_rreader_1 iv_rreader_2 iv_rreader_3 hTC hRT hgl j135 j136 j137 j138 j139 j140 j141 j142 j143 j144 jRT jCS jSW jTB jPL j2k jLe hm148 c149 c150 p152 c156 p241 p242 t243 t244 t245 t246 t249 p266 p267 t268 t269 e277) p267 p266 j139 j140 j141 j142 j143 j144 t269 t245 t246 (lf_f_read_16 bt rlength rmostBytes rplace rkind rbegin rword rnumber rletters rtapeF gp k109 x110 k111 x112 k113 x114 x115 w116 f119 f120 f121 f122 f123 f124 k127 k128 x129 x130 x131 k132 k133 f134 z106 z107 z108 n146 r151 rplaceG_231 rkindG_232 rbeginG_233 rwordG_234 rnumberG_235 rlettersG_236 thicknessG_239 rplaceG_257 rkindG_258 rbeginG_259 rwordG_260 rnumberG_261 rlettersG_262 y276 iv_rreader_0 iv_rreader_1 iv_rreader_2 iv_rreader_3 hTC hRT hgl j135 j136 j137 j138 j139 j140 j141 j142 j143 j144 jRT jCS jSW jTB jPL j2k jLe hm148 c149 c150 p152 c156 p241 p242 t243 t244 t245 t246 t249 p266 p267 t268 t269 e277) (lf_f_read_17 bt rlength rmostBytes rplace rkind rbegin rword rnumber rletters rtapeF gp k109 x110 k111 x112 k113 x114 x115 w116 f119 f120 f121 f122 f123 f124 k127 k128 x129 x130 x131 k132 k133 f134 z106 z107 z108 n146 r151 rplaceG_231 rkindG_232 rbeginG_233 rwordG_234 rnumberG_235 rlettersG_236 thicknessG_239 rplaceG_257 rkindG_258 rbeginG_259 rwordG_260 rnumberG_261 rlettersG_262 y276 iv_rreader_0 iv_rreader_1 iv_rreader_2 iv_rreader_3 hTC hRT hgl j135 j136 j137 j138 j139 j140 j141 j142 j143 j144 jRT jCS jSW jTB jPL j2k jLe hm148 c149 c150 p152 c156 p241 p242 t243 t244 t245 t246 t249 p266 p267 t268 t269 e277) (lf_f_read_18 bt rlength rmostBytes rplace rkind rbegin rword rnumber rletters rtapeF gp k109 x110 k111 x112 k113 x114 x115 w116 f119 f120 f121 f122 f123 f124 k127 k128 x129 x130 x131 k132 k133 f134 z106 z107 z108 n146 r151 rplaceG_231 rkindG_232 rbeginG_233 rwordG_234 rnumberG_235 rlettersG_236 thicknessG_239 rplaceG_257 rkindG_258 rbeginG_259 rwordG_260 rnumberG_261 rlettersG_262 y276 iv_rreader_0 iv_rreader_1 iv_rreader_2 iv_rreader_3 hTC hRT hgl j135 j136 j137 j138 j139 j140 j141 j142 j143 j144 jRT jCS jSW jTB jPL j2k jLe hm148 c149 c150 p152 c156 p241 p242 t243 t244 t245 t246 t249 p266 p267 t268 t269 e277) (lf_f_read_19 bt rlength rmostBytes rplace rkind rbegin rword rnumber rletters rtapeF gp k109 x110 k111 x112 k113 x114 x115 w116 f119 f120 f121 f122 f123 f124 k127 k128 x129 x130 x131 k132 k133 f134 z106 z107 z108 n146 r151 rplaceG_231 rkindG_232 rbeginG_233 rwordG_234 rnumberG_235 rlettersG_236 thicknessG_239 rplaceG_257 rkindG_258 rbeginG_259 rwordG_260 rnumberG_261 rlettersG_262 y276 iv_rreader_0 iv_rreader_1 iv_rreader_2 iv_rreader_3 hTC hRT hgl j135 j136 j137 j138 j139 j140 j141 j142 j143 j144 jRT jCS jSW jTB jPL j2k jLe hm148 c149 c150 p152 c156 p241 p242 t243 t244 t245 t246 t249 p266 p267 t268 t269 e277) (lf_f_read_20 adK adV st qtoldWords bt reader rtape rlength rmostBytes rplace rkind rbegin rword rnumber rletters rfaultKind rfaultPlace rtapeF a wide high heat cools skinHeat today stirs steps lumps boats thickness lumpNames lumpCells boatNames boatCells loads spoons spoonsLeft depths thicknessF lumpNamesF lumpCellsF boatNamesF boatCellsF loadsF spoonsF spoonsLeftF depthsF gp wideG_3 highG_4 heatG_5 coolsG_6 skinHeatG_7 todayG_8 stirsG_9 stepsG_10 lumpsG_11 boatsG_12 thicknessG_13 k109 x110 k111 x112 k113 x114 x115 w116 x117 x118 f119 f120 f121 f122 f123 f124 f125 f126 k127 k128 x129 x130 x131 k132 k133 f134 z106 z107 z108 n146 r151 rplaceG_231 rkindG_232 rbeginG_233 rwordG_234 rnumberG_235 rlettersG_236 rfaultKindG_237 rfaultPlaceG_238 thicknessG_239 rplaceG_257 rkindG_258 rbeginG_259 rwordG_260 rnumberG_261 rlettersG_262 rfaultKindG_263 rfaultPlaceG_264 y276 iv_rreader_0 iv_rreader_1 iv_rreader_2 iv_rreader_3 hTC iv_a_0 iv_a_1 iv_a_2 iv_a_3 iv_a_4 iv_a_5 hRT hgl p14 p15 p16 p17 p18 p19 p20 p21 p22 p23 p24 p25 p26 p27 j135 j136 j137 j138 j139 j140 j141 j142 j143 j144 jRT jCS jSW jTB jPL j2k jLe jFk hm148 c149 c150 p152 c156 p241 p242 t243 t244 t245 t246 t247 t248 t249 p266 p267 t268 t269 t270 t271 e277) (lf_f_read_21 bt rlength rmostBytes rplace rkind rbegin rword rnumber rletters rtapeF gp k109 x110 k111 x112 k113 x114 x115 w116 f119 f120 f121 f122 f123 f124 k127 k128 x129 x130 x131 k132 k133 f134 z106 z107 z108 n146 r151 rplaceG_231 rkindG_232 rbeginG_233 rwordG_234 rnumberG_235 rlettersG_236 thicknessG_239 rplaceG_257 rkindG_258 rbeginG_259 rwordG_260 rnumberG_261 rlettersG_262 y276 iv_rreader_0 iv_rreader_1 iv_rreader_2 iv_rreader_3 hTC hRT hgl j135 j136 j137 j138 j139 j140 j141 j142 j143 j144 jRT jCS jSW jTB jPL j2k jLe hm148 c149 c150 p152 c156 p241 p242 t243 t244 t245 t246 t249 p266 p267 t268 t269 e277) _ _ _ (hP.sub [0, 11, 12, 3, 4, 5, 6, 7, 8, 9, 10, 1, 2] rfl) (hD.sub [0, 11, 12, 3, 4, 5, 6, 7, 8, 9, 10, 1, 2] (by decide) rfl) hS (lv_sub hl [0, 3, 4, 5] rfl)
              · refine lv_if_ne (tgt := 156) hx hb dX8_read_151 (by decide) (fun c278 => absurd c278 (by decide)) (fun c278 => ?_)
                refine lv_iconst (v := (-1 : Int32)) hx hb dX8_read_154 (by decide) ?_
                rw [hQ]
                have hP9 := hP.sub (ws' := [(st, .inr (8, [.int x110])), (reader, .inr (5, [.ref rtape, .int (nI rlength), .int (nI rmostBytes), .int (nI rplaceG_257), .int rkindG_258, .int (nI rbeginG_259), .int rwordG_260, .int rnumberG_261, .long rlettersG_262, .int rfaultKindG_263, .int rfaultPlaceG_264])), (rtape, .inl (ky 2, 940, .inl rtapeF)), (a, .inr (7, [.int (nI k127), .int (nI k128), .int x129, .int x130, .int x131, .int todayG_8, .int stirsG_9, .int stepsG_10, .int (nI k132), .int (nI k133), .ref thickness, .ref lumpNames, .ref lumpCells, .ref boatNames, .ref boatCells, .ref loads, .ref spoons, .ref spoonsLeft, .ref depths])), (thickness, .inl (ky 0, 36, .inl thicknessG_239)), (lumpNames, .inl (ky 1, 6, .inr (.inl f119))), (lumpCells, .inl (ky 0, 6, .inl f120)), (boatNames, .inl (ky 1, 6, .inr (.inl f121))), (boatCells, .inl (ky 0, 6, .inl f122)), (loads, .inl (ky 0, 6, .inl f123)), (spoons, .inl (ky 0, 6, .inl f124)), (spoonsLeft, .inl (ky 0, 6, .inl f125)), (depths, .inl (ky 0, 6, .inl f126))]) [0, 11, 12, 1, 2, 3, 4, 5, 6, 7, 8, 9, 10] rfl
                have hD9 := hD.sub (ws' := [(st, .inr (8, [.int x110])), (reader, .inr (5, [.ref rtape, .int (nI rlength), .int (nI rmostBytes), .int (nI rplaceG_257), .int rkindG_258, .int (nI rbeginG_259), .int rwordG_260, .int rnumberG_261, .long rlettersG_262, .int rfaultKindG_263, .int rfaultPlaceG_264])), (rtape, .inl (ky 2, 940, .inl rtapeF)), (a, .inr (7, [.int (nI k127), .int (nI k128), .int x129, .int x130, .int x131, .int todayG_8, .int stirsG_9, .int stepsG_10, .int (nI k132), .int (nI k133), .ref thickness, .ref lumpNames, .ref lumpCells, .ref boatNames, .ref boatCells, .ref loads, .ref spoons, .ref spoonsLeft, .ref depths])), (thickness, .inl (ky 0, 36, .inl thicknessG_239)), (lumpNames, .inl (ky 1, 6, .inr (.inl f119))), (lumpCells, .inl (ky 0, 6, .inl f120)), (boatNames, .inl (ky 1, 6, .inr (.inl f121))), (boatCells, .inl (ky 0, 6, .inl f122)), (loads, .inl (ky 0, 6, .inl f123)), (spoons, .inl (ky 0, 6, .inl f124)), (spoonsLeft, .inl (ky 0, 6, .inl f125)), (depths, .inl (ky 0, 6, .inl f126))]) [0, 11, 12, 1, 2, 3, 4, 5, 6, 7, 8, 9, 10] (by decide) rfl
                exact W.iret (v := (-1 : Int32)) hx hb hr (fun t9 ht9 hW9 => ⟨⟨(-1 : Int32), (x110, rplaceG_257, rkindG_258, rbeginG_259, rwordG_260, rnumberG_261, rlettersG_262, rfaultKindG_263, rfaultPlaceG_264, k127, k128, x129, x130, x131, todayG_8, stirsG_9, stepsG_10, k132, k133, thicknessG_239, f119, f120, f121, f122, f123, f124, f125, f126), rfl, ⟨(Or.inl ⟨rfl, (lf_f_read_22 bt rlength rmostBytes rplace rkind rbegin rword rnumber rletters rtapeF gp k109 x110 k111 x112 k113 x114 x115 w116 f119 f120 f121 f122 f123 f124 k127 k128 x129 x130 x131 k132 k133 f134 z106 z107 z108 n146 r151 rplaceG_231 rkindG_232 rbeginG_233 rwordG_234 rnumberG_235 rlettersG_236 thicknessG_239 rplaceG_257 rfaultKindG_263 rfaultPlaceG_264 iv_rreader_0 iv_rreader_1 iv_rreader_2 iv_rreader_3 hTC hRT hgl j135 j136 j137 j138 j139 j140 j141 j142 j143 j144 jRT jCS jSW jTB jPL j2k jLe hm148 c149 c150 p152 c156 p241 p242 t243 t244 t245 t246 t249 p266 t272 t273 t274)⟩), p266, p267, j139, j140, j141, j142, j143, j144⟩, by rw [ht9]; exact hP9, va_K.moved hW9.alike hK, hD9⟩, hS.F ht9⟩) hS.2.2 dX8_read_155
            · refine lv_istore (lv' := [(5, .int (nI 0)), (4, .int (nI 1)), (3, .int (nI k109)), (0, .ref st), (1, .ref reader), (2, .ref a)]) hx hb dX8_read_93 hl (by decide) rfl (fun ls hl => ?_)
              refine lv_goto (tgt := 140) hx hb dX8_read_95 (by decide) ?_
              refine lv_iload hx hb dX8_read_140 (lv_at hl 0 rfl) ?_
              refine lv_if_eq (tgt := 154) hx hb dX8_read_142 (by decide) (fun c279 => ?_) (fun c279 => absurd (by decide) c279)
              refine lv_iconst (v := (-1 : Int32)) hx hb dX8_read_154 (by decide) ?_
              rw [hQ]
              exact W.iret (v := (-1 : Int32)) hx hb hr (fun t9 ht9 hW9 => ⟨⟨(-1 : Int32), (x110, rplaceG_231, rkindG_232, rbeginG_233, rwordG_234, rnumberG_235, rlettersG_236, rfaultKindG_237, rfaultPlaceG_238, k127, k128, x129, x130, x131, todayG_8, stirsG_9, stepsG_10, k132, k133, thicknessG_239, f119, f120, f121, f122, f123, f124, f125, f126), rfl, ⟨(Or.inl ⟨rfl, (lf_f_read_23 bt rlength rmostBytes rplace rkind rbegin rword rnumber rletters rtapeF gp k109 x110 k111 x112 k113 x114 x115 w116 f119 f120 f121 f122 f123 f124 k127 k128 x129 x130 x131 k132 k133 f134 z106 z107 z108 n146 r151 rplaceG_231 rfaultKindG_237 rfaultPlaceG_238 iv_rreader_0 iv_rreader_1 iv_rreader_2 iv_rreader_3 hTC hRT hgl j135 j136 j137 j138 j139 j140 j141 j142 j143 j144 jRT jCS jSW jTB jPL j2k jLe hm148 c149 c150 p152 c156 p241 t250 t251 t252)⟩), p241, p242, j139, j140, j141, j142, j143, j144⟩, by rw [ht9]; exact hP, va_K.moved hW9.alike hK, hD⟩, hS.F ht9⟩) hS.2.2 dX8_read_155
          · refine r_ti (nI 2) c157 ?_
            rw [c157] at hl
            refine lv_tableIn (off := 65) (tgt := 98) hx hb dX8_read_33 (by decide) (by decide) rfl (by decide) ?_
            refine lv_aload_n hx hb dX8_read_98 rfl (lv_at hl 2 rfl) ?_
            refine lv_aload_n hx hb dX8_read_99 rfl (lv_at hl 3 rfl) ?_
            refine lv_aload_n hx hb dX8_read_100 rfl (lv_at hl 4 rfl) ?_
            refine r_call_i (wr := []) (va_runV (As := [.ref reader, .ref a]) (rest := []) ⟨hx, hb, hml, hown, hts⟩ (c_f_readLump l dC dI ky H.size adK adV st x110 bt reader rtape rlength rmostBytes k111 x112 k113 x114 x115 w116 x117 x118 rtapeF a k127 k128 x129 x130 x131 todayG_8 stirsG_9 stepsG_10 k132 k133 thickness lumpNames lumpCells boatNames boatCells loads spoons spoonsLeft depths f134 f119 f120 f121 f122 f123 f124 f125 f126 z106 z107 z108 iv_rreader_0 j138 iv_rreader_2 j137 hTC j139 j140 j141 j142 j143 j144 jRT jCS jSW) (cwV 2 hts gX8_read_X8_readLump rfl rfl rfl (by decide +kernel) ⟨(Nat.le_of_ble_eq_true rfl), (Nat.le_of_ble_eq_true rfl)⟩) (pre_UEV hE hS hA hK hP hD [0, 1, 2, 11, 12, 3, 4, 5, 6, 7, 8, 9, 10] (by decide) rfl (va_recv hK hP (ci := 8) (q0 := 0) rfl rfl)) rfl rfl hl.1 rfl (lv_room (Nat.le_of_ble_eq_true rfl)) dX8_read_101 ⟨(Nat.le_of_ble_eq_true rfl), (Nat.le_of_ble_eq_true rfl)⟩) hP hD hS hA [0, 1, 2, 11, 12, 3, 4, 5, 6, 7, 8, 9, 10] [] rfl rfl (by decide) (by decide) (fun r282 u280 H locs p281 hP hD hS => ?_)
            obtain ⟨rplaceG_283, rkindG_284, rbeginG_285, rwordG_286, rnumberG_287, rlettersG_288, rfaultKindG_289, rfaultPlaceG_290, lumpsG_291, lumpNamesG_292, lumpCellsG_293⟩ := u280
            try dsimp only at p281
            obtain ⟨p294, p295, p296, p297⟩ := p281
            refine W.widen (k := 0) (n := 0) (Nat.le_of_ble_eq_true rfl) (Nat.le_of_ble_eq_true rfl) ?_
            have hP : va_P (dC, dI) vwCl [(st, .inr (8, [.int x110])), (reader, .inr (5, [.ref rtape, .int (nI rlength), .int (nI rmostBytes), .int (nI rplaceG_283), .int rkindG_284, .int (nI rbeginG_285), .int rwordG_286, .int rnumberG_287, .long rlettersG_288, .int rfaultKindG_289, .int rfaultPlaceG_290])), (rtape, .inl (ky 2, 940, .inl rtapeF)), (a, .inr (7, [.int (nI k127), .int (nI k128), .int x129, .int x130, .int x131, .int todayG_8, .int stirsG_9, .int stepsG_10, .int (nI lumpsG_291), .int (nI k133), .ref thickness, .ref lumpNames, .ref lumpCells, .ref boatNames, .ref boatCells, .ref loads, .ref spoons, .ref spoonsLeft, .ref depths])), (thickness, .inl (ky 0, 36, .inl f134)), (lumpNames, .inl (ky 1, 6, .inr (.inl lumpNamesG_292))), (lumpCells, .inl (ky 0, 6, .inl lumpCellsG_293)), (boatNames, .inl (ky 1, 6, .inr (.inl f121))), (boatCells, .inl (ky 0, 6, .inl f122)), (loads, .inl (ky 0, 6, .inl f123)), (spoons, .inl (ky 0, 6, .inl f124)), (spoonsLeft, .inl (ky 0, 6, .inl f125)), (depths, .inl (ky 0, 6, .inl f126))] H := hP
            have hD : va_D A [(st, .inr (8, [.int x110])), (reader, .inr (5, [.ref rtape, .int (nI rlength), .int (nI rmostBytes), .int (nI rplaceG_283), .int rkindG_284, .int (nI rbeginG_285), .int rwordG_286, .int rnumberG_287, .long rlettersG_288, .int rfaultKindG_289, .int rfaultPlaceG_290])), (rtape, .inl (ky 2, 940, .inl rtapeF)), (a, .inr (7, [.int (nI k127), .int (nI k128), .int x129, .int x130, .int x131, .int todayG_8, .int stirsG_9, .int stepsG_10, .int (nI lumpsG_291), .int (nI k133), .ref thickness, .ref lumpNames, .ref lumpCells, .ref boatNames, .ref boatCells, .ref loads, .ref spoons, .ref spoonsLeft, .ref depths])), (thickness, .inl (ky 0, 36, .inl f134)), (lumpNames, .inl (ky 1, 6, .inr (.inl lumpNamesG_292))), (lumpCells, .inl (ky 0, 6, .inl lumpCellsG_293)), (boatNames, .inl (ky 1, 6, .inr (.inl f121))), (boatCells, .inl (ky 0, 6, .inl f122)), (loads, .inl (ky 0, 6, .inl f123)), (spoons, .inl (ky 0, 6, .inl f124)), (spoonsLeft, .inl (ky 0, 6, .inl f125)), (depths, .inl (ky 0, 6, .inl f126))] := hD
            rcases p294 with ⟨rfl, t298, t299, t300, t301, t302, t303, t304⟩ | ⟨rfl, t305, t306, t307⟩
            · refine lv_istore (lv' := [(5, .int (nI 1)), (4, .int (nI 2)), (3, .int (nI k109)), (0, .ref st), (1, .ref reader), (2, .ref a)]) hx hb dX8_read_104 hl (by decide) rfl (fun ls hl => ?_)
              refine lv_goto (tgt := 140) hx hb dX8_read_106 (by decide) ?_
              refine lv_iload hx hb dX8_read_140 (lv_at hl 0 rfl) ?_
              refine lv_if_eq (tgt := 154) hx hb dX8_read_142 (by decide) (fun c308 => absurd c308 (by decide)) (fun c308 => ?_)
              refine lv_aload_n hx hb dX8_read_145 rfl (lv_at hl 4 rfl) ?_
              refine lv_bipush (v := nI 59) hx hb dX8_read_146 (by decide) ?_
              refine r_call_i (wr := [(st, .inr (8, [.int x110])), (a, .inr (7, [.int (nI k127), .int (nI k128), .int x129, .int x130, .int x131, .int todayG_8, .int stirsG_9, .int stepsG_10, .int (nI lumpsG_291), .int (nI k133), .ref thickness, .ref lumpNames, .ref lumpCells, .ref boatNames, .ref boatCells, .ref loads, .ref spoons, .ref spoonsLeft, .ref depths])), (thickness, .inl (ky 0, 36, .inl f134)), (lumpNames, .inl (ky 1, 6, .inr (.inl lumpNamesG_292))), (lumpCells, .inl (ky 0, 6, .inl lumpCellsG_293)), (boatNames, .inl (ky 1, 6, .inr (.inl f121))), (boatCells, .inl (ky 0, 6, .inl f122)), (loads, .inl (ky 0, 6, .inl f123)), (spoons, .inl (ky 0, 6, .inl f124)), (spoonsLeft, .inl (ky 0, 6, .inl f125)), (depths, .inl (ky 0, 6, .inl f126))]) (va_runV (As := [.int (nI 59)]) (rest := []) ⟨hx, hb, hml, hown, hts⟩ (c_f_takeSign l dC dI ky H.size adK adV bt reader rtape rlength rmostBytes rplaceG_283 rkindG_284 rbeginG_285 rwordG_286 rnumberG_287 rlettersG_288 rfaultKindG_289 rfaultPlaceG_290 rtapeF (lrP (pLump bt rlength rmostBytes z106 z107 z108)) (nI 59) iv_rreader_0 p295 iv_rreader_2 p296 hTC t299) (cwV 1 hts gX8_read_X5_takeSign rfl rfl rfl (by decide +kernel) ⟨(Nat.le_of_ble_eq_true rfl), (Nat.le_of_ble_eq_true rfl)⟩) (pre_UEV hE hS hA hK hP hD [1, 2] (by decide) rfl (va_recv hK hP (ci := 5) (q0 := 1) rfl rfl)) rfl rfl hl.1 rfl (lv_room (Nat.le_of_ble_eq_true rfl)) dX8_read_148 ⟨(Nat.le_of_ble_eq_true rfl), (Nat.le_of_ble_eq_true rfl)⟩) hP hD hS hA [1, 2] [0, 3, 4, 5, 6, 7, 8, 9, 10, 11, 12] rfl rfl (by decide) (by decide) (fun r311 u309 H locs p310 hP hD hS => ?_)
              obtain ⟨rplaceG_312, rkindG_313, rbeginG_314, rwordG_315, rnumberG_316, rlettersG_317, rfaultKindG_318, rfaultPlaceG_319⟩ := u309
              try dsimp only at p310
              obtain ⟨p320, p321, p322⟩ := p310
              refine W.widen (k := 0) (n := 0) (Nat.le_of_ble_eq_true rfl) (Nat.le_of_ble_eq_true rfl) ?_
              have hP : va_P (dC, dI) vwCl [(st, .inr (8, [.int x110])), (a, .inr (7, [.int (nI k127), .int (nI k128), .int x129, .int x130, .int x131, .int todayG_8, .int stirsG_9, .int stepsG_10, .int (nI lumpsG_291), .int (nI k133), .ref thickness, .ref lumpNames, .ref lumpCells, .ref boatNames, .ref boatCells, .ref loads, .ref spoons, .ref spoonsLeft, .ref depths])), (thickness, .inl (ky 0, 36, .inl f134)), (lumpNames, .inl (ky 1, 6, .inr (.inl lumpNamesG_292))), (lumpCells, .inl (ky 0, 6, .inl lumpCellsG_293)), (boatNames, .inl (ky 1, 6, .inr (.inl f121))), (boatCells, .inl (ky 0, 6, .inl f122)), (loads, .inl (ky 0, 6, .inl f123)), (spoons, .inl (ky 0, 6, .inl f124)), (spoonsLeft, .inl (ky 0, 6, .inl f125)), (depths, .inl (ky 0, 6, .inl f126)), (reader, .inr (5, [.ref rtape, .int (nI rlength), .int (nI rmostBytes), .int (nI rplaceG_312), .int rkindG_313, .int (nI rbeginG_314), .int rwordG_315, .int rnumberG_316, .long rlettersG_317, .int rfaultKindG_318, .int rfaultPlaceG_319])), (rtape, .inl (ky 2, 940, .inl rtapeF))] H := hP
              have hD : va_D A [(st, .inr (8, [.int x110])), (a, .inr (7, [.int (nI k127), .int (nI k128), .int x129, .int x130, .int x131, .int todayG_8, .int stirsG_9, .int stepsG_10, .int (nI lumpsG_291), .int (nI k133), .ref thickness, .ref lumpNames, .ref lumpCells, .ref boatNames, .ref boatCells, .ref loads, .ref spoons, .ref spoonsLeft, .ref depths])), (thickness, .inl (ky 0, 36, .inl f134)), (lumpNames, .inl (ky 1, 6, .inr (.inl lumpNamesG_292))), (lumpCells, .inl (ky 0, 6, .inl lumpCellsG_293)), (boatNames, .inl (ky 1, 6, .inr (.inl f121))), (boatCells, .inl (ky 0, 6, .inl f122)), (loads, .inl (ky 0, 6, .inl f123)), (spoons, .inl (ky 0, 6, .inl f124)), (spoonsLeft, .inl (ky 0, 6, .inl f125)), (depths, .inl (ky 0, 6, .inl f126)), (reader, .inr (5, [.ref rtape, .int (nI rlength), .int (nI rmostBytes), .int (nI rplaceG_312), .int rkindG_313, .int (nI rbeginG_314), .int rwordG_315, .int rnumberG_316, .long rlettersG_317, .int rfaultKindG_318, .int rfaultPlaceG_319])), (rtape, .inl (ky 2, 940, .inl rtapeF))] := hD
              rcases p320 with ⟨rfl, t323, t324, t325, t326⟩ | ⟨rfl, t327, t328, t329⟩
              · refine lv_if_ne (tgt := 156) hx hb dX8_read_151 (by decide) (fun c330 => ?_) (fun c330 => absurd c330 (by decide))
                refine lv_aload_n hx hb dX8_read_156 rfl (lv_at hl 3 rfl) ?_
                refine lv_dup hx hb dX8_read_157 rfl ?_
                refine va_get (D := (dC, dI)) (ci := 8) (v := .int x110) (C := RX8) (T := TX8) (N := 1) hx hb hts hin8 hown hK hP 0 rfl rfl 0 (by decide) (hts (.fieldLink RX8 16 "PorridgeSea$SeaText" "toldWords" "I") (List.mem_of_getElem? (i := 1) rfl)) (fun _ h9 => h9) rfl dX8_read_158 ?_
                refine lv_iconst (v := nI 1) hx hb dX8_read_161 (by decide) ?_
                refine lv_iload hx hb dX8_read_162 (lv_at hl 1 rfl) ?_
                refine lv_ishl hx hb dX8_read_164 ?_
                refine r_ti (nI 4) (by decide) ?_
                refine lv_ior hx hb dX8_read_165 ?_
                refine lv_topi (fun y331 e332 => ?_)
                refine va_put (D := (dC, dI)) (ci := 8) (v := .int y331) (ty := .int) (C := RX8) (T := TX8) (N := 1) hx hb hts hin8 tyX8 tyX8_ok nmX8 hown hK hP hD hS 0 rfl rfl 0 (by decide) (hts (.fieldLink RX8 16 "PorridgeSea$SeaText" "toldWords" "I") (List.mem_of_getElem? (i := 1) rfl)) (fun _ h9 => h9) rfl (by decide +kernel) rfl rfl (Nat.le_of_ble_eq_true rfl) dX8_read_166 (fun H locs hP hD hS => ?_)
                have hP : va_P (dC, dI) vwCl [(st, .inr (8, [.int y331])), (a, .inr (7, [.int (nI k127), .int (nI k128), .int x129, .int x130, .int x131, .int todayG_8, .int stirsG_9, .int stepsG_10, .int (nI lumpsG_291), .int (nI k133), .ref thickness, .ref lumpNames, .ref lumpCells, .ref boatNames, .ref boatCells, .ref loads, .ref spoons, .ref spoonsLeft, .ref depths])), (thickness, .inl (ky 0, 36, .inl f134)), (lumpNames, .inl (ky 1, 6, .inr (.inl lumpNamesG_292))), (lumpCells, .inl (ky 0, 6, .inl lumpCellsG_293)), (boatNames, .inl (ky 1, 6, .inr (.inl f121))), (boatCells, .inl (ky 0, 6, .inl f122)), (loads, .inl (ky 0, 6, .inl f123)), (spoons, .inl (ky 0, 6, .inl f124)), (spoonsLeft, .inl (ky 0, 6, .inl f125)), (depths, .inl (ky 0, 6, .inl f126)), (reader, .inr (5, [.ref rtape, .int (nI rlength), .int (nI rmostBytes), .int (nI rplaceG_312), .int rkindG_313, .int (nI rbeginG_314), .int rwordG_315, .int rnumberG_316, .long rlettersG_317, .int rfaultKindG_318, .int rfaultPlaceG_319])), (rtape, .inl (ky 2, 940, .inl rtapeF))] H := hP
                have hD : va_D A [(st, .inr (8, [.int y331])), (a, .inr (7, [.int (nI k127), .int (nI k128), .int x129, .int x130, .int x131, .int todayG_8, .int stirsG_9, .int stepsG_10, .int (nI lumpsG_291), .int (nI k133), .ref thickness, .ref lumpNames, .ref lumpCells, .ref boatNames, .ref boatCells, .ref loads, .ref spoons, .ref spoonsLeft, .ref depths])), (thickness, .inl (ky 0, 36, .inl f134)), (lumpNames, .inl (ky 1, 6, .inr (.inl lumpNamesG_292))), (lumpCells, .inl (ky 0, 6, .inl lumpCellsG_293)), (boatNames, .inl (ky 1, 6, .inr (.inl f121))), (boatCells, .inl (ky 0, 6, .inl f122)), (loads, .inl (ky 0, 6, .inl f123)), (spoons, .inl (ky 0, 6, .inl f124)), (spoonsLeft, .inl (ky 0, 6, .inl f125)), (depths, .inl (ky 0, 6, .inl f126)), (reader, .inr (5, [.ref rtape, .int (nI rlength), .int (nI rmostBytes), .int (nI rplaceG_312), .int rkindG_313, .int (nI rbeginG_314), .int rwordG_315, .int rnumberG_316, .long rlettersG_317, .int rfaultKindG_318, .int rfaultPlaceG_319])), (rtape, .inl (ky 2, 940, .inl rtapeF))] := hD
                refine lv_iinc (v := nI (k109 + 1)) (lv' := [(3, .int (nI (k109 + 1))), (5, .int (nI 1)), (4, .int (nI 2)), (0, .ref st), (1, .ref reader), (2, .ref a)]) hx hb dX8_read_169 hl (k := 2) rfl (show nI k109 + nI 1 = nI (k109 + 1) from nI_add _ _) (by decide) rfl (fun ls hl => ?_)
                refine lv_goto (tgt := 11) hx hb dX8_read_172 (by decide) ?_
                exact ih147 (k109 + 1) y331 rplaceG_312 rkindG_313 rbeginG_314 rwordG_315 rnumberG_316 rlettersG_317 rfaultKindG_318 rfaultPlaceG_319 lumpNamesG_292 lumpCellsG_293 f121 f122 f123 f124 f125 f126 k127 k128 x129 x130 x131 lumpsG_291 k133 f134 (tT bt rlength rmostBytes (lrP (pLump bt rlength rmostBytes z106 z107 z108))) (lrS (pLump bt rlength rmostBytes z106 z107 z108)) (lrN (pLump bt rlength rmostBytes z106 z107 z108)) (lf_f_read_24 bt rlength rmostBytes rplace rkind rbegin rword rnumber rletters rtapeF gp k109 x110 k111 x112 k113 x114 x115 w116 f119 f120 f121 f122 f123 f124 k127 k128 x129 x130 x131 k132 k133 f134 z106 z107 z108 n146 r151 rplaceG_283 rkindG_284 rbeginG_285 rwordG_286 rnumberG_287 rlettersG_288 lumpsG_291 lumpNamesG_292 lumpCellsG_293 rplaceG_312 rkindG_313 rbeginG_314 rwordG_315 rnumberG_316 rlettersG_317 y331 iv_rreader_0 iv_rreader_1 iv_rreader_2 iv_rreader_3 hTC hRT hgl j135 j136 j137 j138 j139 j140 j141 j142 j143 j144 jRT jCS jSW jTB jPL j2k jLe hm148 c149 c150 p152 c157 p295 p296 p297 t298 t299 t300 t301 t304 p321 p322 t323 t324 e332) (lf_f_read_25 bt rlength rmostBytes rplace rkind rbegin rword rnumber rletters rtapeF gp k109 x110 k111 x112 k113 x114 x115 w116 f119 f120 f121 f122 f123 f124 k127 k128 x129 x130 x131 k132 k133 f134 z106 z107 z108 n146 r151 rplaceG_283 rkindG_284 rbeginG_285 rwordG_286 rnumberG_287 rlettersG_288 lumpsG_291 lumpNamesG_292 lumpCellsG_293 rplaceG_312 rkindG_313 rbeginG_314 rwordG_315 rnumberG_316 rlettersG_317 y331 iv_rreader_0 iv_rreader_1 iv_rreader_2 iv_rreader_3 hTC hRT hgl j135 j136 j137 j138 j139 j140 j141 j142 j143 j144 jRT jCS jSW jTB jPL j2k jLe hm148 c149 c150 p152 c157 p295 p296 p297 t298 t299 t300 t301 t304 p321 p322 t323 t324 e332) p322 p321 j139 j140 j141 j142 p297 j144 t324 t300 t301 (lf_f_read_26 bt rlength rmostBytes rplace rkind rbegin rword rnumber rletters rtapeF gp k109 x110 k111 x112 k113 x114 x115 w116 f119 f120 f121 f122 f123 f124 k127 k128 x129 x130 x131 k132 k133 f134 z106 z107 z108 n146 r151 rplaceG_283 rkindG_284 rbeginG_285 rwordG_286 rnumberG_287 rlettersG_288 lumpsG_291 lumpNamesG_292 lumpCellsG_293 rplaceG_312 rkindG_313 rbeginG_314 rwordG_315 rnumberG_316 rlettersG_317 y331 iv_rreader_0 iv_rreader_1 iv_rreader_2 iv_rreader_3 hTC hRT hgl j135 j136 j137 j138 j139 j140 j141 j142 j143 j144 jRT jCS jSW jTB jPL j2k jLe hm148 c149 c150 p152 c157 p295 p296 p297 t298 t299 t300 t301 t304 p321 p322 t323 t324 e332) (lf_f_read_27 bt rlength rmostBytes rplace rkind rbegin rword rnumber rletters rtapeF gp k109 x110 k111 x112 k113 x114 x115 w116 f119 f120 f121 f122 f123 f124 k127 k128 x129 x130 x131 k132 k133 f134 z106 z107 z108 n146 r151 rplaceG_283 rkindG_284 rbeginG_285 rwordG_286 rnumberG_287 rlettersG_288 lumpsG_291 lumpNamesG_292 lumpCellsG_293 rplaceG_312 rkindG_313 rbeginG_314 rwordG_315 rnumberG_316 rlettersG_317 y331 iv_rreader_0 iv_rreader_1 iv_rreader_2 iv_rreader_3 hTC hRT hgl j135 j136 j137 j138 j139 j140 j141 j142 j143 j144 jRT jCS jSW jTB jPL j2k jLe hm148 c149 c150 p152 c157 p295 p296 p297 t298 t299 t300 t301 t304 p321 p322 t323 t324 e332) (lf_f_read_28 bt rlength rmostBytes rplace rkind rbegin rword rnumber rletters rtapeF gp k109 x110 k111 x112 k113 x114 x115 w116 f119 f120 f121 f122 f123 f124 k127 k128 x129 x130 x131 k132 k133 f134 z106 z107 z108 n146 r151 rplaceG_283 rkindG_284 rbeginG_285 rwordG_286 rnumberG_287 rlettersG_288 lumpsG_291 lumpNamesG_292 lumpCellsG_293 rplaceG_312 rkindG_313 rbeginG_314 rwordG_315 rnumberG_316 rlettersG_317 y331 iv_rreader_0 iv_rreader_1 iv_rreader_2 iv_rreader_3 hTC hRT hgl j135 j136 j137 j138 j139 j140 j141 j142 j143 j144 jRT jCS jSW jTB jPL j2k jLe hm148 c149 c150 p152 c157 p295 p296 p297 t298 t299 t300 t301 t304 p321 p322 t323 t324 e332) (lf_f_read_29 bt rlength rmostBytes rplace rkind rbegin rword rnumber rletters rtapeF gp k109 x110 k111 x112 k113 x114 x115 w116 f119 f120 f121 f122 f123 f124 k127 k128 x129 x130 x131 k132 k133 f134 z106 z107 z108 n146 r151 rplaceG_283 rkindG_284 rbeginG_285 rwordG_286 rnumberG_287 rlettersG_288 lumpsG_291 lumpNamesG_292 lumpCellsG_293 rplaceG_312 rkindG_313 rbeginG_314 rwordG_315 rnumberG_316 rlettersG_317 y331 iv_rreader_0 iv_rreader_1 iv_rreader_2 iv_rreader_3 hTC hRT hgl j135 j136 j137 j138 j139 j140 j141 j142 j143 j144 jRT jCS jSW jTB jPL j2k jLe hm148 c149 c150 p152 c157 p295 p296 p297 t298 t299 t300 t301 t304 p321 p322 t323 t324 e332) (lf_f_read_30 adK adV st qtoldWords bt reader rtape rlength rmostBytes rplace rkind rbegin rword rnumber rletters rfaultKind rfaultPlace rtapeF a wide high heat cools skinHeat today stirs steps lumps boats thickness lumpNames lumpCells boatNames boatCells loads spoons spoonsLeft depths thicknessF lumpNamesF lumpCellsF boatNamesF boatCellsF loadsF spoonsF spoonsLeftF depthsF gp wideG_3 highG_4 heatG_5 coolsG_6 skinHeatG_7 todayG_8 stirsG_9 stepsG_10 lumpsG_11 boatsG_12 thicknessG_13 k109 x110 k111 x112 k113 x114 x115 w116 x117 x118 f119 f120 f121 f122 f123 f124 f125 f126 k127 k128 x129 x130 x131 k132 k133 f134 z106 z107 z108 n146 r151 rplaceG_283 rkindG_284 rbeginG_285 rwordG_286 rnumberG_287 rlettersG_288 rfaultKindG_289 rfaultPlaceG_290 lumpsG_291 lumpNamesG_292 lumpCellsG_293 rplaceG_312 rkindG_313 rbeginG_314 rwordG_315 rnumberG_316 rlettersG_317 rfaultKindG_318 rfaultPlaceG_319 y331 iv_rreader_0 iv_rreader_1 iv_rreader_2 iv_rreader_3 hTC iv_a_0 iv_a_1 iv_a_2 iv_a_3 iv_a_4 iv_a_5 hRT hgl p14 p15 p16 p17 p18 p19 p20 p21 p22 p23 p24 p25 p26 p27 j135 j136 j137 j138 j139 j140 j141 j142 j143 j144 jRT jCS jSW jTB jPL j2k jLe jFk hm148 c149 c150 p152 c157 p295 p296 p297 t298 t299 t300 t301 t302 t303 t304 p321 p322 t323 t324 t325 t326 e332) (lf_f_read_31 bt rlength rmostBytes rplace rkind rbegin rword rnumber rletters rtapeF gp k109 x110 k111 x112 k113 x114 x115 w116 f119 f120 f121 f122 f123 f124 k127 k128 x129 x130 x131 k132 k133 f134 z106 z107 z108 n146 r151 rplaceG_283 rkindG_284 rbeginG_285 rwordG_286 rnumberG_287 rlettersG_288 lumpsG_291 lumpNamesG_292 lumpCellsG_293 rplaceG_312 rkindG_313 rbeginG_314 rwordG_315 rnumberG_316 rlettersG_317 y331 iv_rreader_0 iv_rreader_1 iv_rreader_2 iv_rreader_3 hTC hRT hgl j135 j136 j137 j138 j139 j140 j141 j142 j143 j144 jRT jCS jSW jTB jPL j2k jLe hm148 c149 c150 p152 c157 p295 p296 p297 t298 t299 t300 t301 t304 p321 p322 t323 t324 e332) _ _ _ (hP.sub [0, 11, 12, 3, 4, 5, 6, 7, 8, 9, 10, 1, 2] rfl) (hD.sub [0, 11, 12, 3, 4, 5, 6, 7, 8, 9, 10, 1, 2] (by decide) rfl) hS (lv_sub hl [0, 3, 4, 5] rfl)
              · refine lv_if_ne (tgt := 156) hx hb dX8_read_151 (by decide) (fun c333 => absurd c333 (by decide)) (fun c333 => ?_)
                refine lv_iconst (v := (-1 : Int32)) hx hb dX8_read_154 (by decide) ?_
                rw [hQ]
                have hP9 := hP.sub (ws' := [(st, .inr (8, [.int x110])), (reader, .inr (5, [.ref rtape, .int (nI rlength), .int (nI rmostBytes), .int (nI rplaceG_312), .int rkindG_313, .int (nI rbeginG_314), .int rwordG_315, .int rnumberG_316, .long rlettersG_317, .int rfaultKindG_318, .int rfaultPlaceG_319])), (rtape, .inl (ky 2, 940, .inl rtapeF)), (a, .inr (7, [.int (nI k127), .int (nI k128), .int x129, .int x130, .int x131, .int todayG_8, .int stirsG_9, .int stepsG_10, .int (nI lumpsG_291), .int (nI k133), .ref thickness, .ref lumpNames, .ref lumpCells, .ref boatNames, .ref boatCells, .ref loads, .ref spoons, .ref spoonsLeft, .ref depths])), (thickness, .inl (ky 0, 36, .inl f134)), (lumpNames, .inl (ky 1, 6, .inr (.inl lumpNamesG_292))), (lumpCells, .inl (ky 0, 6, .inl lumpCellsG_293)), (boatNames, .inl (ky 1, 6, .inr (.inl f121))), (boatCells, .inl (ky 0, 6, .inl f122)), (loads, .inl (ky 0, 6, .inl f123)), (spoons, .inl (ky 0, 6, .inl f124)), (spoonsLeft, .inl (ky 0, 6, .inl f125)), (depths, .inl (ky 0, 6, .inl f126))]) [0, 11, 12, 1, 2, 3, 4, 5, 6, 7, 8, 9, 10] rfl
                have hD9 := hD.sub (ws' := [(st, .inr (8, [.int x110])), (reader, .inr (5, [.ref rtape, .int (nI rlength), .int (nI rmostBytes), .int (nI rplaceG_312), .int rkindG_313, .int (nI rbeginG_314), .int rwordG_315, .int rnumberG_316, .long rlettersG_317, .int rfaultKindG_318, .int rfaultPlaceG_319])), (rtape, .inl (ky 2, 940, .inl rtapeF)), (a, .inr (7, [.int (nI k127), .int (nI k128), .int x129, .int x130, .int x131, .int todayG_8, .int stirsG_9, .int stepsG_10, .int (nI lumpsG_291), .int (nI k133), .ref thickness, .ref lumpNames, .ref lumpCells, .ref boatNames, .ref boatCells, .ref loads, .ref spoons, .ref spoonsLeft, .ref depths])), (thickness, .inl (ky 0, 36, .inl f134)), (lumpNames, .inl (ky 1, 6, .inr (.inl lumpNamesG_292))), (lumpCells, .inl (ky 0, 6, .inl lumpCellsG_293)), (boatNames, .inl (ky 1, 6, .inr (.inl f121))), (boatCells, .inl (ky 0, 6, .inl f122)), (loads, .inl (ky 0, 6, .inl f123)), (spoons, .inl (ky 0, 6, .inl f124)), (spoonsLeft, .inl (ky 0, 6, .inl f125)), (depths, .inl (ky 0, 6, .inl f126))]) [0, 11, 12, 1, 2, 3, 4, 5, 6, 7, 8, 9, 10] (by decide) rfl
                exact W.iret (v := (-1 : Int32)) hx hb hr (fun t9 ht9 hW9 => ⟨⟨(-1 : Int32), (x110, rplaceG_312, rkindG_313, rbeginG_314, rwordG_315, rnumberG_316, rlettersG_317, rfaultKindG_318, rfaultPlaceG_319, k127, k128, x129, x130, x131, todayG_8, stirsG_9, stepsG_10, lumpsG_291, k133, f134, lumpNamesG_292, lumpCellsG_293, f121, f122, f123, f124, f125, f126), rfl, ⟨(Or.inl ⟨rfl, (lf_f_read_32 bt rlength rmostBytes rplace rkind rbegin rword rnumber rletters rtapeF gp k109 x110 k111 x112 k113 x114 x115 w116 f119 f120 f121 f122 f123 f124 k127 k128 x129 x130 x131 k132 k133 f134 z106 z107 z108 n146 r151 rplaceG_283 rkindG_284 rbeginG_285 rwordG_286 rnumberG_287 rlettersG_288 lumpsG_291 lumpNamesG_292 lumpCellsG_293 rplaceG_312 rfaultKindG_318 rfaultPlaceG_319 iv_rreader_0 iv_rreader_1 iv_rreader_2 iv_rreader_3 hTC hRT hgl j135 j136 j137 j138 j139 j140 j141 j142 j143 j144 jRT jCS jSW jTB jPL j2k jLe hm148 c149 c150 p152 c157 p295 p296 p297 t298 t299 t300 t301 t304 p321 t327 t328 t329)⟩), p321, p322, j139, j140, j141, j142, p297, j144⟩, by rw [ht9]; exact hP9, va_K.moved hW9.alike hK, hD9⟩, hS.F ht9⟩) hS.2.2 dX8_read_155
            · refine lv_istore (lv' := [(5, .int (nI 0)), (4, .int (nI 2)), (3, .int (nI k109)), (0, .ref st), (1, .ref reader), (2, .ref a)]) hx hb dX8_read_104 hl (by decide) rfl (fun ls hl => ?_)
              refine lv_goto (tgt := 140) hx hb dX8_read_106 (by decide) ?_
              refine lv_iload hx hb dX8_read_140 (lv_at hl 0 rfl) ?_
              refine lv_if_eq (tgt := 154) hx hb dX8_read_142 (by decide) (fun c334 => ?_) (fun c334 => absurd (by decide) c334)
              refine lv_iconst (v := (-1 : Int32)) hx hb dX8_read_154 (by decide) ?_
              rw [hQ]
              exact W.iret (v := (-1 : Int32)) hx hb hr (fun t9 ht9 hW9 => ⟨⟨(-1 : Int32), (x110, rplaceG_283, rkindG_284, rbeginG_285, rwordG_286, rnumberG_287, rlettersG_288, rfaultKindG_289, rfaultPlaceG_290, k127, k128, x129, x130, x131, todayG_8, stirsG_9, stepsG_10, lumpsG_291, k133, f134, lumpNamesG_292, lumpCellsG_293, f121, f122, f123, f124, f125, f126), rfl, ⟨(Or.inl ⟨rfl, (lf_f_read_33 bt rlength rmostBytes rplace rkind rbegin rword rnumber rletters rtapeF gp k109 x110 k111 x112 k113 x114 x115 w116 f119 f120 f121 f122 f123 f124 k127 k128 x129 x130 x131 k132 k133 f134 z106 z107 z108 n146 r151 rplaceG_283 rfaultKindG_289 rfaultPlaceG_290 iv_rreader_0 iv_rreader_1 iv_rreader_2 iv_rreader_3 hTC hRT hgl j135 j136 j137 j138 j139 j140 j141 j142 j143 j144 jRT jCS jSW jTB jPL j2k jLe hm148 c149 c150 p152 c157 p295 t305 t306 t307)⟩), p295, p296, j139, j140, j141, j142, p297, j144⟩, by rw [ht9]; exact hP, va_K.moved hW9.alike hK, hD⟩, hS.F ht9⟩) hS.2.2 dX8_read_155
          · refine r_ti (nI 3) c158 ?_
            rw [c158] at hl
            refine lv_tableIn (off := 76) (tgt := 109) hx hb dX8_read_33 (by decide) (by decide) rfl (by decide) ?_
            refine lv_aload_n hx hb dX8_read_109 rfl (lv_at hl 2 rfl) ?_
            refine lv_aload_n hx hb dX8_read_110 rfl (lv_at hl 3 rfl) ?_
            refine lv_aload_n hx hb dX8_read_111 rfl (lv_at hl 4 rfl) ?_
            refine r_call_i (wr := []) (va_runV (As := [.ref reader, .ref a]) (rest := []) ⟨hx, hb, hml, hown, hts⟩ (c_f_readBoat l dC dI ky H.size adK adV st x110 bt reader rtape rlength rmostBytes k111 x112 k113 x114 x115 w116 x117 x118 rtapeF a k127 k128 x129 x130 x131 todayG_8 stirsG_9 stepsG_10 k132 k133 thickness lumpNames lumpCells boatNames boatCells loads spoons spoonsLeft depths f134 f119 f120 f121 f122 f123 f124 f125 f126 z106 z107 z108 iv_rreader_0 j138 iv_rreader_2 j137 hTC j139 j140 j141 j142 j143 j144 jRT jCS jSW) (cwV 2 hts gX8_read_X8_readBoat rfl rfl rfl (by decide +kernel) ⟨(Nat.le_of_ble_eq_true rfl), (Nat.le_of_ble_eq_true rfl)⟩) (pre_UEV hE hS hA hK hP hD [0, 1, 2, 11, 12, 3, 4, 5, 6, 7, 8, 9, 10] (by decide) rfl (va_recv hK hP (ci := 8) (q0 := 0) rfl rfl)) rfl rfl hl.1 rfl (lv_room (Nat.le_of_ble_eq_true rfl)) dX8_read_112 ⟨(Nat.le_of_ble_eq_true rfl), (Nat.le_of_ble_eq_true rfl)⟩) hP hD hS hA [0, 1, 2, 11, 12, 3, 4, 5, 6, 7, 8, 9, 10] [] rfl rfl (by decide) (by decide) (fun r337 u335 H locs p336 hP hD hS => ?_)
            obtain ⟨rplaceG_338, rkindG_339, rbeginG_340, rwordG_341, rnumberG_342, rlettersG_343, rfaultKindG_344, rfaultPlaceG_345, boatsG_346, boatNamesG_347, boatCellsG_348, loadsG_349, spoonsG_350, spoonsLeftG_351, depthsG_352⟩ := u335
            try dsimp only at p336
            obtain ⟨p353, p354, p355, p356⟩ := p336
            refine W.widen (k := 0) (n := 0) (Nat.le_of_ble_eq_true rfl) (Nat.le_of_ble_eq_true rfl) ?_
            have hP : va_P (dC, dI) vwCl [(st, .inr (8, [.int x110])), (reader, .inr (5, [.ref rtape, .int (nI rlength), .int (nI rmostBytes), .int (nI rplaceG_338), .int rkindG_339, .int (nI rbeginG_340), .int rwordG_341, .int rnumberG_342, .long rlettersG_343, .int rfaultKindG_344, .int rfaultPlaceG_345])), (rtape, .inl (ky 2, 940, .inl rtapeF)), (a, .inr (7, [.int (nI k127), .int (nI k128), .int x129, .int x130, .int x131, .int todayG_8, .int stirsG_9, .int stepsG_10, .int (nI k132), .int (nI boatsG_346), .ref thickness, .ref lumpNames, .ref lumpCells, .ref boatNames, .ref boatCells, .ref loads, .ref spoons, .ref spoonsLeft, .ref depths])), (thickness, .inl (ky 0, 36, .inl f134)), (lumpNames, .inl (ky 1, 6, .inr (.inl f119))), (lumpCells, .inl (ky 0, 6, .inl f120)), (boatNames, .inl (ky 1, 6, .inr (.inl boatNamesG_347))), (boatCells, .inl (ky 0, 6, .inl boatCellsG_348)), (loads, .inl (ky 0, 6, .inl loadsG_349)), (spoons, .inl (ky 0, 6, .inl spoonsG_350)), (spoonsLeft, .inl (ky 0, 6, .inl spoonsLeftG_351)), (depths, .inl (ky 0, 6, .inl depthsG_352))] H := hP
            have hD : va_D A [(st, .inr (8, [.int x110])), (reader, .inr (5, [.ref rtape, .int (nI rlength), .int (nI rmostBytes), .int (nI rplaceG_338), .int rkindG_339, .int (nI rbeginG_340), .int rwordG_341, .int rnumberG_342, .long rlettersG_343, .int rfaultKindG_344, .int rfaultPlaceG_345])), (rtape, .inl (ky 2, 940, .inl rtapeF)), (a, .inr (7, [.int (nI k127), .int (nI k128), .int x129, .int x130, .int x131, .int todayG_8, .int stirsG_9, .int stepsG_10, .int (nI k132), .int (nI boatsG_346), .ref thickness, .ref lumpNames, .ref lumpCells, .ref boatNames, .ref boatCells, .ref loads, .ref spoons, .ref spoonsLeft, .ref depths])), (thickness, .inl (ky 0, 36, .inl f134)), (lumpNames, .inl (ky 1, 6, .inr (.inl f119))), (lumpCells, .inl (ky 0, 6, .inl f120)), (boatNames, .inl (ky 1, 6, .inr (.inl boatNamesG_347))), (boatCells, .inl (ky 0, 6, .inl boatCellsG_348)), (loads, .inl (ky 0, 6, .inl loadsG_349)), (spoons, .inl (ky 0, 6, .inl spoonsG_350)), (spoonsLeft, .inl (ky 0, 6, .inl spoonsLeftG_351)), (depths, .inl (ky 0, 6, .inl depthsG_352))] := hD
            rcases p353 with ⟨rfl, t357, t358, t359, t360, t361, t362, t363⟩ | ⟨rfl, t364, t365, t366⟩
            · refine lv_istore (lv' := [(5, .int (nI 1)), (4, .int (nI 3)), (3, .int (nI k109)), (0, .ref st), (1, .ref reader), (2, .ref a)]) hx hb dX8_read_115 hl (by decide) rfl (fun ls hl => ?_)
              refine lv_goto (tgt := 140) hx hb dX8_read_117 (by decide) ?_
              refine lv_iload hx hb dX8_read_140 (lv_at hl 0 rfl) ?_
              refine lv_if_eq (tgt := 154) hx hb dX8_read_142 (by decide) (fun c367 => absurd c367 (by decide)) (fun c367 => ?_)
              refine lv_aload_n hx hb dX8_read_145 rfl (lv_at hl 4 rfl) ?_
              refine lv_bipush (v := nI 59) hx hb dX8_read_146 (by decide) ?_
              refine r_call_i (wr := [(st, .inr (8, [.int x110])), (a, .inr (7, [.int (nI k127), .int (nI k128), .int x129, .int x130, .int x131, .int todayG_8, .int stirsG_9, .int stepsG_10, .int (nI k132), .int (nI boatsG_346), .ref thickness, .ref lumpNames, .ref lumpCells, .ref boatNames, .ref boatCells, .ref loads, .ref spoons, .ref spoonsLeft, .ref depths])), (thickness, .inl (ky 0, 36, .inl f134)), (lumpNames, .inl (ky 1, 6, .inr (.inl f119))), (lumpCells, .inl (ky 0, 6, .inl f120)), (boatNames, .inl (ky 1, 6, .inr (.inl boatNamesG_347))), (boatCells, .inl (ky 0, 6, .inl boatCellsG_348)), (loads, .inl (ky 0, 6, .inl loadsG_349)), (spoons, .inl (ky 0, 6, .inl spoonsG_350)), (spoonsLeft, .inl (ky 0, 6, .inl spoonsLeftG_351)), (depths, .inl (ky 0, 6, .inl depthsG_352))]) (va_runV (As := [.int (nI 59)]) (rest := []) ⟨hx, hb, hml, hown, hts⟩ (c_f_takeSign l dC dI ky H.size adK adV bt reader rtape rlength rmostBytes rplaceG_338 rkindG_339 rbeginG_340 rwordG_341 rnumberG_342 rlettersG_343 rfaultKindG_344 rfaultPlaceG_345 rtapeF (lrP (pBoat bt rlength rmostBytes z106 z107 z108)) (nI 59) iv_rreader_0 p354 iv_rreader_2 p355 hTC t358) (cwV 1 hts gX8_read_X5_takeSign rfl rfl rfl (by decide +kernel) ⟨(Nat.le_of_ble_eq_true rfl), (Nat.le_of_ble_eq_true rfl)⟩) (pre_UEV hE hS hA hK hP hD [1, 2] (by decide) rfl (va_recv hK hP (ci := 5) (q0 := 1) rfl rfl)) rfl rfl hl.1 rfl (lv_room (Nat.le_of_ble_eq_true rfl)) dX8_read_148 ⟨(Nat.le_of_ble_eq_true rfl), (Nat.le_of_ble_eq_true rfl)⟩) hP hD hS hA [1, 2] [0, 3, 4, 5, 6, 7, 8, 9, 10, 11, 12] rfl rfl (by decide) (by decide) (fun r370 u368 H locs p369 hP hD hS => ?_)
              obtain ⟨rplaceG_371, rkindG_372, rbeginG_373, rwordG_374, rnumberG_375, rlettersG_376, rfaultKindG_377, rfaultPlaceG_378⟩ := u368
              try dsimp only at p369
              obtain ⟨p379, p380, p381⟩ := p369
              refine W.widen (k := 0) (n := 0) (Nat.le_of_ble_eq_true rfl) (Nat.le_of_ble_eq_true rfl) ?_
              have hP : va_P (dC, dI) vwCl [(st, .inr (8, [.int x110])), (a, .inr (7, [.int (nI k127), .int (nI k128), .int x129, .int x130, .int x131, .int todayG_8, .int stirsG_9, .int stepsG_10, .int (nI k132), .int (nI boatsG_346), .ref thickness, .ref lumpNames, .ref lumpCells, .ref boatNames, .ref boatCells, .ref loads, .ref spoons, .ref spoonsLeft, .ref depths])), (thickness, .inl (ky 0, 36, .inl f134)), (lumpNames, .inl (ky 1, 6, .inr (.inl f119))), (lumpCells, .inl (ky 0, 6, .inl f120)), (boatNames, .inl (ky 1, 6, .inr (.inl boatNamesG_347))), (boatCells, .inl (ky 0, 6, .inl boatCellsG_348)), (loads, .inl (ky 0, 6, .inl loadsG_349)), (spoons, .inl (ky 0, 6, .inl spoonsG_350)), (spoonsLeft, .inl (ky 0, 6, .inl spoonsLeftG_351)), (depths, .inl (ky 0, 6, .inl depthsG_352)), (reader, .inr (5, [.ref rtape, .int (nI rlength), .int (nI rmostBytes), .int (nI rplaceG_371), .int rkindG_372, .int (nI rbeginG_373), .int rwordG_374, .int rnumberG_375, .long rlettersG_376, .int rfaultKindG_377, .int rfaultPlaceG_378])), (rtape, .inl (ky 2, 940, .inl rtapeF))] H := hP
              have hD : va_D A [(st, .inr (8, [.int x110])), (a, .inr (7, [.int (nI k127), .int (nI k128), .int x129, .int x130, .int x131, .int todayG_8, .int stirsG_9, .int stepsG_10, .int (nI k132), .int (nI boatsG_346), .ref thickness, .ref lumpNames, .ref lumpCells, .ref boatNames, .ref boatCells, .ref loads, .ref spoons, .ref spoonsLeft, .ref depths])), (thickness, .inl (ky 0, 36, .inl f134)), (lumpNames, .inl (ky 1, 6, .inr (.inl f119))), (lumpCells, .inl (ky 0, 6, .inl f120)), (boatNames, .inl (ky 1, 6, .inr (.inl boatNamesG_347))), (boatCells, .inl (ky 0, 6, .inl boatCellsG_348)), (loads, .inl (ky 0, 6, .inl loadsG_349)), (spoons, .inl (ky 0, 6, .inl spoonsG_350)), (spoonsLeft, .inl (ky 0, 6, .inl spoonsLeftG_351)), (depths, .inl (ky 0, 6, .inl depthsG_352)), (reader, .inr (5, [.ref rtape, .int (nI rlength), .int (nI rmostBytes), .int (nI rplaceG_371), .int rkindG_372, .int (nI rbeginG_373), .int rwordG_374, .int rnumberG_375, .long rlettersG_376, .int rfaultKindG_377, .int rfaultPlaceG_378])), (rtape, .inl (ky 2, 940, .inl rtapeF))] := hD
              rcases p379 with ⟨rfl, t382, t383, t384, t385⟩ | ⟨rfl, t386, t387, t388⟩
              · refine lv_if_ne (tgt := 156) hx hb dX8_read_151 (by decide) (fun c389 => ?_) (fun c389 => absurd c389 (by decide))
                refine lv_aload_n hx hb dX8_read_156 rfl (lv_at hl 3 rfl) ?_
                refine lv_dup hx hb dX8_read_157 rfl ?_
                refine va_get (D := (dC, dI)) (ci := 8) (v := .int x110) (C := RX8) (T := TX8) (N := 1) hx hb hts hin8 hown hK hP 0 rfl rfl 0 (by decide) (hts (.fieldLink RX8 16 "PorridgeSea$SeaText" "toldWords" "I") (List.mem_of_getElem? (i := 1) rfl)) (fun _ h9 => h9) rfl dX8_read_158 ?_
                refine lv_iconst (v := nI 1) hx hb dX8_read_161 (by decide) ?_
                refine lv_iload hx hb dX8_read_162 (lv_at hl 1 rfl) ?_
                refine lv_ishl hx hb dX8_read_164 ?_
                refine r_ti (nI 8) (by decide) ?_
                refine lv_ior hx hb dX8_read_165 ?_
                refine lv_topi (fun y390 e391 => ?_)
                refine va_put (D := (dC, dI)) (ci := 8) (v := .int y390) (ty := .int) (C := RX8) (T := TX8) (N := 1) hx hb hts hin8 tyX8 tyX8_ok nmX8 hown hK hP hD hS 0 rfl rfl 0 (by decide) (hts (.fieldLink RX8 16 "PorridgeSea$SeaText" "toldWords" "I") (List.mem_of_getElem? (i := 1) rfl)) (fun _ h9 => h9) rfl (by decide +kernel) rfl rfl (Nat.le_of_ble_eq_true rfl) dX8_read_166 (fun H locs hP hD hS => ?_)
                have hP : va_P (dC, dI) vwCl [(st, .inr (8, [.int y390])), (a, .inr (7, [.int (nI k127), .int (nI k128), .int x129, .int x130, .int x131, .int todayG_8, .int stirsG_9, .int stepsG_10, .int (nI k132), .int (nI boatsG_346), .ref thickness, .ref lumpNames, .ref lumpCells, .ref boatNames, .ref boatCells, .ref loads, .ref spoons, .ref spoonsLeft, .ref depths])), (thickness, .inl (ky 0, 36, .inl f134)), (lumpNames, .inl (ky 1, 6, .inr (.inl f119))), (lumpCells, .inl (ky 0, 6, .inl f120)), (boatNames, .inl (ky 1, 6, .inr (.inl boatNamesG_347))), (boatCells, .inl (ky 0, 6, .inl boatCellsG_348)), (loads, .inl (ky 0, 6, .inl loadsG_349)), (spoons, .inl (ky 0, 6, .inl spoonsG_350)), (spoonsLeft, .inl (ky 0, 6, .inl spoonsLeftG_351)), (depths, .inl (ky 0, 6, .inl depthsG_352)), (reader, .inr (5, [.ref rtape, .int (nI rlength), .int (nI rmostBytes), .int (nI rplaceG_371), .int rkindG_372, .int (nI rbeginG_373), .int rwordG_374, .int rnumberG_375, .long rlettersG_376, .int rfaultKindG_377, .int rfaultPlaceG_378])), (rtape, .inl (ky 2, 940, .inl rtapeF))] H := hP
                have hD : va_D A [(st, .inr (8, [.int y390])), (a, .inr (7, [.int (nI k127), .int (nI k128), .int x129, .int x130, .int x131, .int todayG_8, .int stirsG_9, .int stepsG_10, .int (nI k132), .int (nI boatsG_346), .ref thickness, .ref lumpNames, .ref lumpCells, .ref boatNames, .ref boatCells, .ref loads, .ref spoons, .ref spoonsLeft, .ref depths])), (thickness, .inl (ky 0, 36, .inl f134)), (lumpNames, .inl (ky 1, 6, .inr (.inl f119))), (lumpCells, .inl (ky 0, 6, .inl f120)), (boatNames, .inl (ky 1, 6, .inr (.inl boatNamesG_347))), (boatCells, .inl (ky 0, 6, .inl boatCellsG_348)), (loads, .inl (ky 0, 6, .inl loadsG_349)), (spoons, .inl (ky 0, 6, .inl spoonsG_350)), (spoonsLeft, .inl (ky 0, 6, .inl spoonsLeftG_351)), (depths, .inl (ky 0, 6, .inl depthsG_352)), (reader, .inr (5, [.ref rtape, .int (nI rlength), .int (nI rmostBytes), .int (nI rplaceG_371), .int rkindG_372, .int (nI rbeginG_373), .int rwordG_374, .int rnumberG_375, .long rlettersG_376, .int rfaultKindG_377, .int rfaultPlaceG_378])), (rtape, .inl (ky 2, 940, .inl rtapeF))] := hD
                refine lv_iinc (v := nI (k109 + 1)) (lv' := [(3, .int (nI (k109 + 1))), (5, .int (nI 1)), (4, .int (nI 3)), (0, .ref st), (1, .ref reader), (2, .ref a)]) hx hb dX8_read_169 hl (k := 2) rfl (show nI k109 + nI 1 = nI (k109 + 1) from nI_add _ _) (by decide) rfl (fun ls hl => ?_)
                refine lv_goto (tgt := 11) hx hb dX8_read_172 (by decide) ?_
                exact ih147 (k109 + 1) y390 rplaceG_371 rkindG_372 rbeginG_373 rwordG_374 rnumberG_375 rlettersG_376 rfaultKindG_377 rfaultPlaceG_378 f119 f120 boatNamesG_347 boatCellsG_348 loadsG_349 spoonsG_350 spoonsLeftG_351 depthsG_352 k127 k128 x129 x130 x131 k132 boatsG_346 f134 (tT bt rlength rmostBytes (lrP (pBoat bt rlength rmostBytes z106 z107 z108))) (lrS (pBoat bt rlength rmostBytes z106 z107 z108)) (lrN (pBoat bt rlength rmostBytes z106 z107 z108)) (lf_f_read_34 bt rlength rmostBytes rplace rkind rbegin rword rnumber rletters rtapeF gp k109 x110 k111 x112 k113 x114 x115 w116 f119 f120 f121 f122 f123 f124 k127 k128 x129 x130 x131 k132 k133 f134 z106 z107 z108 n146 r151 rplaceG_338 rkindG_339 rbeginG_340 rwordG_341 rnumberG_342 rlettersG_343 boatsG_346 boatNamesG_347 boatCellsG_348 loadsG_349 spoonsG_350 rplaceG_371 rkindG_372 rbeginG_373 rwordG_374 rnumberG_375 rlettersG_376 y390 iv_rreader_0 iv_rreader_1 iv_rreader_2 iv_rreader_3 hTC hRT hgl j135 j136 j137 j138 j139 j140 j141 j142 j143 j144 jRT jCS jSW jTB jPL j2k jLe hm148 c149 c150 p152 c158 p354 p355 p356 t357 t358 t359 t360 t363 p380 p381 t382 t383 e391) (lf_f_read_35 bt rlength rmostBytes rplace rkind rbegin rword rnumber rletters rtapeF gp k109 x110 k111 x112 k113 x114 x115 w116 f119 f120 f121 f122 f123 f124 k127 k128 x129 x130 x131 k132 k133 f134 z106 z107 z108 n146 r151 rplaceG_338 rkindG_339 rbeginG_340 rwordG_341 rnumberG_342 rlettersG_343 boatsG_346 boatNamesG_347 boatCellsG_348 loadsG_349 spoonsG_350 rplaceG_371 rkindG_372 rbeginG_373 rwordG_374 rnumberG_375 rlettersG_376 y390 iv_rreader_0 iv_rreader_1 iv_rreader_2 iv_rreader_3 hTC hRT hgl j135 j136 j137 j138 j139 j140 j141 j142 j143 j144 jRT jCS jSW jTB jPL j2k jLe hm148 c149 c150 p152 c158 p354 p355 p356 t357 t358 t359 t360 t363 p380 p381 t382 t383 e391) p381 p380 j139 j140 j141 j142 j143 p356 t383 t359 t360 (lf_f_read_36 bt rlength rmostBytes rplace rkind rbegin rword rnumber rletters rtapeF gp k109 x110 k111 x112 k113 x114 x115 w116 f119 f120 f121 f122 f123 f124 k127 k128 x129 x130 x131 k132 k133 f134 z106 z107 z108 n146 r151 rplaceG_338 rkindG_339 rbeginG_340 rwordG_341 rnumberG_342 rlettersG_343 boatsG_346 boatNamesG_347 boatCellsG_348 loadsG_349 spoonsG_350 rplaceG_371 rkindG_372 rbeginG_373 rwordG_374 rnumberG_375 rlettersG_376 y390 iv_rreader_0 iv_rreader_1 iv_rreader_2 iv_rreader_3 hTC hRT hgl j135 j136 j137 j138 j139 j140 j141 j142 j143 j144 jRT jCS jSW jTB jPL j2k jLe hm148 c149 c150 p152 c158 p354 p355 p356 t357 t358 t359 t360 t363 p380 p381 t382 t383 e391) (lf_f_read_37 bt rlength rmostBytes rplace rkind rbegin rword rnumber rletters rtapeF gp k109 x110 k111 x112 k113 x114 x115 w116 f119 f120 f121 f122 f123 f124 k127 k128 x129 x130 x131 k132 k133 f134 z106 z107 z108 n146 r151 rplaceG_338 rkindG_339 rbeginG_340 rwordG_341 rnumberG_342 rlettersG_343 boatsG_346 boatNamesG_347 boatCellsG_348 loadsG_349 spoonsG_350 rplaceG_371 rkindG_372 rbeginG_373 rwordG_374 rnumberG_375 rlettersG_376 y390 iv_rreader_0 iv_rreader_1 iv_rreader_2 iv_rreader_3 hTC hRT hgl j135 j136 j137 j138 j139 j140 j141 j142 j143 j144 jRT jCS jSW jTB jPL j2k jLe hm148 c149 c150 p152 c158 p354 p355 p356 t357 t358 t359 t360 t363 p380 p381 t382 t383 e391) (lf_f_read_38 bt rlength rmostBytes rplace rkind rbegin rword rnumber rletters rtapeF gp k109 x110 k111 x112 k113 x114 x115 w116 f119 f120 f121 f122 f123 f124 k127 k128 x129 x130 x131 k132 k133 f134 z106 z107 z108 n146 r151 rplaceG_338 rkindG_339 rbeginG_340 rwordG_341 rnumberG_342 rlettersG_343 boatsG_346 boatNamesG_347 boatCellsG_348 loadsG_349 spoonsG_350 rplaceG_371 rkindG_372 rbeginG_373 rwordG_374 rnumberG_375 rlettersG_376 y390 iv_rreader_0 iv_rreader_1 iv_rreader_2 iv_rreader_3 hTC hRT hgl j135 j136 j137 j138 j139 j140 j141 j142 j143 j144 jRT jCS jSW jTB jPL j2k jLe hm148 c149 c150 p152 c158 p354 p355 p356 t357 t358 t359 t360 t363 p380 p381 t382 t383 e391) (lf_f_read_39 bt rlength rmostBytes rplace rkind rbegin rword rnumber rletters rtapeF gp k109 x110 k111 x112 k113 x114 x115 w116 f119 f120 f121 f122 f123 f124 k127 k128 x129 x130 x131 k132 k133 f134 z106 z107 z108 n146 r151 rplaceG_338 rkindG_339 rbeginG_340 rwordG_341 rnumberG_342 rlettersG_343 boatsG_346 boatNamesG_347 boatCellsG_348 loadsG_349 spoonsG_350 rplaceG_371 rkindG_372 rbeginG_373 rwordG_374 rnumberG_375 rlettersG_376 y390 iv_rreader_0 iv_rreader_1 iv_rreader_2 iv_rreader_3 hTC hRT hgl j135 j136 j137 j138 j139 j140 j141 j142 j143 j144 jRT jCS jSW jTB jPL j2k jLe hm148 c149 c150 p152 c158 p354 p355 p356 t357 t358 t359 t360 t363 p380 p381 t382 t383 e391) (lf_f_read_40 adK adV st qtoldWords bt reader rtape rlength rmostBytes rplace rkind rbegin rword rnumber rletters rfaultKind rfaultPlace rtapeF a wide high heat cools skinHeat today stirs steps lumps boats thickness lumpNames lumpCells boatNames boatCells loads spoons spoonsLeft depths thicknessF lumpNamesF lumpCellsF boatNamesF boatCellsF loadsF spoonsF spoonsLeftF depthsF gp wideG_3 highG_4 heatG_5 coolsG_6 skinHeatG_7 todayG_8 stirsG_9 stepsG_10 lumpsG_11 boatsG_12 thicknessG_13 k109 x110 k111 x112 k113 x114 x115 w116 x117 x118 f119 f120 f121 f122 f123 f124 f125 f126 k127 k128 x129 x130 x131 k132 k133 f134 z106 z107 z108 n146 r151 rplaceG_338 rkindG_339 rbeginG_340 rwordG_341 rnumberG_342 rlettersG_343 rfaultKindG_344 rfaultPlaceG_345 boatsG_346 boatNamesG_347 boatCellsG_348 loadsG_349 spoonsG_350 spoonsLeftG_351 depthsG_352 rplaceG_371 rkindG_372 rbeginG_373 rwordG_374 rnumberG_375 rlettersG_376 rfaultKindG_377 rfaultPlaceG_378 y390 iv_rreader_0 iv_rreader_1 iv_rreader_2 iv_rreader_3 hTC iv_a_0 iv_a_1 iv_a_2 iv_a_3 iv_a_4 iv_a_5 hRT hgl p14 p15 p16 p17 p18 p19 p20 p21 p22 p23 p24 p25 p26 p27 j135 j136 j137 j138 j139 j140 j141 j142 j143 j144 jRT jCS jSW jTB jPL j2k jLe jFk hm148 c149 c150 p152 c158 p354 p355 p356 t357 t358 t359 t360 t361 t362 t363 p380 p381 t382 t383 t384 t385 e391) (lf_f_read_41 bt rlength rmostBytes rplace rkind rbegin rword rnumber rletters rtapeF gp k109 x110 k111 x112 k113 x114 x115 w116 f119 f120 f121 f122 f123 f124 k127 k128 x129 x130 x131 k132 k133 f134 z106 z107 z108 n146 r151 rplaceG_338 rkindG_339 rbeginG_340 rwordG_341 rnumberG_342 rlettersG_343 boatsG_346 boatNamesG_347 boatCellsG_348 loadsG_349 spoonsG_350 rplaceG_371 rkindG_372 rbeginG_373 rwordG_374 rnumberG_375 rlettersG_376 y390 iv_rreader_0 iv_rreader_1 iv_rreader_2 iv_rreader_3 hTC hRT hgl j135 j136 j137 j138 j139 j140 j141 j142 j143 j144 jRT jCS jSW jTB jPL j2k jLe hm148 c149 c150 p152 c158 p354 p355 p356 t357 t358 t359 t360 t363 p380 p381 t382 t383 e391) _ _ _ (hP.sub [0, 11, 12, 3, 4, 5, 6, 7, 8, 9, 10, 1, 2] rfl) (hD.sub [0, 11, 12, 3, 4, 5, 6, 7, 8, 9, 10, 1, 2] (by decide) rfl) hS (lv_sub hl [0, 3, 4, 5] rfl)
              · refine lv_if_ne (tgt := 156) hx hb dX8_read_151 (by decide) (fun c392 => absurd c392 (by decide)) (fun c392 => ?_)
                refine lv_iconst (v := (-1 : Int32)) hx hb dX8_read_154 (by decide) ?_
                rw [hQ]
                have hP9 := hP.sub (ws' := [(st, .inr (8, [.int x110])), (reader, .inr (5, [.ref rtape, .int (nI rlength), .int (nI rmostBytes), .int (nI rplaceG_371), .int rkindG_372, .int (nI rbeginG_373), .int rwordG_374, .int rnumberG_375, .long rlettersG_376, .int rfaultKindG_377, .int rfaultPlaceG_378])), (rtape, .inl (ky 2, 940, .inl rtapeF)), (a, .inr (7, [.int (nI k127), .int (nI k128), .int x129, .int x130, .int x131, .int todayG_8, .int stirsG_9, .int stepsG_10, .int (nI k132), .int (nI boatsG_346), .ref thickness, .ref lumpNames, .ref lumpCells, .ref boatNames, .ref boatCells, .ref loads, .ref spoons, .ref spoonsLeft, .ref depths])), (thickness, .inl (ky 0, 36, .inl f134)), (lumpNames, .inl (ky 1, 6, .inr (.inl f119))), (lumpCells, .inl (ky 0, 6, .inl f120)), (boatNames, .inl (ky 1, 6, .inr (.inl boatNamesG_347))), (boatCells, .inl (ky 0, 6, .inl boatCellsG_348)), (loads, .inl (ky 0, 6, .inl loadsG_349)), (spoons, .inl (ky 0, 6, .inl spoonsG_350)), (spoonsLeft, .inl (ky 0, 6, .inl spoonsLeftG_351)), (depths, .inl (ky 0, 6, .inl depthsG_352))]) [0, 11, 12, 1, 2, 3, 4, 5, 6, 7, 8, 9, 10] rfl
                have hD9 := hD.sub (ws' := [(st, .inr (8, [.int x110])), (reader, .inr (5, [.ref rtape, .int (nI rlength), .int (nI rmostBytes), .int (nI rplaceG_371), .int rkindG_372, .int (nI rbeginG_373), .int rwordG_374, .int rnumberG_375, .long rlettersG_376, .int rfaultKindG_377, .int rfaultPlaceG_378])), (rtape, .inl (ky 2, 940, .inl rtapeF)), (a, .inr (7, [.int (nI k127), .int (nI k128), .int x129, .int x130, .int x131, .int todayG_8, .int stirsG_9, .int stepsG_10, .int (nI k132), .int (nI boatsG_346), .ref thickness, .ref lumpNames, .ref lumpCells, .ref boatNames, .ref boatCells, .ref loads, .ref spoons, .ref spoonsLeft, .ref depths])), (thickness, .inl (ky 0, 36, .inl f134)), (lumpNames, .inl (ky 1, 6, .inr (.inl f119))), (lumpCells, .inl (ky 0, 6, .inl f120)), (boatNames, .inl (ky 1, 6, .inr (.inl boatNamesG_347))), (boatCells, .inl (ky 0, 6, .inl boatCellsG_348)), (loads, .inl (ky 0, 6, .inl loadsG_349)), (spoons, .inl (ky 0, 6, .inl spoonsG_350)), (spoonsLeft, .inl (ky 0, 6, .inl spoonsLeftG_351)), (depths, .inl (ky 0, 6, .inl depthsG_352))]) [0, 11, 12, 1, 2, 3, 4, 5, 6, 7, 8, 9, 10] (by decide) rfl
                exact W.iret (v := (-1 : Int32)) hx hb hr (fun t9 ht9 hW9 => ⟨⟨(-1 : Int32), (x110, rplaceG_371, rkindG_372, rbeginG_373, rwordG_374, rnumberG_375, rlettersG_376, rfaultKindG_377, rfaultPlaceG_378, k127, k128, x129, x130, x131, todayG_8, stirsG_9, stepsG_10, k132, boatsG_346, f134, f119, f120, boatNamesG_347, boatCellsG_348, loadsG_349, spoonsG_350, spoonsLeftG_351, depthsG_352), rfl, ⟨(Or.inl ⟨rfl, (lf_f_read_42 bt rlength rmostBytes rplace rkind rbegin rword rnumber rletters rtapeF gp k109 x110 k111 x112 k113 x114 x115 w116 f119 f120 f121 f122 f123 f124 k127 k128 x129 x130 x131 k132 k133 f134 z106 z107 z108 n146 r151 rplaceG_338 rkindG_339 rbeginG_340 rwordG_341 rnumberG_342 rlettersG_343 boatsG_346 boatNamesG_347 boatCellsG_348 loadsG_349 spoonsG_350 rplaceG_371 rfaultKindG_377 rfaultPlaceG_378 iv_rreader_0 iv_rreader_1 iv_rreader_2 iv_rreader_3 hTC hRT hgl j135 j136 j137 j138 j139 j140 j141 j142 j143 j144 jRT jCS jSW jTB jPL j2k jLe hm148 c149 c150 p152 c158 p354 p355 p356 t357 t358 t359 t360 t363 p380 t386 t387 t388)⟩), p380, p381, j139, j140, j141, j142, j143, p356⟩, by rw [ht9]; exact hP9, va_K.moved hW9.alike hK, hD9⟩, hS.F ht9⟩) hS.2.2 dX8_read_155
            · refine lv_istore (lv' := [(5, .int (nI 0)), (4, .int (nI 3)), (3, .int (nI k109)), (0, .ref st), (1, .ref reader), (2, .ref a)]) hx hb dX8_read_115 hl (by decide) rfl (fun ls hl => ?_)
              refine lv_goto (tgt := 140) hx hb dX8_read_117 (by decide) ?_
              refine lv_iload hx hb dX8_read_140 (lv_at hl 0 rfl) ?_
              refine lv_if_eq (tgt := 154) hx hb dX8_read_142 (by decide) (fun c393 => ?_) (fun c393 => absurd (by decide) c393)
              refine lv_iconst (v := (-1 : Int32)) hx hb dX8_read_154 (by decide) ?_
              rw [hQ]
              exact W.iret (v := (-1 : Int32)) hx hb hr (fun t9 ht9 hW9 => ⟨⟨(-1 : Int32), (x110, rplaceG_338, rkindG_339, rbeginG_340, rwordG_341, rnumberG_342, rlettersG_343, rfaultKindG_344, rfaultPlaceG_345, k127, k128, x129, x130, x131, todayG_8, stirsG_9, stepsG_10, k132, boatsG_346, f134, f119, f120, boatNamesG_347, boatCellsG_348, loadsG_349, spoonsG_350, spoonsLeftG_351, depthsG_352), rfl, ⟨(Or.inl ⟨rfl, (lf_f_read_43 bt rlength rmostBytes rplace rkind rbegin rword rnumber rletters rtapeF gp k109 x110 k111 x112 k113 x114 x115 w116 f119 f120 f121 f122 f123 f124 k127 k128 x129 x130 x131 k132 k133 f134 z106 z107 z108 n146 r151 rplaceG_338 rfaultKindG_344 rfaultPlaceG_345 iv_rreader_0 iv_rreader_1 iv_rreader_2 iv_rreader_3 hTC hRT hgl j135 j136 j137 j138 j139 j140 j141 j142 j143 j144 jRT jCS jSW jTB jPL j2k jLe hm148 c149 c150 p152 c158 p354 t364 t365 t366)⟩), p354, p355, j139, j140, j141, j142, j143, p356⟩, by rw [ht9]; exact hP, va_K.moved hW9.alike hK, hD⟩, hS.F ht9⟩) hS.2.2 dX8_read_155
          · refine r_ti (nI 4) c159 ?_
            rw [c159] at hl
            refine lv_tableIn (off := 87) (tgt := 120) hx hb dX8_read_33 (by decide) (by decide) rfl (by decide) ?_
            refine lv_aload_n hx hb dX8_read_120 rfl (lv_at hl 2 rfl) ?_
            refine lv_aload_n hx hb dX8_read_121 rfl (lv_at hl 3 rfl) ?_
            refine lv_aload_n hx hb dX8_read_122 rfl (lv_at hl 4 rfl) ?_
            refine lv_iload hx hb dX8_read_123 (lv_at hl 0 rfl) ?_
            refine r_call_i (wr := []) (va_runV (As := [.ref reader, .ref a, .int (nI 4)]) (rest := []) ⟨hx, hb, hml, hown, hts⟩ (c_f_readSetting4 l dC dI ky H.size adK adV st x110 bt reader rtape rlength rmostBytes k111 x112 k113 x114 x115 w116 x117 x118 rtapeF a k127 k128 x129 x130 x131 todayG_8 stirsG_9 stepsG_10 k132 k133 thickness lumpNames lumpCells boatNames boatCells loads spoons spoonsLeft depths f134 f119 f120 f121 f122 f123 f124 f125 f126 z106 z107 z108 iv_rreader_0 j138 iv_rreader_2 j137 hTC j139 j140 j141 j142 j143 j144 jRT jCS jSW jTB) (cwV 3 hts gX8_read_X8_readSetting rfl rfl rfl (by decide +kernel) ⟨(Nat.le_of_ble_eq_true rfl), (Nat.le_of_ble_eq_true rfl)⟩) (pre_UEV hE hS hA hK hP hD [0, 1, 2, 11, 12, 3, 4, 5, 6, 7, 8, 9, 10] (by decide) rfl (va_recv hK hP (ci := 8) (q0 := 0) rfl rfl)) rfl rfl hl.1 rfl (lv_room (Nat.le_of_ble_eq_true rfl)) dX8_read_125 ⟨(Nat.le_of_ble_eq_true rfl), (Nat.le_of_ble_eq_true rfl)⟩) hP hD hS hA [0, 1, 2, 11, 12, 3, 4, 5, 6, 7, 8, 9, 10] [] rfl rfl (by decide) (by decide) (fun r396 u394 H locs p395 hP hD hS => ?_)
            obtain ⟨rplaceG_397, rkindG_398, rbeginG_399, rwordG_400, rnumberG_401, rlettersG_402, rfaultKindG_403, rfaultPlaceG_404, heatG_405⟩ := u394
            try dsimp only at p395
            obtain ⟨p406, p407, p408⟩ := p395
            refine W.widen (k := 0) (n := 0) (Nat.le_of_ble_eq_true rfl) (Nat.le_of_ble_eq_true rfl) ?_
            have hP : va_P (dC, dI) vwCl [(st, .inr (8, [.int x110])), (reader, .inr (5, [.ref rtape, .int (nI rlength), .int (nI rmostBytes), .int (nI rplaceG_397), .int rkindG_398, .int (nI rbeginG_399), .int rwordG_400, .int rnumberG_401, .long rlettersG_402, .int rfaultKindG_403, .int rfaultPlaceG_404])), (rtape, .inl (ky 2, 940, .inl rtapeF)), (a, .inr (7, [.int (nI k127), .int (nI k128), .int heatG_405, .int x130, .int x131, .int todayG_8, .int stirsG_9, .int stepsG_10, .int (nI k132), .int (nI k133), .ref thickness, .ref lumpNames, .ref lumpCells, .ref boatNames, .ref boatCells, .ref loads, .ref spoons, .ref spoonsLeft, .ref depths])), (thickness, .inl (ky 0, 36, .inl f134)), (lumpNames, .inl (ky 1, 6, .inr (.inl f119))), (lumpCells, .inl (ky 0, 6, .inl f120)), (boatNames, .inl (ky 1, 6, .inr (.inl f121))), (boatCells, .inl (ky 0, 6, .inl f122)), (loads, .inl (ky 0, 6, .inl f123)), (spoons, .inl (ky 0, 6, .inl f124)), (spoonsLeft, .inl (ky 0, 6, .inl f125)), (depths, .inl (ky 0, 6, .inl f126))] H := hP
            have hD : va_D A [(st, .inr (8, [.int x110])), (reader, .inr (5, [.ref rtape, .int (nI rlength), .int (nI rmostBytes), .int (nI rplaceG_397), .int rkindG_398, .int (nI rbeginG_399), .int rwordG_400, .int rnumberG_401, .long rlettersG_402, .int rfaultKindG_403, .int rfaultPlaceG_404])), (rtape, .inl (ky 2, 940, .inl rtapeF)), (a, .inr (7, [.int (nI k127), .int (nI k128), .int heatG_405, .int x130, .int x131, .int todayG_8, .int stirsG_9, .int stepsG_10, .int (nI k132), .int (nI k133), .ref thickness, .ref lumpNames, .ref lumpCells, .ref boatNames, .ref boatCells, .ref loads, .ref spoons, .ref spoonsLeft, .ref depths])), (thickness, .inl (ky 0, 36, .inl f134)), (lumpNames, .inl (ky 1, 6, .inr (.inl f119))), (lumpCells, .inl (ky 0, 6, .inl f120)), (boatNames, .inl (ky 1, 6, .inr (.inl f121))), (boatCells, .inl (ky 0, 6, .inl f122)), (loads, .inl (ky 0, 6, .inl f123)), (spoons, .inl (ky 0, 6, .inl f124)), (spoonsLeft, .inl (ky 0, 6, .inl f125)), (depths, .inl (ky 0, 6, .inl f126))] := hD
            rcases p406 with ⟨rfl, t409, t410, t411, t412, t413, t414, t415⟩ | ⟨rfl, t416, t417, t418⟩
            · refine lv_istore (lv' := [(5, .int (nI 1)), (4, .int (nI 4)), (3, .int (nI k109)), (0, .ref st), (1, .ref reader), (2, .ref a)]) hx hb dX8_read_128 hl (by decide) rfl (fun ls hl => ?_)
              refine lv_goto (tgt := 140) hx hb dX8_read_130 (by decide) ?_
              refine lv_iload hx hb dX8_read_140 (lv_at hl 0 rfl) ?_
              refine lv_if_eq (tgt := 154) hx hb dX8_read_142 (by decide) (fun c419 => absurd c419 (by decide)) (fun c419 => ?_)
              refine lv_aload_n hx hb dX8_read_145 rfl (lv_at hl 4 rfl) ?_
              refine lv_bipush (v := nI 59) hx hb dX8_read_146 (by decide) ?_
              refine r_call_i (wr := [(st, .inr (8, [.int x110])), (a, .inr (7, [.int (nI k127), .int (nI k128), .int heatG_405, .int x130, .int x131, .int todayG_8, .int stirsG_9, .int stepsG_10, .int (nI k132), .int (nI k133), .ref thickness, .ref lumpNames, .ref lumpCells, .ref boatNames, .ref boatCells, .ref loads, .ref spoons, .ref spoonsLeft, .ref depths])), (thickness, .inl (ky 0, 36, .inl f134)), (lumpNames, .inl (ky 1, 6, .inr (.inl f119))), (lumpCells, .inl (ky 0, 6, .inl f120)), (boatNames, .inl (ky 1, 6, .inr (.inl f121))), (boatCells, .inl (ky 0, 6, .inl f122)), (loads, .inl (ky 0, 6, .inl f123)), (spoons, .inl (ky 0, 6, .inl f124)), (spoonsLeft, .inl (ky 0, 6, .inl f125)), (depths, .inl (ky 0, 6, .inl f126))]) (va_runV (As := [.int (nI 59)]) (rest := []) ⟨hx, hb, hml, hown, hts⟩ (c_f_takeSign l dC dI ky H.size adK adV bt reader rtape rlength rmostBytes rplaceG_397 rkindG_398 rbeginG_399 rwordG_400 rnumberG_401 rlettersG_402 rfaultKindG_403 rfaultPlaceG_404 rtapeF (lrP (pSet bt rlength rmostBytes z106 z107 z108 4 30)) (nI 59) iv_rreader_0 p407 iv_rreader_2 p408 hTC t410) (cwV 1 hts gX8_read_X5_takeSign rfl rfl rfl (by decide +kernel) ⟨(Nat.le_of_ble_eq_true rfl), (Nat.le_of_ble_eq_true rfl)⟩) (pre_UEV hE hS hA hK hP hD [1, 2] (by decide) rfl (va_recv hK hP (ci := 5) (q0 := 1) rfl rfl)) rfl rfl hl.1 rfl (lv_room (Nat.le_of_ble_eq_true rfl)) dX8_read_148 ⟨(Nat.le_of_ble_eq_true rfl), (Nat.le_of_ble_eq_true rfl)⟩) hP hD hS hA [1, 2] [0, 3, 4, 5, 6, 7, 8, 9, 10, 11, 12] rfl rfl (by decide) (by decide) (fun r422 u420 H locs p421 hP hD hS => ?_)
              obtain ⟨rplaceG_423, rkindG_424, rbeginG_425, rwordG_426, rnumberG_427, rlettersG_428, rfaultKindG_429, rfaultPlaceG_430⟩ := u420
              try dsimp only at p421
              obtain ⟨p431, p432, p433⟩ := p421
              refine W.widen (k := 0) (n := 0) (Nat.le_of_ble_eq_true rfl) (Nat.le_of_ble_eq_true rfl) ?_
              have hP : va_P (dC, dI) vwCl [(st, .inr (8, [.int x110])), (a, .inr (7, [.int (nI k127), .int (nI k128), .int heatG_405, .int x130, .int x131, .int todayG_8, .int stirsG_9, .int stepsG_10, .int (nI k132), .int (nI k133), .ref thickness, .ref lumpNames, .ref lumpCells, .ref boatNames, .ref boatCells, .ref loads, .ref spoons, .ref spoonsLeft, .ref depths])), (thickness, .inl (ky 0, 36, .inl f134)), (lumpNames, .inl (ky 1, 6, .inr (.inl f119))), (lumpCells, .inl (ky 0, 6, .inl f120)), (boatNames, .inl (ky 1, 6, .inr (.inl f121))), (boatCells, .inl (ky 0, 6, .inl f122)), (loads, .inl (ky 0, 6, .inl f123)), (spoons, .inl (ky 0, 6, .inl f124)), (spoonsLeft, .inl (ky 0, 6, .inl f125)), (depths, .inl (ky 0, 6, .inl f126)), (reader, .inr (5, [.ref rtape, .int (nI rlength), .int (nI rmostBytes), .int (nI rplaceG_423), .int rkindG_424, .int (nI rbeginG_425), .int rwordG_426, .int rnumberG_427, .long rlettersG_428, .int rfaultKindG_429, .int rfaultPlaceG_430])), (rtape, .inl (ky 2, 940, .inl rtapeF))] H := hP
              have hD : va_D A [(st, .inr (8, [.int x110])), (a, .inr (7, [.int (nI k127), .int (nI k128), .int heatG_405, .int x130, .int x131, .int todayG_8, .int stirsG_9, .int stepsG_10, .int (nI k132), .int (nI k133), .ref thickness, .ref lumpNames, .ref lumpCells, .ref boatNames, .ref boatCells, .ref loads, .ref spoons, .ref spoonsLeft, .ref depths])), (thickness, .inl (ky 0, 36, .inl f134)), (lumpNames, .inl (ky 1, 6, .inr (.inl f119))), (lumpCells, .inl (ky 0, 6, .inl f120)), (boatNames, .inl (ky 1, 6, .inr (.inl f121))), (boatCells, .inl (ky 0, 6, .inl f122)), (loads, .inl (ky 0, 6, .inl f123)), (spoons, .inl (ky 0, 6, .inl f124)), (spoonsLeft, .inl (ky 0, 6, .inl f125)), (depths, .inl (ky 0, 6, .inl f126)), (reader, .inr (5, [.ref rtape, .int (nI rlength), .int (nI rmostBytes), .int (nI rplaceG_423), .int rkindG_424, .int (nI rbeginG_425), .int rwordG_426, .int rnumberG_427, .long rlettersG_428, .int rfaultKindG_429, .int rfaultPlaceG_430])), (rtape, .inl (ky 2, 940, .inl rtapeF))] := hD
              rcases p431 with ⟨rfl, t434, t435, t436, t437⟩ | ⟨rfl, t438, t439, t440⟩
              · refine lv_if_ne (tgt := 156) hx hb dX8_read_151 (by decide) (fun c441 => ?_) (fun c441 => absurd c441 (by decide))
                refine lv_aload_n hx hb dX8_read_156 rfl (lv_at hl 3 rfl) ?_
                refine lv_dup hx hb dX8_read_157 rfl ?_
                refine va_get (D := (dC, dI)) (ci := 8) (v := .int x110) (C := RX8) (T := TX8) (N := 1) hx hb hts hin8 hown hK hP 0 rfl rfl 0 (by decide) (hts (.fieldLink RX8 16 "PorridgeSea$SeaText" "toldWords" "I") (List.mem_of_getElem? (i := 1) rfl)) (fun _ h9 => h9) rfl dX8_read_158 ?_
                refine lv_iconst (v := nI 1) hx hb dX8_read_161 (by decide) ?_
                refine lv_iload hx hb dX8_read_162 (lv_at hl 1 rfl) ?_
                refine lv_ishl hx hb dX8_read_164 ?_
                refine r_ti (nI 16) (by decide) ?_
                refine lv_ior hx hb dX8_read_165 ?_
                refine lv_topi (fun y442 e443 => ?_)
                refine va_put (D := (dC, dI)) (ci := 8) (v := .int y442) (ty := .int) (C := RX8) (T := TX8) (N := 1) hx hb hts hin8 tyX8 tyX8_ok nmX8 hown hK hP hD hS 0 rfl rfl 0 (by decide) (hts (.fieldLink RX8 16 "PorridgeSea$SeaText" "toldWords" "I") (List.mem_of_getElem? (i := 1) rfl)) (fun _ h9 => h9) rfl (by decide +kernel) rfl rfl (Nat.le_of_ble_eq_true rfl) dX8_read_166 (fun H locs hP hD hS => ?_)
                have hP : va_P (dC, dI) vwCl [(st, .inr (8, [.int y442])), (a, .inr (7, [.int (nI k127), .int (nI k128), .int heatG_405, .int x130, .int x131, .int todayG_8, .int stirsG_9, .int stepsG_10, .int (nI k132), .int (nI k133), .ref thickness, .ref lumpNames, .ref lumpCells, .ref boatNames, .ref boatCells, .ref loads, .ref spoons, .ref spoonsLeft, .ref depths])), (thickness, .inl (ky 0, 36, .inl f134)), (lumpNames, .inl (ky 1, 6, .inr (.inl f119))), (lumpCells, .inl (ky 0, 6, .inl f120)), (boatNames, .inl (ky 1, 6, .inr (.inl f121))), (boatCells, .inl (ky 0, 6, .inl f122)), (loads, .inl (ky 0, 6, .inl f123)), (spoons, .inl (ky 0, 6, .inl f124)), (spoonsLeft, .inl (ky 0, 6, .inl f125)), (depths, .inl (ky 0, 6, .inl f126)), (reader, .inr (5, [.ref rtape, .int (nI rlength), .int (nI rmostBytes), .int (nI rplaceG_423), .int rkindG_424, .int (nI rbeginG_425), .int rwordG_426, .int rnumberG_427, .long rlettersG_428, .int rfaultKindG_429, .int rfaultPlaceG_430])), (rtape, .inl (ky 2, 940, .inl rtapeF))] H := hP
                have hD : va_D A [(st, .inr (8, [.int y442])), (a, .inr (7, [.int (nI k127), .int (nI k128), .int heatG_405, .int x130, .int x131, .int todayG_8, .int stirsG_9, .int stepsG_10, .int (nI k132), .int (nI k133), .ref thickness, .ref lumpNames, .ref lumpCells, .ref boatNames, .ref boatCells, .ref loads, .ref spoons, .ref spoonsLeft, .ref depths])), (thickness, .inl (ky 0, 36, .inl f134)), (lumpNames, .inl (ky 1, 6, .inr (.inl f119))), (lumpCells, .inl (ky 0, 6, .inl f120)), (boatNames, .inl (ky 1, 6, .inr (.inl f121))), (boatCells, .inl (ky 0, 6, .inl f122)), (loads, .inl (ky 0, 6, .inl f123)), (spoons, .inl (ky 0, 6, .inl f124)), (spoonsLeft, .inl (ky 0, 6, .inl f125)), (depths, .inl (ky 0, 6, .inl f126)), (reader, .inr (5, [.ref rtape, .int (nI rlength), .int (nI rmostBytes), .int (nI rplaceG_423), .int rkindG_424, .int (nI rbeginG_425), .int rwordG_426, .int rnumberG_427, .long rlettersG_428, .int rfaultKindG_429, .int rfaultPlaceG_430])), (rtape, .inl (ky 2, 940, .inl rtapeF))] := hD
                refine lv_iinc (v := nI (k109 + 1)) (lv' := [(3, .int (nI (k109 + 1))), (5, .int (nI 1)), (4, .int (nI 4)), (0, .ref st), (1, .ref reader), (2, .ref a)]) hx hb dX8_read_169 hl (k := 2) rfl (show nI k109 + nI 1 = nI (k109 + 1) from nI_add _ _) (by decide) rfl (fun ls hl => ?_)
                refine lv_goto (tgt := 11) hx hb dX8_read_172 (by decide) ?_
                exact ih147 (k109 + 1) y442 rplaceG_423 rkindG_424 rbeginG_425 rwordG_426 rnumberG_427 rlettersG_428 rfaultKindG_429 rfaultPlaceG_430 f119 f120 f121 f122 f123 f124 f125 f126 k127 k128 heatG_405 x130 x131 k132 k133 f134 (tT bt rlength rmostBytes (lrP (pSet bt rlength rmostBytes z106 z107 z108 4 30))) (lrS (pSet bt rlength rmostBytes z106 z107 z108 4 30)) (lrN (pSet bt rlength rmostBytes z106 z107 z108 4 30)) (lf_f_read_44 bt rlength rmostBytes rplace rkind rbegin rword rnumber rletters rtapeF gp k109 x110 k111 x112 k113 x114 x115 w116 f119 f120 f121 f122 f123 f124 k127 k128 x129 x130 x131 k132 k133 f134 z106 z107 z108 n146 r151 rplaceG_397 rkindG_398 rbeginG_399 rwordG_400 rnumberG_401 rlettersG_402 heatG_405 rplaceG_423 rkindG_424 rbeginG_425 rwordG_426 rnumberG_427 rlettersG_428 y442 iv_rreader_0 iv_rreader_1 iv_rreader_2 iv_rreader_3 hTC hRT hgl j135 j136 j137 j138 j139 j140 j141 j142 j143 j144 jRT jCS jSW jTB jPL j2k jLe hm148 c149 c150 p152 c159 p407 p408 t409 t410 t411 t412 t415 p432 p433 t434 t435 e443) (lf_f_read_45 bt rlength rmostBytes rplace rkind rbegin rword rnumber rletters rtapeF gp k109 x110 k111 x112 k113 x114 x115 w116 f119 f120 f121 f122 f123 f124 k127 k128 x129 x130 x131 k132 k133 f134 z106 z107 z108 n146 r151 rplaceG_397 rkindG_398 rbeginG_399 rwordG_400 rnumberG_401 rlettersG_402 heatG_405 rplaceG_423 rkindG_424 rbeginG_425 rwordG_426 rnumberG_427 rlettersG_428 y442 iv_rreader_0 iv_rreader_1 iv_rreader_2 iv_rreader_3 hTC hRT hgl j135 j136 j137 j138 j139 j140 j141 j142 j143 j144 jRT jCS jSW jTB jPL j2k jLe hm148 c149 c150 p152 c159 p407 p408 t409 t410 t411 t412 t415 p432 p433 t434 t435 e443) p433 p432 j139 j140 j141 j142 j143 j144 t435 t411 t412 (lf_f_read_46 bt rlength rmostBytes rplace rkind rbegin rword rnumber rletters rtapeF gp k109 x110 k111 x112 k113 x114 x115 w116 f119 f120 f121 f122 f123 f124 k127 k128 x129 x130 x131 k132 k133 f134 z106 z107 z108 n146 r151 rplaceG_397 rkindG_398 rbeginG_399 rwordG_400 rnumberG_401 rlettersG_402 heatG_405 rplaceG_423 rkindG_424 rbeginG_425 rwordG_426 rnumberG_427 rlettersG_428 y442 iv_rreader_0 iv_rreader_1 iv_rreader_2 iv_rreader_3 hTC hRT hgl j135 j136 j137 j138 j139 j140 j141 j142 j143 j144 jRT jCS jSW jTB jPL j2k jLe hm148 c149 c150 p152 c159 p407 p408 t409 t410 t411 t412 t415 p432 p433 t434 t435 e443) (lf_f_read_47 bt rlength rmostBytes rplace rkind rbegin rword rnumber rletters rtapeF gp k109 x110 k111 x112 k113 x114 x115 w116 f119 f120 f121 f122 f123 f124 k127 k128 x129 x130 x131 k132 k133 f134 z106 z107 z108 n146 r151 rplaceG_397 rkindG_398 rbeginG_399 rwordG_400 rnumberG_401 rlettersG_402 heatG_405 rplaceG_423 rkindG_424 rbeginG_425 rwordG_426 rnumberG_427 rlettersG_428 y442 iv_rreader_0 iv_rreader_1 iv_rreader_2 iv_rreader_3 hTC hRT hgl j135 j136 j137 j138 j139 j140 j141 j142 j143 j144 jRT jCS jSW jTB jPL j2k jLe hm148 c149 c150 p152 c159 p407 p408 t409 t410 t411 t412 t415 p432 p433 t434 t435 e443) (lf_f_read_48 bt rlength rmostBytes rplace rkind rbegin rword rnumber rletters rtapeF gp k109 x110 k111 x112 k113 x114 x115 w116 f119 f120 f121 f122 f123 f124 k127 k128 x129 x130 x131 k132 k133 f134 z106 z107 z108 n146 r151 rplaceG_397 rkindG_398 rbeginG_399 rwordG_400 rnumberG_401 rlettersG_402 heatG_405 rplaceG_423 rkindG_424 rbeginG_425 rwordG_426 rnumberG_427 rlettersG_428 y442 iv_rreader_0 iv_rreader_1 iv_rreader_2 iv_rreader_3 hTC hRT hgl j135 j136 j137 j138 j139 j140 j141 j142 j143 j144 jRT jCS jSW jTB jPL j2k jLe hm148 c149 c150 p152 c159 p407 p408 t409 t410 t411 t412 t415 p432 p433 t434 t435 e443) (lf_f_read_49 bt rlength rmostBytes rplace rkind rbegin rword rnumber rletters rtapeF gp k109 x110 k111 x112 k113 x114 x115 w116 f119 f120 f121 f122 f123 f124 k127 k128 x129 x130 x131 k132 k133 f134 z106 z107 z108 n146 r151 rplaceG_397 rkindG_398 rbeginG_399 rwordG_400 rnumberG_401 rlettersG_402 heatG_405 rplaceG_423 rkindG_424 rbeginG_425 rwordG_426 rnumberG_427 rlettersG_428 y442 iv_rreader_0 iv_rreader_1 iv_rreader_2 iv_rreader_3 hTC hRT hgl j135 j136 j137 j138 j139 j140 j141 j142 j143 j144 jRT jCS jSW jTB jPL j2k jLe hm148 c149 c150 p152 c159 p407 p408 t409 t410 t411 t412 t415 p432 p433 t434 t435 e443) (lf_f_read_50 adK adV st qtoldWords bt reader rtape rlength rmostBytes rplace rkind rbegin rword rnumber rletters rfaultKind rfaultPlace rtapeF a wide high heat cools skinHeat today stirs steps lumps boats thickness lumpNames lumpCells boatNames boatCells loads spoons spoonsLeft depths thicknessF lumpNamesF lumpCellsF boatNamesF boatCellsF loadsF spoonsF spoonsLeftF depthsF gp wideG_3 highG_4 heatG_5 coolsG_6 skinHeatG_7 todayG_8 stirsG_9 stepsG_10 lumpsG_11 boatsG_12 thicknessG_13 k109 x110 k111 x112 k113 x114 x115 w116 x117 x118 f119 f120 f121 f122 f123 f124 f125 f126 k127 k128 x129 x130 x131 k132 k133 f134 z106 z107 z108 n146 r151 rplaceG_397 rkindG_398 rbeginG_399 rwordG_400 rnumberG_401 rlettersG_402 rfaultKindG_403 rfaultPlaceG_404 heatG_405 rplaceG_423 rkindG_424 rbeginG_425 rwordG_426 rnumberG_427 rlettersG_428 rfaultKindG_429 rfaultPlaceG_430 y442 iv_rreader_0 iv_rreader_1 iv_rreader_2 iv_rreader_3 hTC iv_a_0 iv_a_1 iv_a_2 iv_a_3 iv_a_4 iv_a_5 hRT hgl p14 p15 p16 p17 p18 p19 p20 p21 p22 p23 p24 p25 p26 p27 j135 j136 j137 j138 j139 j140 j141 j142 j143 j144 jRT jCS jSW jTB jPL j2k jLe jFk hm148 c149 c150 p152 c159 p407 p408 t409 t410 t411 t412 t413 t414 t415 p432 p433 t434 t435 t436 t437 e443) (lf_f_read_51 bt rlength rmostBytes rplace rkind rbegin rword rnumber rletters rtapeF gp k109 x110 k111 x112 k113 x114 x115 w116 f119 f120 f121 f122 f123 f124 k127 k128 x129 x130 x131 k132 k133 f134 z106 z107 z108 n146 r151 rplaceG_397 rkindG_398 rbeginG_399 rwordG_400 rnumberG_401 rlettersG_402 heatG_405 rplaceG_423 rkindG_424 rbeginG_425 rwordG_426 rnumberG_427 rlettersG_428 y442 iv_rreader_0 iv_rreader_1 iv_rreader_2 iv_rreader_3 hTC hRT hgl j135 j136 j137 j138 j139 j140 j141 j142 j143 j144 jRT jCS jSW jTB jPL j2k jLe hm148 c149 c150 p152 c159 p407 p408 t409 t410 t411 t412 t415 p432 p433 t434 t435 e443) _ _ _ (hP.sub [0, 11, 12, 3, 4, 5, 6, 7, 8, 9, 10, 1, 2] rfl) (hD.sub [0, 11, 12, 3, 4, 5, 6, 7, 8, 9, 10, 1, 2] (by decide) rfl) hS (lv_sub hl [0, 3, 4, 5] rfl)
              · refine lv_if_ne (tgt := 156) hx hb dX8_read_151 (by decide) (fun c444 => absurd c444 (by decide)) (fun c444 => ?_)
                refine lv_iconst (v := (-1 : Int32)) hx hb dX8_read_154 (by decide) ?_
                rw [hQ]
                have hP9 := hP.sub (ws' := [(st, .inr (8, [.int x110])), (reader, .inr (5, [.ref rtape, .int (nI rlength), .int (nI rmostBytes), .int (nI rplaceG_423), .int rkindG_424, .int (nI rbeginG_425), .int rwordG_426, .int rnumberG_427, .long rlettersG_428, .int rfaultKindG_429, .int rfaultPlaceG_430])), (rtape, .inl (ky 2, 940, .inl rtapeF)), (a, .inr (7, [.int (nI k127), .int (nI k128), .int heatG_405, .int x130, .int x131, .int todayG_8, .int stirsG_9, .int stepsG_10, .int (nI k132), .int (nI k133), .ref thickness, .ref lumpNames, .ref lumpCells, .ref boatNames, .ref boatCells, .ref loads, .ref spoons, .ref spoonsLeft, .ref depths])), (thickness, .inl (ky 0, 36, .inl f134)), (lumpNames, .inl (ky 1, 6, .inr (.inl f119))), (lumpCells, .inl (ky 0, 6, .inl f120)), (boatNames, .inl (ky 1, 6, .inr (.inl f121))), (boatCells, .inl (ky 0, 6, .inl f122)), (loads, .inl (ky 0, 6, .inl f123)), (spoons, .inl (ky 0, 6, .inl f124)), (spoonsLeft, .inl (ky 0, 6, .inl f125)), (depths, .inl (ky 0, 6, .inl f126))]) [0, 11, 12, 1, 2, 3, 4, 5, 6, 7, 8, 9, 10] rfl
                have hD9 := hD.sub (ws' := [(st, .inr (8, [.int x110])), (reader, .inr (5, [.ref rtape, .int (nI rlength), .int (nI rmostBytes), .int (nI rplaceG_423), .int rkindG_424, .int (nI rbeginG_425), .int rwordG_426, .int rnumberG_427, .long rlettersG_428, .int rfaultKindG_429, .int rfaultPlaceG_430])), (rtape, .inl (ky 2, 940, .inl rtapeF)), (a, .inr (7, [.int (nI k127), .int (nI k128), .int heatG_405, .int x130, .int x131, .int todayG_8, .int stirsG_9, .int stepsG_10, .int (nI k132), .int (nI k133), .ref thickness, .ref lumpNames, .ref lumpCells, .ref boatNames, .ref boatCells, .ref loads, .ref spoons, .ref spoonsLeft, .ref depths])), (thickness, .inl (ky 0, 36, .inl f134)), (lumpNames, .inl (ky 1, 6, .inr (.inl f119))), (lumpCells, .inl (ky 0, 6, .inl f120)), (boatNames, .inl (ky 1, 6, .inr (.inl f121))), (boatCells, .inl (ky 0, 6, .inl f122)), (loads, .inl (ky 0, 6, .inl f123)), (spoons, .inl (ky 0, 6, .inl f124)), (spoonsLeft, .inl (ky 0, 6, .inl f125)), (depths, .inl (ky 0, 6, .inl f126))]) [0, 11, 12, 1, 2, 3, 4, 5, 6, 7, 8, 9, 10] (by decide) rfl
                exact W.iret (v := (-1 : Int32)) hx hb hr (fun t9 ht9 hW9 => ⟨⟨(-1 : Int32), (x110, rplaceG_423, rkindG_424, rbeginG_425, rwordG_426, rnumberG_427, rlettersG_428, rfaultKindG_429, rfaultPlaceG_430, k127, k128, heatG_405, x130, x131, todayG_8, stirsG_9, stepsG_10, k132, k133, f134, f119, f120, f121, f122, f123, f124, f125, f126), rfl, ⟨(Or.inl ⟨rfl, (lf_f_read_52 bt rlength rmostBytes rplace rkind rbegin rword rnumber rletters rtapeF gp k109 x110 k111 x112 k113 x114 x115 w116 f119 f120 f121 f122 f123 f124 k127 k128 x129 x130 x131 k132 k133 f134 z106 z107 z108 n146 r151 rplaceG_397 rkindG_398 rbeginG_399 rwordG_400 rnumberG_401 rlettersG_402 heatG_405 rplaceG_423 rfaultKindG_429 rfaultPlaceG_430 iv_rreader_0 iv_rreader_1 iv_rreader_2 iv_rreader_3 hTC hRT hgl j135 j136 j137 j138 j139 j140 j141 j142 j143 j144 jRT jCS jSW jTB jPL j2k jLe hm148 c149 c150 p152 c159 p407 p408 t409 t410 t411 t412 t415 p432 t438 t439 t440)⟩), p432, p433, j139, j140, j141, j142, j143, j144⟩, by rw [ht9]; exact hP9, va_K.moved hW9.alike hK, hD9⟩, hS.F ht9⟩) hS.2.2 dX8_read_155
            · refine lv_istore (lv' := [(5, .int (nI 0)), (4, .int (nI 4)), (3, .int (nI k109)), (0, .ref st), (1, .ref reader), (2, .ref a)]) hx hb dX8_read_128 hl (by decide) rfl (fun ls hl => ?_)
              refine lv_goto (tgt := 140) hx hb dX8_read_130 (by decide) ?_
              refine lv_iload hx hb dX8_read_140 (lv_at hl 0 rfl) ?_
              refine lv_if_eq (tgt := 154) hx hb dX8_read_142 (by decide) (fun c445 => ?_) (fun c445 => absurd (by decide) c445)
              refine lv_iconst (v := (-1 : Int32)) hx hb dX8_read_154 (by decide) ?_
              rw [hQ]
              exact W.iret (v := (-1 : Int32)) hx hb hr (fun t9 ht9 hW9 => ⟨⟨(-1 : Int32), (x110, rplaceG_397, rkindG_398, rbeginG_399, rwordG_400, rnumberG_401, rlettersG_402, rfaultKindG_403, rfaultPlaceG_404, k127, k128, heatG_405, x130, x131, todayG_8, stirsG_9, stepsG_10, k132, k133, f134, f119, f120, f121, f122, f123, f124, f125, f126), rfl, ⟨(Or.inl ⟨rfl, (lf_f_read_53 bt rlength rmostBytes rplace rkind rbegin rword rnumber rletters rtapeF gp k109 x110 k111 x112 k113 x114 x115 w116 f119 f120 f121 f122 f123 f124 k127 k128 x129 x130 x131 k132 k133 f134 z106 z107 z108 n146 r151 rplaceG_397 rfaultKindG_403 rfaultPlaceG_404 iv_rreader_0 iv_rreader_1 iv_rreader_2 iv_rreader_3 hTC hRT hgl j135 j136 j137 j138 j139 j140 j141 j142 j143 j144 jRT jCS jSW jTB jPL j2k jLe hm148 c149 c150 p152 c159 p407 t416 t417 t418)⟩), p407, p408, j139, j140, j141, j142, j143, j144⟩, by rw [ht9]; exact hP, va_K.moved hW9.alike hK, hD⟩, hS.F ht9⟩) hS.2.2 dX8_read_155
          · refine r_ti (nI 5) c160 ?_
            rw [c160] at hl
            refine lv_tableIn (off := 87) (tgt := 120) hx hb dX8_read_33 (by decide) (by decide) rfl (by decide) ?_
            refine lv_aload_n hx hb dX8_read_120 rfl (lv_at hl 2 rfl) ?_
            refine lv_aload_n hx hb dX8_read_121 rfl (lv_at hl 3 rfl) ?_
            refine lv_aload_n hx hb dX8_read_122 rfl (lv_at hl 4 rfl) ?_
            refine lv_iload hx hb dX8_read_123 (lv_at hl 0 rfl) ?_
            refine r_call_i (wr := []) (va_runV (As := [.ref reader, .ref a, .int (nI 5)]) (rest := []) ⟨hx, hb, hml, hown, hts⟩ (c_f_readSetting5 l dC dI ky H.size adK adV st x110 bt reader rtape rlength rmostBytes k111 x112 k113 x114 x115 w116 x117 x118 rtapeF a k127 k128 x129 x130 x131 todayG_8 stirsG_9 stepsG_10 k132 k133 thickness lumpNames lumpCells boatNames boatCells loads spoons spoonsLeft depths f134 f119 f120 f121 f122 f123 f124 f125 f126 z106 z107 z108 iv_rreader_0 j138 iv_rreader_2 j137 hTC j139 j140 j141 j142 j143 j144 jRT jCS jSW jTB) (cwV 3 hts gX8_read_X8_readSetting rfl rfl rfl (by decide +kernel) ⟨(Nat.le_of_ble_eq_true rfl), (Nat.le_of_ble_eq_true rfl)⟩) (pre_UEV hE hS hA hK hP hD [0, 1, 2, 11, 12, 3, 4, 5, 6, 7, 8, 9, 10] (by decide) rfl (va_recv hK hP (ci := 8) (q0 := 0) rfl rfl)) rfl rfl hl.1 rfl (lv_room (Nat.le_of_ble_eq_true rfl)) dX8_read_125 ⟨(Nat.le_of_ble_eq_true rfl), (Nat.le_of_ble_eq_true rfl)⟩) hP hD hS hA [0, 1, 2, 11, 12, 3, 4, 5, 6, 7, 8, 9, 10] [] rfl rfl (by decide) (by decide) (fun r448 u446 H locs p447 hP hD hS => ?_)
            obtain ⟨rplaceG_449, rkindG_450, rbeginG_451, rwordG_452, rnumberG_453, rlettersG_454, rfaultKindG_455, rfaultPlaceG_456, coolsG_457⟩ := u446
            try dsimp only at p447
            obtain ⟨p458, p459, p460⟩ := p447
            refine W.widen (k := 0) (n := 0) (Nat.le_of_ble_eq_true rfl) (Nat.le_of_ble_eq_true rfl) ?_
            have hP : va_P (dC, dI) vwCl [(st, .inr (8, [.int x110])), (reader, .inr (5, [.ref rtape, .int (nI rlength), .int (nI rmostBytes), .int (nI rplaceG_449), .int rkindG_450, .int (nI rbeginG_451), .int rwordG_452, .int rnumberG_453, .long rlettersG_454, .int rfaultKindG_455, .int rfaultPlaceG_456])), (rtape, .inl (ky 2, 940, .inl rtapeF)), (a, .inr (7, [.int (nI k127), .int (nI k128), .int x129, .int coolsG_457, .int x131, .int todayG_8, .int stirsG_9, .int stepsG_10, .int (nI k132), .int (nI k133), .ref thickness, .ref lumpNames, .ref lumpCells, .ref boatNames, .ref boatCells, .ref loads, .ref spoons, .ref spoonsLeft, .ref depths])), (thickness, .inl (ky 0, 36, .inl f134)), (lumpNames, .inl (ky 1, 6, .inr (.inl f119))), (lumpCells, .inl (ky 0, 6, .inl f120)), (boatNames, .inl (ky 1, 6, .inr (.inl f121))), (boatCells, .inl (ky 0, 6, .inl f122)), (loads, .inl (ky 0, 6, .inl f123)), (spoons, .inl (ky 0, 6, .inl f124)), (spoonsLeft, .inl (ky 0, 6, .inl f125)), (depths, .inl (ky 0, 6, .inl f126))] H := hP
            have hD : va_D A [(st, .inr (8, [.int x110])), (reader, .inr (5, [.ref rtape, .int (nI rlength), .int (nI rmostBytes), .int (nI rplaceG_449), .int rkindG_450, .int (nI rbeginG_451), .int rwordG_452, .int rnumberG_453, .long rlettersG_454, .int rfaultKindG_455, .int rfaultPlaceG_456])), (rtape, .inl (ky 2, 940, .inl rtapeF)), (a, .inr (7, [.int (nI k127), .int (nI k128), .int x129, .int coolsG_457, .int x131, .int todayG_8, .int stirsG_9, .int stepsG_10, .int (nI k132), .int (nI k133), .ref thickness, .ref lumpNames, .ref lumpCells, .ref boatNames, .ref boatCells, .ref loads, .ref spoons, .ref spoonsLeft, .ref depths])), (thickness, .inl (ky 0, 36, .inl f134)), (lumpNames, .inl (ky 1, 6, .inr (.inl f119))), (lumpCells, .inl (ky 0, 6, .inl f120)), (boatNames, .inl (ky 1, 6, .inr (.inl f121))), (boatCells, .inl (ky 0, 6, .inl f122)), (loads, .inl (ky 0, 6, .inl f123)), (spoons, .inl (ky 0, 6, .inl f124)), (spoonsLeft, .inl (ky 0, 6, .inl f125)), (depths, .inl (ky 0, 6, .inl f126))] := hD
            rcases p458 with ⟨rfl, t461, t462, t463, t464, t465, t466, t467⟩ | ⟨rfl, t468, t469, t470⟩
            · refine lv_istore (lv' := [(5, .int (nI 1)), (4, .int (nI 5)), (3, .int (nI k109)), (0, .ref st), (1, .ref reader), (2, .ref a)]) hx hb dX8_read_128 hl (by decide) rfl (fun ls hl => ?_)
              refine lv_goto (tgt := 140) hx hb dX8_read_130 (by decide) ?_
              refine lv_iload hx hb dX8_read_140 (lv_at hl 0 rfl) ?_
              refine lv_if_eq (tgt := 154) hx hb dX8_read_142 (by decide) (fun c471 => absurd c471 (by decide)) (fun c471 => ?_)
              refine lv_aload_n hx hb dX8_read_145 rfl (lv_at hl 4 rfl) ?_
              refine lv_bipush (v := nI 59) hx hb dX8_read_146 (by decide) ?_
              refine r_call_i (wr := [(st, .inr (8, [.int x110])), (a, .inr (7, [.int (nI k127), .int (nI k128), .int x129, .int coolsG_457, .int x131, .int todayG_8, .int stirsG_9, .int stepsG_10, .int (nI k132), .int (nI k133), .ref thickness, .ref lumpNames, .ref lumpCells, .ref boatNames, .ref boatCells, .ref loads, .ref spoons, .ref spoonsLeft, .ref depths])), (thickness, .inl (ky 0, 36, .inl f134)), (lumpNames, .inl (ky 1, 6, .inr (.inl f119))), (lumpCells, .inl (ky 0, 6, .inl f120)), (boatNames, .inl (ky 1, 6, .inr (.inl f121))), (boatCells, .inl (ky 0, 6, .inl f122)), (loads, .inl (ky 0, 6, .inl f123)), (spoons, .inl (ky 0, 6, .inl f124)), (spoonsLeft, .inl (ky 0, 6, .inl f125)), (depths, .inl (ky 0, 6, .inl f126))]) (va_runV (As := [.int (nI 59)]) (rest := []) ⟨hx, hb, hml, hown, hts⟩ (c_f_takeSign l dC dI ky H.size adK adV bt reader rtape rlength rmostBytes rplaceG_449 rkindG_450 rbeginG_451 rwordG_452 rnumberG_453 rlettersG_454 rfaultKindG_455 rfaultPlaceG_456 rtapeF (lrP (pSet bt rlength rmostBytes z106 z107 z108 5 5)) (nI 59) iv_rreader_0 p459 iv_rreader_2 p460 hTC t462) (cwV 1 hts gX8_read_X5_takeSign rfl rfl rfl (by decide +kernel) ⟨(Nat.le_of_ble_eq_true rfl), (Nat.le_of_ble_eq_true rfl)⟩) (pre_UEV hE hS hA hK hP hD [1, 2] (by decide) rfl (va_recv hK hP (ci := 5) (q0 := 1) rfl rfl)) rfl rfl hl.1 rfl (lv_room (Nat.le_of_ble_eq_true rfl)) dX8_read_148 ⟨(Nat.le_of_ble_eq_true rfl), (Nat.le_of_ble_eq_true rfl)⟩) hP hD hS hA [1, 2] [0, 3, 4, 5, 6, 7, 8, 9, 10, 11, 12] rfl rfl (by decide) (by decide) (fun r474 u472 H locs p473 hP hD hS => ?_)
              obtain ⟨rplaceG_475, rkindG_476, rbeginG_477, rwordG_478, rnumberG_479, rlettersG_480, rfaultKindG_481, rfaultPlaceG_482⟩ := u472
              try dsimp only at p473
              obtain ⟨p483, p484, p485⟩ := p473
              refine W.widen (k := 0) (n := 0) (Nat.le_of_ble_eq_true rfl) (Nat.le_of_ble_eq_true rfl) ?_
              have hP : va_P (dC, dI) vwCl [(st, .inr (8, [.int x110])), (a, .inr (7, [.int (nI k127), .int (nI k128), .int x129, .int coolsG_457, .int x131, .int todayG_8, .int stirsG_9, .int stepsG_10, .int (nI k132), .int (nI k133), .ref thickness, .ref lumpNames, .ref lumpCells, .ref boatNames, .ref boatCells, .ref loads, .ref spoons, .ref spoonsLeft, .ref depths])), (thickness, .inl (ky 0, 36, .inl f134)), (lumpNames, .inl (ky 1, 6, .inr (.inl f119))), (lumpCells, .inl (ky 0, 6, .inl f120)), (boatNames, .inl (ky 1, 6, .inr (.inl f121))), (boatCells, .inl (ky 0, 6, .inl f122)), (loads, .inl (ky 0, 6, .inl f123)), (spoons, .inl (ky 0, 6, .inl f124)), (spoonsLeft, .inl (ky 0, 6, .inl f125)), (depths, .inl (ky 0, 6, .inl f126)), (reader, .inr (5, [.ref rtape, .int (nI rlength), .int (nI rmostBytes), .int (nI rplaceG_475), .int rkindG_476, .int (nI rbeginG_477), .int rwordG_478, .int rnumberG_479, .long rlettersG_480, .int rfaultKindG_481, .int rfaultPlaceG_482])), (rtape, .inl (ky 2, 940, .inl rtapeF))] H := hP
              have hD : va_D A [(st, .inr (8, [.int x110])), (a, .inr (7, [.int (nI k127), .int (nI k128), .int x129, .int coolsG_457, .int x131, .int todayG_8, .int stirsG_9, .int stepsG_10, .int (nI k132), .int (nI k133), .ref thickness, .ref lumpNames, .ref lumpCells, .ref boatNames, .ref boatCells, .ref loads, .ref spoons, .ref spoonsLeft, .ref depths])), (thickness, .inl (ky 0, 36, .inl f134)), (lumpNames, .inl (ky 1, 6, .inr (.inl f119))), (lumpCells, .inl (ky 0, 6, .inl f120)), (boatNames, .inl (ky 1, 6, .inr (.inl f121))), (boatCells, .inl (ky 0, 6, .inl f122)), (loads, .inl (ky 0, 6, .inl f123)), (spoons, .inl (ky 0, 6, .inl f124)), (spoonsLeft, .inl (ky 0, 6, .inl f125)), (depths, .inl (ky 0, 6, .inl f126)), (reader, .inr (5, [.ref rtape, .int (nI rlength), .int (nI rmostBytes), .int (nI rplaceG_475), .int rkindG_476, .int (nI rbeginG_477), .int rwordG_478, .int rnumberG_479, .long rlettersG_480, .int rfaultKindG_481, .int rfaultPlaceG_482])), (rtape, .inl (ky 2, 940, .inl rtapeF))] := hD
              rcases p483 with ⟨rfl, t486, t487, t488, t489⟩ | ⟨rfl, t490, t491, t492⟩
              · refine lv_if_ne (tgt := 156) hx hb dX8_read_151 (by decide) (fun c493 => ?_) (fun c493 => absurd c493 (by decide))
                refine lv_aload_n hx hb dX8_read_156 rfl (lv_at hl 3 rfl) ?_
                refine lv_dup hx hb dX8_read_157 rfl ?_
                refine va_get (D := (dC, dI)) (ci := 8) (v := .int x110) (C := RX8) (T := TX8) (N := 1) hx hb hts hin8 hown hK hP 0 rfl rfl 0 (by decide) (hts (.fieldLink RX8 16 "PorridgeSea$SeaText" "toldWords" "I") (List.mem_of_getElem? (i := 1) rfl)) (fun _ h9 => h9) rfl dX8_read_158 ?_
                refine lv_iconst (v := nI 1) hx hb dX8_read_161 (by decide) ?_
                refine lv_iload hx hb dX8_read_162 (lv_at hl 1 rfl) ?_
                refine lv_ishl hx hb dX8_read_164 ?_
                refine r_ti (nI 32) (by decide) ?_
                refine lv_ior hx hb dX8_read_165 ?_
                refine lv_topi (fun y494 e495 => ?_)
                refine va_put (D := (dC, dI)) (ci := 8) (v := .int y494) (ty := .int) (C := RX8) (T := TX8) (N := 1) hx hb hts hin8 tyX8 tyX8_ok nmX8 hown hK hP hD hS 0 rfl rfl 0 (by decide) (hts (.fieldLink RX8 16 "PorridgeSea$SeaText" "toldWords" "I") (List.mem_of_getElem? (i := 1) rfl)) (fun _ h9 => h9) rfl (by decide +kernel) rfl rfl (Nat.le_of_ble_eq_true rfl) dX8_read_166 (fun H locs hP hD hS => ?_)
                have hP : va_P (dC, dI) vwCl [(st, .inr (8, [.int y494])), (a, .inr (7, [.int (nI k127), .int (nI k128), .int x129, .int coolsG_457, .int x131, .int todayG_8, .int stirsG_9, .int stepsG_10, .int (nI k132), .int (nI k133), .ref thickness, .ref lumpNames, .ref lumpCells, .ref boatNames, .ref boatCells, .ref loads, .ref spoons, .ref spoonsLeft, .ref depths])), (thickness, .inl (ky 0, 36, .inl f134)), (lumpNames, .inl (ky 1, 6, .inr (.inl f119))), (lumpCells, .inl (ky 0, 6, .inl f120)), (boatNames, .inl (ky 1, 6, .inr (.inl f121))), (boatCells, .inl (ky 0, 6, .inl f122)), (loads, .inl (ky 0, 6, .inl f123)), (spoons, .inl (ky 0, 6, .inl f124)), (spoonsLeft, .inl (ky 0, 6, .inl f125)), (depths, .inl (ky 0, 6, .inl f126)), (reader, .inr (5, [.ref rtape, .int (nI rlength), .int (nI rmostBytes), .int (nI rplaceG_475), .int rkindG_476, .int (nI rbeginG_477), .int rwordG_478, .int rnumberG_479, .long rlettersG_480, .int rfaultKindG_481, .int rfaultPlaceG_482])), (rtape, .inl (ky 2, 940, .inl rtapeF))] H := hP
                have hD : va_D A [(st, .inr (8, [.int y494])), (a, .inr (7, [.int (nI k127), .int (nI k128), .int x129, .int coolsG_457, .int x131, .int todayG_8, .int stirsG_9, .int stepsG_10, .int (nI k132), .int (nI k133), .ref thickness, .ref lumpNames, .ref lumpCells, .ref boatNames, .ref boatCells, .ref loads, .ref spoons, .ref spoonsLeft, .ref depths])), (thickness, .inl (ky 0, 36, .inl f134)), (lumpNames, .inl (ky 1, 6, .inr (.inl f119))), (lumpCells, .inl (ky 0, 6, .inl f120)), (boatNames, .inl (ky 1, 6, .inr (.inl f121))), (boatCells, .inl (ky 0, 6, .inl f122)), (loads, .inl (ky 0, 6, .inl f123)), (spoons, .inl (ky 0, 6, .inl f124)), (spoonsLeft, .inl (ky 0, 6, .inl f125)), (depths, .inl (ky 0, 6, .inl f126)), (reader, .inr (5, [.ref rtape, .int (nI rlength), .int (nI rmostBytes), .int (nI rplaceG_475), .int rkindG_476, .int (nI rbeginG_477), .int rwordG_478, .int rnumberG_479, .long rlettersG_480, .int rfaultKindG_481, .int rfaultPlaceG_482])), (rtape, .inl (ky 2, 940, .inl rtapeF))] := hD
                refine lv_iinc (v := nI (k109 + 1)) (lv' := [(3, .int (nI (k109 + 1))), (5, .int (nI 1)), (4, .int (nI 5)), (0, .ref st), (1, .ref reader), (2, .ref a)]) hx hb dX8_read_169 hl (k := 2) rfl (show nI k109 + nI 1 = nI (k109 + 1) from nI_add _ _) (by decide) rfl (fun ls hl => ?_)
                refine lv_goto (tgt := 11) hx hb dX8_read_172 (by decide) ?_
                exact ih147 (k109 + 1) y494 rplaceG_475 rkindG_476 rbeginG_477 rwordG_478 rnumberG_479 rlettersG_480 rfaultKindG_481 rfaultPlaceG_482 f119 f120 f121 f122 f123 f124 f125 f126 k127 k128 x129 coolsG_457 x131 k132 k133 f134 (tT bt rlength rmostBytes (lrP (pSet bt rlength rmostBytes z106 z107 z108 5 5))) (lrS (pSet bt rlength rmostBytes z106 z107 z108 5 5)) (lrN (pSet bt rlength rmostBytes z106 z107 z108 5 5)) (lf_f_read_54 bt rlength rmostBytes rplace rkind rbegin rword rnumber rletters rtapeF gp k109 x110 k111 x112 k113 x114 x115 w116 f119 f120 f121 f122 f123 f124 k127 k128 x129 x130 x131 k132 k133 f134 z106 z107 z108 n146 r151 rplaceG_449 rkindG_450 rbeginG_451 rwordG_452 rnumberG_453 rlettersG_454 coolsG_457 rplaceG_475 rkindG_476 rbeginG_477 rwordG_478 rnumberG_479 rlettersG_480 y494 iv_rreader_0 iv_rreader_1 iv_rreader_2 iv_rreader_3 hTC hRT hgl j135 j136 j137 j138 j139 j140 j141 j142 j143 j144 jRT jCS jSW jTB jPL j2k jLe hm148 c149 c150 p152 c160 p459 p460 t461 t462 t463 t464 t467 p484 p485 t486 t487 e495) (lf_f_read_55 bt rlength rmostBytes rplace rkind rbegin rword rnumber rletters rtapeF gp k109 x110 k111 x112 k113 x114 x115 w116 f119 f120 f121 f122 f123 f124 k127 k128 x129 x130 x131 k132 k133 f134 z106 z107 z108 n146 r151 rplaceG_449 rkindG_450 rbeginG_451 rwordG_452 rnumberG_453 rlettersG_454 coolsG_457 rplaceG_475 rkindG_476 rbeginG_477 rwordG_478 rnumberG_479 rlettersG_480 y494 iv_rreader_0 iv_rreader_1 iv_rreader_2 iv_rreader_3 hTC hRT hgl j135 j136 j137 j138 j139 j140 j141 j142 j143 j144 jRT jCS jSW jTB jPL j2k jLe hm148 c149 c150 p152 c160 p459 p460 t461 t462 t463 t464 t467 p484 p485 t486 t487 e495) p485 p484 j139 j140 j141 j142 j143 j144 t487 t463 t464 (lf_f_read_56 bt rlength rmostBytes rplace rkind rbegin rword rnumber rletters rtapeF gp k109 x110 k111 x112 k113 x114 x115 w116 f119 f120 f121 f122 f123 f124 k127 k128 x129 x130 x131 k132 k133 f134 z106 z107 z108 n146 r151 rplaceG_449 rkindG_450 rbeginG_451 rwordG_452 rnumberG_453 rlettersG_454 coolsG_457 rplaceG_475 rkindG_476 rbeginG_477 rwordG_478 rnumberG_479 rlettersG_480 y494 iv_rreader_0 iv_rreader_1 iv_rreader_2 iv_rreader_3 hTC hRT hgl j135 j136 j137 j138 j139 j140 j141 j142 j143 j144 jRT jCS jSW jTB jPL j2k jLe hm148 c149 c150 p152 c160 p459 p460 t461 t462 t463 t464 t467 p484 p485 t486 t487 e495) (lf_f_read_57 bt rlength rmostBytes rplace rkind rbegin rword rnumber rletters rtapeF gp k109 x110 k111 x112 k113 x114 x115 w116 f119 f120 f121 f122 f123 f124 k127 k128 x129 x130 x131 k132 k133 f134 z106 z107 z108 n146 r151 rplaceG_449 rkindG_450 rbeginG_451 rwordG_452 rnumberG_453 rlettersG_454 coolsG_457 rplaceG_475 rkindG_476 rbeginG_477 rwordG_478 rnumberG_479 rlettersG_480 y494 iv_rreader_0 iv_rreader_1 iv_rreader_2 iv_rreader_3 hTC hRT hgl j135 j136 j137 j138 j139 j140 j141 j142 j143 j144 jRT jCS jSW jTB jPL j2k jLe hm148 c149 c150 p152 c160 p459 p460 t461 t462 t463 t464 t467 p484 p485 t486 t487 e495) (lf_f_read_58 bt rlength rmostBytes rplace rkind rbegin rword rnumber rletters rtapeF gp k109 x110 k111 x112 k113 x114 x115 w116 f119 f120 f121 f122 f123 f124 k127 k128 x129 x130 x131 k132 k133 f134 z106 z107 z108 n146 r151 rplaceG_449 rkindG_450 rbeginG_451 rwordG_452 rnumberG_453 rlettersG_454 coolsG_457 rplaceG_475 rkindG_476 rbeginG_477 rwordG_478 rnumberG_479 rlettersG_480 y494 iv_rreader_0 iv_rreader_1 iv_rreader_2 iv_rreader_3 hTC hRT hgl j135 j136 j137 j138 j139 j140 j141 j142 j143 j144 jRT jCS jSW jTB jPL j2k jLe hm148 c149 c150 p152 c160 p459 p460 t461 t462 t463 t464 t467 p484 p485 t486 t487 e495) (lf_f_read_59 bt rlength rmostBytes rplace rkind rbegin rword rnumber rletters rtapeF gp k109 x110 k111 x112 k113 x114 x115 w116 f119 f120 f121 f122 f123 f124 k127 k128 x129 x130 x131 k132 k133 f134 z106 z107 z108 n146 r151 rplaceG_449 rkindG_450 rbeginG_451 rwordG_452 rnumberG_453 rlettersG_454 coolsG_457 rplaceG_475 rkindG_476 rbeginG_477 rwordG_478 rnumberG_479 rlettersG_480 y494 iv_rreader_0 iv_rreader_1 iv_rreader_2 iv_rreader_3 hTC hRT hgl j135 j136 j137 j138 j139 j140 j141 j142 j143 j144 jRT jCS jSW jTB jPL j2k jLe hm148 c149 c150 p152 c160 p459 p460 t461 t462 t463 t464 t467 p484 p485 t486 t487 e495) (lf_f_read_60 adK adV st qtoldWords bt reader rtape rlength rmostBytes rplace rkind rbegin rword rnumber rletters rfaultKind rfaultPlace rtapeF a wide high heat cools skinHeat today stirs steps lumps boats thickness lumpNames lumpCells boatNames boatCells loads spoons spoonsLeft depths thicknessF lumpNamesF lumpCellsF boatNamesF boatCellsF loadsF spoonsF spoonsLeftF depthsF gp wideG_3 highG_4 heatG_5 coolsG_6 skinHeatG_7 todayG_8 stirsG_9 stepsG_10 lumpsG_11 boatsG_12 thicknessG_13 k109 x110 k111 x112 k113 x114 x115 w116 x117 x118 f119 f120 f121 f122 f123 f124 f125 f126 k127 k128 x129 x130 x131 k132 k133 f134 z106 z107 z108 n146 r151 rplaceG_449 rkindG_450 rbeginG_451 rwordG_452 rnumberG_453 rlettersG_454 rfaultKindG_455 rfaultPlaceG_456 coolsG_457 rplaceG_475 rkindG_476 rbeginG_477 rwordG_478 rnumberG_479 rlettersG_480 rfaultKindG_481 rfaultPlaceG_482 y494 iv_rreader_0 iv_rreader_1 iv_rreader_2 iv_rreader_3 hTC iv_a_0 iv_a_1 iv_a_2 iv_a_3 iv_a_4 iv_a_5 hRT hgl p14 p15 p16 p17 p18 p19 p20 p21 p22 p23 p24 p25 p26 p27 j135 j136 j137 j138 j139 j140 j141 j142 j143 j144 jRT jCS jSW jTB jPL j2k jLe jFk hm148 c149 c150 p152 c160 p459 p460 t461 t462 t463 t464 t465 t466 t467 p484 p485 t486 t487 t488 t489 e495) (lf_f_read_61 bt rlength rmostBytes rplace rkind rbegin rword rnumber rletters rtapeF gp k109 x110 k111 x112 k113 x114 x115 w116 f119 f120 f121 f122 f123 f124 k127 k128 x129 x130 x131 k132 k133 f134 z106 z107 z108 n146 r151 rplaceG_449 rkindG_450 rbeginG_451 rwordG_452 rnumberG_453 rlettersG_454 coolsG_457 rplaceG_475 rkindG_476 rbeginG_477 rwordG_478 rnumberG_479 rlettersG_480 y494 iv_rreader_0 iv_rreader_1 iv_rreader_2 iv_rreader_3 hTC hRT hgl j135 j136 j137 j138 j139 j140 j141 j142 j143 j144 jRT jCS jSW jTB jPL j2k jLe hm148 c149 c150 p152 c160 p459 p460 t461 t462 t463 t464 t467 p484 p485 t486 t487 e495) _ _ _ (hP.sub [0, 11, 12, 3, 4, 5, 6, 7, 8, 9, 10, 1, 2] rfl) (hD.sub [0, 11, 12, 3, 4, 5, 6, 7, 8, 9, 10, 1, 2] (by decide) rfl) hS (lv_sub hl [0, 3, 4, 5] rfl)
              · refine lv_if_ne (tgt := 156) hx hb dX8_read_151 (by decide) (fun c496 => absurd c496 (by decide)) (fun c496 => ?_)
                refine lv_iconst (v := (-1 : Int32)) hx hb dX8_read_154 (by decide) ?_
                rw [hQ]
                have hP9 := hP.sub (ws' := [(st, .inr (8, [.int x110])), (reader, .inr (5, [.ref rtape, .int (nI rlength), .int (nI rmostBytes), .int (nI rplaceG_475), .int rkindG_476, .int (nI rbeginG_477), .int rwordG_478, .int rnumberG_479, .long rlettersG_480, .int rfaultKindG_481, .int rfaultPlaceG_482])), (rtape, .inl (ky 2, 940, .inl rtapeF)), (a, .inr (7, [.int (nI k127), .int (nI k128), .int x129, .int coolsG_457, .int x131, .int todayG_8, .int stirsG_9, .int stepsG_10, .int (nI k132), .int (nI k133), .ref thickness, .ref lumpNames, .ref lumpCells, .ref boatNames, .ref boatCells, .ref loads, .ref spoons, .ref spoonsLeft, .ref depths])), (thickness, .inl (ky 0, 36, .inl f134)), (lumpNames, .inl (ky 1, 6, .inr (.inl f119))), (lumpCells, .inl (ky 0, 6, .inl f120)), (boatNames, .inl (ky 1, 6, .inr (.inl f121))), (boatCells, .inl (ky 0, 6, .inl f122)), (loads, .inl (ky 0, 6, .inl f123)), (spoons, .inl (ky 0, 6, .inl f124)), (spoonsLeft, .inl (ky 0, 6, .inl f125)), (depths, .inl (ky 0, 6, .inl f126))]) [0, 11, 12, 1, 2, 3, 4, 5, 6, 7, 8, 9, 10] rfl
                have hD9 := hD.sub (ws' := [(st, .inr (8, [.int x110])), (reader, .inr (5, [.ref rtape, .int (nI rlength), .int (nI rmostBytes), .int (nI rplaceG_475), .int rkindG_476, .int (nI rbeginG_477), .int rwordG_478, .int rnumberG_479, .long rlettersG_480, .int rfaultKindG_481, .int rfaultPlaceG_482])), (rtape, .inl (ky 2, 940, .inl rtapeF)), (a, .inr (7, [.int (nI k127), .int (nI k128), .int x129, .int coolsG_457, .int x131, .int todayG_8, .int stirsG_9, .int stepsG_10, .int (nI k132), .int (nI k133), .ref thickness, .ref lumpNames, .ref lumpCells, .ref boatNames, .ref boatCells, .ref loads, .ref spoons, .ref spoonsLeft, .ref depths])), (thickness, .inl (ky 0, 36, .inl f134)), (lumpNames, .inl (ky 1, 6, .inr (.inl f119))), (lumpCells, .inl (ky 0, 6, .inl f120)), (boatNames, .inl (ky 1, 6, .inr (.inl f121))), (boatCells, .inl (ky 0, 6, .inl f122)), (loads, .inl (ky 0, 6, .inl f123)), (spoons, .inl (ky 0, 6, .inl f124)), (spoonsLeft, .inl (ky 0, 6, .inl f125)), (depths, .inl (ky 0, 6, .inl f126))]) [0, 11, 12, 1, 2, 3, 4, 5, 6, 7, 8, 9, 10] (by decide) rfl
                exact W.iret (v := (-1 : Int32)) hx hb hr (fun t9 ht9 hW9 => ⟨⟨(-1 : Int32), (x110, rplaceG_475, rkindG_476, rbeginG_477, rwordG_478, rnumberG_479, rlettersG_480, rfaultKindG_481, rfaultPlaceG_482, k127, k128, x129, coolsG_457, x131, todayG_8, stirsG_9, stepsG_10, k132, k133, f134, f119, f120, f121, f122, f123, f124, f125, f126), rfl, ⟨(Or.inl ⟨rfl, (lf_f_read_62 bt rlength rmostBytes rplace rkind rbegin rword rnumber rletters rtapeF gp k109 x110 k111 x112 k113 x114 x115 w116 f119 f120 f121 f122 f123 f124 k127 k128 x129 x130 x131 k132 k133 f134 z106 z107 z108 n146 r151 rplaceG_449 rkindG_450 rbeginG_451 rwordG_452 rnumberG_453 rlettersG_454 coolsG_457 rplaceG_475 rfaultKindG_481 rfaultPlaceG_482 iv_rreader_0 iv_rreader_1 iv_rreader_2 iv_rreader_3 hTC hRT hgl j135 j136 j137 j138 j139 j140 j141 j142 j143 j144 jRT jCS jSW jTB jPL j2k jLe hm148 c149 c150 p152 c160 p459 p460 t461 t462 t463 t464 t467 p484 t490 t491 t492)⟩), p484, p485, j139, j140, j141, j142, j143, j144⟩, by rw [ht9]; exact hP9, va_K.moved hW9.alike hK, hD9⟩, hS.F ht9⟩) hS.2.2 dX8_read_155
            · refine lv_istore (lv' := [(5, .int (nI 0)), (4, .int (nI 5)), (3, .int (nI k109)), (0, .ref st), (1, .ref reader), (2, .ref a)]) hx hb dX8_read_128 hl (by decide) rfl (fun ls hl => ?_)
              refine lv_goto (tgt := 140) hx hb dX8_read_130 (by decide) ?_
              refine lv_iload hx hb dX8_read_140 (lv_at hl 0 rfl) ?_
              refine lv_if_eq (tgt := 154) hx hb dX8_read_142 (by decide) (fun c497 => ?_) (fun c497 => absurd (by decide) c497)
              refine lv_iconst (v := (-1 : Int32)) hx hb dX8_read_154 (by decide) ?_
              rw [hQ]
              exact W.iret (v := (-1 : Int32)) hx hb hr (fun t9 ht9 hW9 => ⟨⟨(-1 : Int32), (x110, rplaceG_449, rkindG_450, rbeginG_451, rwordG_452, rnumberG_453, rlettersG_454, rfaultKindG_455, rfaultPlaceG_456, k127, k128, x129, coolsG_457, x131, todayG_8, stirsG_9, stepsG_10, k132, k133, f134, f119, f120, f121, f122, f123, f124, f125, f126), rfl, ⟨(Or.inl ⟨rfl, (lf_f_read_63 bt rlength rmostBytes rplace rkind rbegin rword rnumber rletters rtapeF gp k109 x110 k111 x112 k113 x114 x115 w116 f119 f120 f121 f122 f123 f124 k127 k128 x129 x130 x131 k132 k133 f134 z106 z107 z108 n146 r151 rplaceG_449 rfaultKindG_455 rfaultPlaceG_456 iv_rreader_0 iv_rreader_1 iv_rreader_2 iv_rreader_3 hTC hRT hgl j135 j136 j137 j138 j139 j140 j141 j142 j143 j144 jRT jCS jSW jTB jPL j2k jLe hm148 c149 c150 p152 c160 p459 t468 t469 t470)⟩), p459, p460, j139, j140, j141, j142, j143, j144⟩, by rw [ht9]; exact hP, va_K.moved hW9.alike hK, hD⟩, hS.F ht9⟩) hS.2.2 dX8_read_155
          · refine r_ti (nI 6) c161 ?_
            rw [c161] at hl
            refine lv_tableIn (off := 87) (tgt := 120) hx hb dX8_read_33 (by decide) (by decide) rfl (by decide) ?_
            refine lv_aload_n hx hb dX8_read_120 rfl (lv_at hl 2 rfl) ?_
            refine lv_aload_n hx hb dX8_read_121 rfl (lv_at hl 3 rfl) ?_
            refine lv_aload_n hx hb dX8_read_122 rfl (lv_at hl 4 rfl) ?_
            refine lv_iload hx hb dX8_read_123 (lv_at hl 0 rfl) ?_
            refine r_call_i (wr := []) (va_runV (As := [.ref reader, .ref a, .int (nI 6)]) (rest := []) ⟨hx, hb, hml, hown, hts⟩ (c_f_readSetting6 l dC dI ky H.size adK adV st x110 bt reader rtape rlength rmostBytes k111 x112 k113 x114 x115 w116 x117 x118 rtapeF a k127 k128 x129 x130 x131 todayG_8 stirsG_9 stepsG_10 k132 k133 thickness lumpNames lumpCells boatNames boatCells loads spoons spoonsLeft depths f134 f119 f120 f121 f122 f123 f124 f125 f126 z106 z107 z108 iv_rreader_0 j138 iv_rreader_2 j137 hTC j139 j140 j141 j142 j143 j144 jRT jCS jSW jTB) (cwV 3 hts gX8_read_X8_readSetting rfl rfl rfl (by decide +kernel) ⟨(Nat.le_of_ble_eq_true rfl), (Nat.le_of_ble_eq_true rfl)⟩) (pre_UEV hE hS hA hK hP hD [0, 1, 2, 11, 12, 3, 4, 5, 6, 7, 8, 9, 10] (by decide) rfl (va_recv hK hP (ci := 8) (q0 := 0) rfl rfl)) rfl rfl hl.1 rfl (lv_room (Nat.le_of_ble_eq_true rfl)) dX8_read_125 ⟨(Nat.le_of_ble_eq_true rfl), (Nat.le_of_ble_eq_true rfl)⟩) hP hD hS hA [0, 1, 2, 11, 12, 3, 4, 5, 6, 7, 8, 9, 10] [] rfl rfl (by decide) (by decide) (fun r500 u498 H locs p499 hP hD hS => ?_)
            obtain ⟨rplaceG_501, rkindG_502, rbeginG_503, rwordG_504, rnumberG_505, rlettersG_506, rfaultKindG_507, rfaultPlaceG_508, skinHeatG_509⟩ := u498
            try dsimp only at p499
            obtain ⟨p510, p511, p512⟩ := p499
            refine W.widen (k := 0) (n := 0) (Nat.le_of_ble_eq_true rfl) (Nat.le_of_ble_eq_true rfl) ?_
            have hP : va_P (dC, dI) vwCl [(st, .inr (8, [.int x110])), (reader, .inr (5, [.ref rtape, .int (nI rlength), .int (nI rmostBytes), .int (nI rplaceG_501), .int rkindG_502, .int (nI rbeginG_503), .int rwordG_504, .int rnumberG_505, .long rlettersG_506, .int rfaultKindG_507, .int rfaultPlaceG_508])), (rtape, .inl (ky 2, 940, .inl rtapeF)), (a, .inr (7, [.int (nI k127), .int (nI k128), .int x129, .int x130, .int skinHeatG_509, .int todayG_8, .int stirsG_9, .int stepsG_10, .int (nI k132), .int (nI k133), .ref thickness, .ref lumpNames, .ref lumpCells, .ref boatNames, .ref boatCells, .ref loads, .ref spoons, .ref spoonsLeft, .ref depths])), (thickness, .inl (ky 0, 36, .inl f134)), (lumpNames, .inl (ky 1, 6, .inr (.inl f119))), (lumpCells, .inl (ky 0, 6, .inl f120)), (boatNames, .inl (ky 1, 6, .inr (.inl f121))), (boatCells, .inl (ky 0, 6, .inl f122)), (loads, .inl (ky 0, 6, .inl f123)), (spoons, .inl (ky 0, 6, .inl f124)), (spoonsLeft, .inl (ky 0, 6, .inl f125)), (depths, .inl (ky 0, 6, .inl f126))] H := hP
            have hD : va_D A [(st, .inr (8, [.int x110])), (reader, .inr (5, [.ref rtape, .int (nI rlength), .int (nI rmostBytes), .int (nI rplaceG_501), .int rkindG_502, .int (nI rbeginG_503), .int rwordG_504, .int rnumberG_505, .long rlettersG_506, .int rfaultKindG_507, .int rfaultPlaceG_508])), (rtape, .inl (ky 2, 940, .inl rtapeF)), (a, .inr (7, [.int (nI k127), .int (nI k128), .int x129, .int x130, .int skinHeatG_509, .int todayG_8, .int stirsG_9, .int stepsG_10, .int (nI k132), .int (nI k133), .ref thickness, .ref lumpNames, .ref lumpCells, .ref boatNames, .ref boatCells, .ref loads, .ref spoons, .ref spoonsLeft, .ref depths])), (thickness, .inl (ky 0, 36, .inl f134)), (lumpNames, .inl (ky 1, 6, .inr (.inl f119))), (lumpCells, .inl (ky 0, 6, .inl f120)), (boatNames, .inl (ky 1, 6, .inr (.inl f121))), (boatCells, .inl (ky 0, 6, .inl f122)), (loads, .inl (ky 0, 6, .inl f123)), (spoons, .inl (ky 0, 6, .inl f124)), (spoonsLeft, .inl (ky 0, 6, .inl f125)), (depths, .inl (ky 0, 6, .inl f126))] := hD
            rcases p510 with ⟨rfl, t513, t514, t515, t516, t517, t518, t519⟩ | ⟨rfl, t520, t521, t522⟩
            · refine lv_istore (lv' := [(5, .int (nI 1)), (4, .int (nI 6)), (3, .int (nI k109)), (0, .ref st), (1, .ref reader), (2, .ref a)]) hx hb dX8_read_128 hl (by decide) rfl (fun ls hl => ?_)
              refine lv_goto (tgt := 140) hx hb dX8_read_130 (by decide) ?_
              refine lv_iload hx hb dX8_read_140 (lv_at hl 0 rfl) ?_
              refine lv_if_eq (tgt := 154) hx hb dX8_read_142 (by decide) (fun c523 => absurd c523 (by decide)) (fun c523 => ?_)
              refine lv_aload_n hx hb dX8_read_145 rfl (lv_at hl 4 rfl) ?_
              refine lv_bipush (v := nI 59) hx hb dX8_read_146 (by decide) ?_
              refine r_call_i (wr := [(st, .inr (8, [.int x110])), (a, .inr (7, [.int (nI k127), .int (nI k128), .int x129, .int x130, .int skinHeatG_509, .int todayG_8, .int stirsG_9, .int stepsG_10, .int (nI k132), .int (nI k133), .ref thickness, .ref lumpNames, .ref lumpCells, .ref boatNames, .ref boatCells, .ref loads, .ref spoons, .ref spoonsLeft, .ref depths])), (thickness, .inl (ky 0, 36, .inl f134)), (lumpNames, .inl (ky 1, 6, .inr (.inl f119))), (lumpCells, .inl (ky 0, 6, .inl f120)), (boatNames, .inl (ky 1, 6, .inr (.inl f121))), (boatCells, .inl (ky 0, 6, .inl f122)), (loads, .inl (ky 0, 6, .inl f123)), (spoons, .inl (ky 0, 6, .inl f124)), (spoonsLeft, .inl (ky 0, 6, .inl f125)), (depths, .inl (ky 0, 6, .inl f126))]) (va_runV (As := [.int (nI 59)]) (rest := []) ⟨hx, hb, hml, hown, hts⟩ (c_f_takeSign l dC dI ky H.size adK adV bt reader rtape rlength rmostBytes rplaceG_501 rkindG_502 rbeginG_503 rwordG_504 rnumberG_505 rlettersG_506 rfaultKindG_507 rfaultPlaceG_508 rtapeF (lrP (pSet bt rlength rmostBytes z106 z107 z108 6 30)) (nI 59) iv_rreader_0 p511 iv_rreader_2 p512 hTC t514) (cwV 1 hts gX8_read_X5_takeSign rfl rfl rfl (by decide +kernel) ⟨(Nat.le_of_ble_eq_true rfl), (Nat.le_of_ble_eq_true rfl)⟩) (pre_UEV hE hS hA hK hP hD [1, 2] (by decide) rfl (va_recv hK hP (ci := 5) (q0 := 1) rfl rfl)) rfl rfl hl.1 rfl (lv_room (Nat.le_of_ble_eq_true rfl)) dX8_read_148 ⟨(Nat.le_of_ble_eq_true rfl), (Nat.le_of_ble_eq_true rfl)⟩) hP hD hS hA [1, 2] [0, 3, 4, 5, 6, 7, 8, 9, 10, 11, 12] rfl rfl (by decide) (by decide) (fun r526 u524 H locs p525 hP hD hS => ?_)
              obtain ⟨rplaceG_527, rkindG_528, rbeginG_529, rwordG_530, rnumberG_531, rlettersG_532, rfaultKindG_533, rfaultPlaceG_534⟩ := u524
              try dsimp only at p525
              obtain ⟨p535, p536, p537⟩ := p525
              refine W.widen (k := 0) (n := 0) (Nat.le_of_ble_eq_true rfl) (Nat.le_of_ble_eq_true rfl) ?_
              have hP : va_P (dC, dI) vwCl [(st, .inr (8, [.int x110])), (a, .inr (7, [.int (nI k127), .int (nI k128), .int x129, .int x130, .int skinHeatG_509, .int todayG_8, .int stirsG_9, .int stepsG_10, .int (nI k132), .int (nI k133), .ref thickness, .ref lumpNames, .ref lumpCells, .ref boatNames, .ref boatCells, .ref loads, .ref spoons, .ref spoonsLeft, .ref depths])), (thickness, .inl (ky 0, 36, .inl f134)), (lumpNames, .inl (ky 1, 6, .inr (.inl f119))), (lumpCells, .inl (ky 0, 6, .inl f120)), (boatNames, .inl (ky 1, 6, .inr (.inl f121))), (boatCells, .inl (ky 0, 6, .inl f122)), (loads, .inl (ky 0, 6, .inl f123)), (spoons, .inl (ky 0, 6, .inl f124)), (spoonsLeft, .inl (ky 0, 6, .inl f125)), (depths, .inl (ky 0, 6, .inl f126)), (reader, .inr (5, [.ref rtape, .int (nI rlength), .int (nI rmostBytes), .int (nI rplaceG_527), .int rkindG_528, .int (nI rbeginG_529), .int rwordG_530, .int rnumberG_531, .long rlettersG_532, .int rfaultKindG_533, .int rfaultPlaceG_534])), (rtape, .inl (ky 2, 940, .inl rtapeF))] H := hP
              have hD : va_D A [(st, .inr (8, [.int x110])), (a, .inr (7, [.int (nI k127), .int (nI k128), .int x129, .int x130, .int skinHeatG_509, .int todayG_8, .int stirsG_9, .int stepsG_10, .int (nI k132), .int (nI k133), .ref thickness, .ref lumpNames, .ref lumpCells, .ref boatNames, .ref boatCells, .ref loads, .ref spoons, .ref spoonsLeft, .ref depths])), (thickness, .inl (ky 0, 36, .inl f134)), (lumpNames, .inl (ky 1, 6, .inr (.inl f119))), (lumpCells, .inl (ky 0, 6, .inl f120)), (boatNames, .inl (ky 1, 6, .inr (.inl f121))), (boatCells, .inl (ky 0, 6, .inl f122)), (loads, .inl (ky 0, 6, .inl f123)), (spoons, .inl (ky 0, 6, .inl f124)), (spoonsLeft, .inl (ky 0, 6, .inl f125)), (depths, .inl (ky 0, 6, .inl f126)), (reader, .inr (5, [.ref rtape, .int (nI rlength), .int (nI rmostBytes), .int (nI rplaceG_527), .int rkindG_528, .int (nI rbeginG_529), .int rwordG_530, .int rnumberG_531, .long rlettersG_532, .int rfaultKindG_533, .int rfaultPlaceG_534])), (rtape, .inl (ky 2, 940, .inl rtapeF))] := hD
              rcases p535 with ⟨rfl, t538, t539, t540, t541⟩ | ⟨rfl, t542, t543, t544⟩
              · refine lv_if_ne (tgt := 156) hx hb dX8_read_151 (by decide) (fun c545 => ?_) (fun c545 => absurd c545 (by decide))
                refine lv_aload_n hx hb dX8_read_156 rfl (lv_at hl 3 rfl) ?_
                refine lv_dup hx hb dX8_read_157 rfl ?_
                refine va_get (D := (dC, dI)) (ci := 8) (v := .int x110) (C := RX8) (T := TX8) (N := 1) hx hb hts hin8 hown hK hP 0 rfl rfl 0 (by decide) (hts (.fieldLink RX8 16 "PorridgeSea$SeaText" "toldWords" "I") (List.mem_of_getElem? (i := 1) rfl)) (fun _ h9 => h9) rfl dX8_read_158 ?_
                refine lv_iconst (v := nI 1) hx hb dX8_read_161 (by decide) ?_
                refine lv_iload hx hb dX8_read_162 (lv_at hl 1 rfl) ?_
                refine lv_ishl hx hb dX8_read_164 ?_
                refine r_ti (nI 64) (by decide) ?_
                refine lv_ior hx hb dX8_read_165 ?_
                refine lv_topi (fun y546 e547 => ?_)
                refine va_put (D := (dC, dI)) (ci := 8) (v := .int y546) (ty := .int) (C := RX8) (T := TX8) (N := 1) hx hb hts hin8 tyX8 tyX8_ok nmX8 hown hK hP hD hS 0 rfl rfl 0 (by decide) (hts (.fieldLink RX8 16 "PorridgeSea$SeaText" "toldWords" "I") (List.mem_of_getElem? (i := 1) rfl)) (fun _ h9 => h9) rfl (by decide +kernel) rfl rfl (Nat.le_of_ble_eq_true rfl) dX8_read_166 (fun H locs hP hD hS => ?_)
                have hP : va_P (dC, dI) vwCl [(st, .inr (8, [.int y546])), (a, .inr (7, [.int (nI k127), .int (nI k128), .int x129, .int x130, .int skinHeatG_509, .int todayG_8, .int stirsG_9, .int stepsG_10, .int (nI k132), .int (nI k133), .ref thickness, .ref lumpNames, .ref lumpCells, .ref boatNames, .ref boatCells, .ref loads, .ref spoons, .ref spoonsLeft, .ref depths])), (thickness, .inl (ky 0, 36, .inl f134)), (lumpNames, .inl (ky 1, 6, .inr (.inl f119))), (lumpCells, .inl (ky 0, 6, .inl f120)), (boatNames, .inl (ky 1, 6, .inr (.inl f121))), (boatCells, .inl (ky 0, 6, .inl f122)), (loads, .inl (ky 0, 6, .inl f123)), (spoons, .inl (ky 0, 6, .inl f124)), (spoonsLeft, .inl (ky 0, 6, .inl f125)), (depths, .inl (ky 0, 6, .inl f126)), (reader, .inr (5, [.ref rtape, .int (nI rlength), .int (nI rmostBytes), .int (nI rplaceG_527), .int rkindG_528, .int (nI rbeginG_529), .int rwordG_530, .int rnumberG_531, .long rlettersG_532, .int rfaultKindG_533, .int rfaultPlaceG_534])), (rtape, .inl (ky 2, 940, .inl rtapeF))] H := hP
                have hD : va_D A [(st, .inr (8, [.int y546])), (a, .inr (7, [.int (nI k127), .int (nI k128), .int x129, .int x130, .int skinHeatG_509, .int todayG_8, .int stirsG_9, .int stepsG_10, .int (nI k132), .int (nI k133), .ref thickness, .ref lumpNames, .ref lumpCells, .ref boatNames, .ref boatCells, .ref loads, .ref spoons, .ref spoonsLeft, .ref depths])), (thickness, .inl (ky 0, 36, .inl f134)), (lumpNames, .inl (ky 1, 6, .inr (.inl f119))), (lumpCells, .inl (ky 0, 6, .inl f120)), (boatNames, .inl (ky 1, 6, .inr (.inl f121))), (boatCells, .inl (ky 0, 6, .inl f122)), (loads, .inl (ky 0, 6, .inl f123)), (spoons, .inl (ky 0, 6, .inl f124)), (spoonsLeft, .inl (ky 0, 6, .inl f125)), (depths, .inl (ky 0, 6, .inl f126)), (reader, .inr (5, [.ref rtape, .int (nI rlength), .int (nI rmostBytes), .int (nI rplaceG_527), .int rkindG_528, .int (nI rbeginG_529), .int rwordG_530, .int rnumberG_531, .long rlettersG_532, .int rfaultKindG_533, .int rfaultPlaceG_534])), (rtape, .inl (ky 2, 940, .inl rtapeF))] := hD
                refine lv_iinc (v := nI (k109 + 1)) (lv' := [(3, .int (nI (k109 + 1))), (5, .int (nI 1)), (4, .int (nI 6)), (0, .ref st), (1, .ref reader), (2, .ref a)]) hx hb dX8_read_169 hl (k := 2) rfl (show nI k109 + nI 1 = nI (k109 + 1) from nI_add _ _) (by decide) rfl (fun ls hl => ?_)
                refine lv_goto (tgt := 11) hx hb dX8_read_172 (by decide) ?_
                exact ih147 (k109 + 1) y546 rplaceG_527 rkindG_528 rbeginG_529 rwordG_530 rnumberG_531 rlettersG_532 rfaultKindG_533 rfaultPlaceG_534 f119 f120 f121 f122 f123 f124 f125 f126 k127 k128 x129 x130 skinHeatG_509 k132 k133 f134 (tT bt rlength rmostBytes (lrP (pSet bt rlength rmostBytes z106 z107 z108 6 30))) (lrS (pSet bt rlength rmostBytes z106 z107 z108 6 30)) (lrN (pSet bt rlength rmostBytes z106 z107 z108 6 30)) (lf_f_read_64 bt rlength rmostBytes rplace rkind rbegin rword rnumber rletters rtapeF gp k109 x110 k111 x112 k113 x114 x115 w116 f119 f120 f121 f122 f123 f124 k127 k128 x129 x130 x131 k132 k133 f134 z106 z107 z108 n146 r151 rplaceG_501 rkindG_502 rbeginG_503 rwordG_504 rnumberG_505 rlettersG_506 skinHeatG_509 rplaceG_527 rkindG_528 rbeginG_529 rwordG_530 rnumberG_531 rlettersG_532 y546 iv_rreader_0 iv_rreader_1 iv_rreader_2 iv_rreader_3 hTC hRT hgl j135 j136 j137 j138 j139 j140 j141 j142 j143 j144 jRT jCS jSW jTB jPL j2k jLe hm148 c149 c150 p152 c161 p511 p512 t513 t514 t515 t516 t519 p536 p537 t538 t539 e547) (lf_f_read_65 bt rlength rmostBytes rplace rkind rbegin rword rnumber rletters rtapeF gp k109 x110 k111 x112 k113 x114 x115 w116 f119 f120 f121 f122 f123 f124 k127 k128 x129 x130 x131 k132 k133 f134 z106 z107 z108 n146 r151 rplaceG_501 rkindG_502 rbeginG_503 rwordG_504 rnumberG_505 rlettersG_506 skinHeatG_509 rplaceG_527 rkindG_528 rbeginG_529 rwordG_530 rnumberG_531 rlettersG_532 y546 iv_rreader_0 iv_rreader_1 iv_rreader_2 iv_rreader_3 hTC hRT hgl j135 j136 j137 j138 j139 j140 j141 j142 j143 j144 jRT jCS jSW jTB jPL j2k jLe hm148 c149 c150 p152 c161 p511 p512 t513 t514 t515 t516 t519 p536 p537 t538 t539 e547) p537 p536 j139 j140 j141 j142 j143 j144 t539 t515 t516 (lf_f_read_66 bt rlength rmostBytes rplace rkind rbegin rword rnumber rletters rtapeF gp k109 x110 k111 x112 k113 x114 x115 w116 f119 f120 f121 f122 f123 f124 k127 k128 x129 x130 x131 k132 k133 f134 z106 z107 z108 n146 r151 rplaceG_501 rkindG_502 rbeginG_503 rwordG_504 rnumberG_505 rlettersG_506 skinHeatG_509 rplaceG_527 rkindG_528 rbeginG_529 rwordG_530 rnumberG_531 rlettersG_532 y546 iv_rreader_0 iv_rreader_1 iv_rreader_2 iv_rreader_3 hTC hRT hgl j135 j136 j137 j138 j139 j140 j141 j142 j143 j144 jRT jCS jSW jTB jPL j2k jLe hm148 c149 c150 p152 c161 p511 p512 t513 t514 t515 t516 t519 p536 p537 t538 t539 e547) (lf_f_read_67 bt rlength rmostBytes rplace rkind rbegin rword rnumber rletters rtapeF gp k109 x110 k111 x112 k113 x114 x115 w116 f119 f120 f121 f122 f123 f124 k127 k128 x129 x130 x131 k132 k133 f134 z106 z107 z108 n146 r151 rplaceG_501 rkindG_502 rbeginG_503 rwordG_504 rnumberG_505 rlettersG_506 skinHeatG_509 rplaceG_527 rkindG_528 rbeginG_529 rwordG_530 rnumberG_531 rlettersG_532 y546 iv_rreader_0 iv_rreader_1 iv_rreader_2 iv_rreader_3 hTC hRT hgl j135 j136 j137 j138 j139 j140 j141 j142 j143 j144 jRT jCS jSW jTB jPL j2k jLe hm148 c149 c150 p152 c161 p511 p512 t513 t514 t515 t516 t519 p536 p537 t538 t539 e547) (lf_f_read_68 bt rlength rmostBytes rplace rkind rbegin rword rnumber rletters rtapeF gp k109 x110 k111 x112 k113 x114 x115 w116 f119 f120 f121 f122 f123 f124 k127 k128 x129 x130 x131 k132 k133 f134 z106 z107 z108 n146 r151 rplaceG_501 rkindG_502 rbeginG_503 rwordG_504 rnumberG_505 rlettersG_506 skinHeatG_509 rplaceG_527 rkindG_528 rbeginG_529 rwordG_530 rnumberG_531 rlettersG_532 y546 iv_rreader_0 iv_rreader_1 iv_rreader_2 iv_rreader_3 hTC hRT hgl j135 j136 j137 j138 j139 j140 j141 j142 j143 j144 jRT jCS jSW jTB jPL j2k jLe hm148 c149 c150 p152 c161 p511 p512 t513 t514 t515 t516 t519 p536 p537 t538 t539 e547) (lf_f_read_69 bt rlength rmostBytes rplace rkind rbegin rword rnumber rletters rtapeF gp k109 x110 k111 x112 k113 x114 x115 w116 f119 f120 f121 f122 f123 f124 k127 k128 x129 x130 x131 k132 k133 f134 z106 z107 z108 n146 r151 rplaceG_501 rkindG_502 rbeginG_503 rwordG_504 rnumberG_505 rlettersG_506 skinHeatG_509 rplaceG_527 rkindG_528 rbeginG_529 rwordG_530 rnumberG_531 rlettersG_532 y546 iv_rreader_0 iv_rreader_1 iv_rreader_2 iv_rreader_3 hTC hRT hgl j135 j136 j137 j138 j139 j140 j141 j142 j143 j144 jRT jCS jSW jTB jPL j2k jLe hm148 c149 c150 p152 c161 p511 p512 t513 t514 t515 t516 t519 p536 p537 t538 t539 e547) (lf_f_read_70 adK adV st qtoldWords bt reader rtape rlength rmostBytes rplace rkind rbegin rword rnumber rletters rfaultKind rfaultPlace rtapeF a wide high heat cools skinHeat today stirs steps lumps boats thickness lumpNames lumpCells boatNames boatCells loads spoons spoonsLeft depths thicknessF lumpNamesF lumpCellsF boatNamesF boatCellsF loadsF spoonsF spoonsLeftF depthsF gp wideG_3 highG_4 heatG_5 coolsG_6 skinHeatG_7 todayG_8 stirsG_9 stepsG_10 lumpsG_11 boatsG_12 thicknessG_13 k109 x110 k111 x112 k113 x114 x115 w116 x117 x118 f119 f120 f121 f122 f123 f124 f125 f126 k127 k128 x129 x130 x131 k132 k133 f134 z106 z107 z108 n146 r151 rplaceG_501 rkindG_502 rbeginG_503 rwordG_504 rnumberG_505 rlettersG_506 rfaultKindG_507 rfaultPlaceG_508 skinHeatG_509 rplaceG_527 rkindG_528 rbeginG_529 rwordG_530 rnumberG_531 rlettersG_532 rfaultKindG_533 rfaultPlaceG_534 y546 iv_rreader_0 iv_rreader_1 iv_rreader_2 iv_rreader_3 hTC iv_a_0 iv_a_1 iv_a_2 iv_a_3 iv_a_4 iv_a_5 hRT hgl p14 p15 p16 p17 p18 p19 p20 p21 p22 p23 p24 p25 p26 p27 j135 j136 j137 j138 j139 j140 j141 j142 j143 j144 jRT jCS jSW jTB jPL j2k jLe jFk hm148 c149 c150 p152 c161 p511 p512 t513 t514 t515 t516 t517 t518 t519 p536 p537 t538 t539 t540 t541 e547) (lf_f_read_71 bt rlength rmostBytes rplace rkind rbegin rword rnumber rletters rtapeF gp k109 x110 k111 x112 k113 x114 x115 w116 f119 f120 f121 f122 f123 f124 k127 k128 x129 x130 x131 k132 k133 f134 z106 z107 z108 n146 r151 rplaceG_501 rkindG_502 rbeginG_503 rwordG_504 rnumberG_505 rlettersG_506 skinHeatG_509 rplaceG_527 rkindG_528 rbeginG_529 rwordG_530 rnumberG_531 rlettersG_532 y546 iv_rreader_0 iv_rreader_1 iv_rreader_2 iv_rreader_3 hTC hRT hgl j135 j136 j137 j138 j139 j140 j141 j142 j143 j144 jRT jCS jSW jTB jPL j2k jLe hm148 c149 c150 p152 c161 p511 p512 t513 t514 t515 t516 t519 p536 p537 t538 t539 e547) _ _ _ (hP.sub [0, 11, 12, 3, 4, 5, 6, 7, 8, 9, 10, 1, 2] rfl) (hD.sub [0, 11, 12, 3, 4, 5, 6, 7, 8, 9, 10, 1, 2] (by decide) rfl) hS (lv_sub hl [0, 3, 4, 5] rfl)
              · refine lv_if_ne (tgt := 156) hx hb dX8_read_151 (by decide) (fun c548 => absurd c548 (by decide)) (fun c548 => ?_)
                refine lv_iconst (v := (-1 : Int32)) hx hb dX8_read_154 (by decide) ?_
                rw [hQ]
                have hP9 := hP.sub (ws' := [(st, .inr (8, [.int x110])), (reader, .inr (5, [.ref rtape, .int (nI rlength), .int (nI rmostBytes), .int (nI rplaceG_527), .int rkindG_528, .int (nI rbeginG_529), .int rwordG_530, .int rnumberG_531, .long rlettersG_532, .int rfaultKindG_533, .int rfaultPlaceG_534])), (rtape, .inl (ky 2, 940, .inl rtapeF)), (a, .inr (7, [.int (nI k127), .int (nI k128), .int x129, .int x130, .int skinHeatG_509, .int todayG_8, .int stirsG_9, .int stepsG_10, .int (nI k132), .int (nI k133), .ref thickness, .ref lumpNames, .ref lumpCells, .ref boatNames, .ref boatCells, .ref loads, .ref spoons, .ref spoonsLeft, .ref depths])), (thickness, .inl (ky 0, 36, .inl f134)), (lumpNames, .inl (ky 1, 6, .inr (.inl f119))), (lumpCells, .inl (ky 0, 6, .inl f120)), (boatNames, .inl (ky 1, 6, .inr (.inl f121))), (boatCells, .inl (ky 0, 6, .inl f122)), (loads, .inl (ky 0, 6, .inl f123)), (spoons, .inl (ky 0, 6, .inl f124)), (spoonsLeft, .inl (ky 0, 6, .inl f125)), (depths, .inl (ky 0, 6, .inl f126))]) [0, 11, 12, 1, 2, 3, 4, 5, 6, 7, 8, 9, 10] rfl
                have hD9 := hD.sub (ws' := [(st, .inr (8, [.int x110])), (reader, .inr (5, [.ref rtape, .int (nI rlength), .int (nI rmostBytes), .int (nI rplaceG_527), .int rkindG_528, .int (nI rbeginG_529), .int rwordG_530, .int rnumberG_531, .long rlettersG_532, .int rfaultKindG_533, .int rfaultPlaceG_534])), (rtape, .inl (ky 2, 940, .inl rtapeF)), (a, .inr (7, [.int (nI k127), .int (nI k128), .int x129, .int x130, .int skinHeatG_509, .int todayG_8, .int stirsG_9, .int stepsG_10, .int (nI k132), .int (nI k133), .ref thickness, .ref lumpNames, .ref lumpCells, .ref boatNames, .ref boatCells, .ref loads, .ref spoons, .ref spoonsLeft, .ref depths])), (thickness, .inl (ky 0, 36, .inl f134)), (lumpNames, .inl (ky 1, 6, .inr (.inl f119))), (lumpCells, .inl (ky 0, 6, .inl f120)), (boatNames, .inl (ky 1, 6, .inr (.inl f121))), (boatCells, .inl (ky 0, 6, .inl f122)), (loads, .inl (ky 0, 6, .inl f123)), (spoons, .inl (ky 0, 6, .inl f124)), (spoonsLeft, .inl (ky 0, 6, .inl f125)), (depths, .inl (ky 0, 6, .inl f126))]) [0, 11, 12, 1, 2, 3, 4, 5, 6, 7, 8, 9, 10] (by decide) rfl
                exact W.iret (v := (-1 : Int32)) hx hb hr (fun t9 ht9 hW9 => ⟨⟨(-1 : Int32), (x110, rplaceG_527, rkindG_528, rbeginG_529, rwordG_530, rnumberG_531, rlettersG_532, rfaultKindG_533, rfaultPlaceG_534, k127, k128, x129, x130, skinHeatG_509, todayG_8, stirsG_9, stepsG_10, k132, k133, f134, f119, f120, f121, f122, f123, f124, f125, f126), rfl, ⟨(Or.inl ⟨rfl, (lf_f_read_72 bt rlength rmostBytes rplace rkind rbegin rword rnumber rletters rtapeF gp k109 x110 k111 x112 k113 x114 x115 w116 f119 f120 f121 f122 f123 f124 k127 k128 x129 x130 x131 k132 k133 f134 z106 z107 z108 n146 r151 rplaceG_501 rkindG_502 rbeginG_503 rwordG_504 rnumberG_505 rlettersG_506 skinHeatG_509 rplaceG_527 rfaultKindG_533 rfaultPlaceG_534 iv_rreader_0 iv_rreader_1 iv_rreader_2 iv_rreader_3 hTC hRT hgl j135 j136 j137 j138 j139 j140 j141 j142 j143 j144 jRT jCS jSW jTB jPL j2k jLe hm148 c149 c150 p152 c161 p511 p512 t513 t514 t515 t516 t519 p536 t542 t543 t544)⟩), p536, p537, j139, j140, j141, j142, j143, j144⟩, by rw [ht9]; exact hP9, va_K.moved hW9.alike hK, hD9⟩, hS.F ht9⟩) hS.2.2 dX8_read_155
            · refine lv_istore (lv' := [(5, .int (nI 0)), (4, .int (nI 6)), (3, .int (nI k109)), (0, .ref st), (1, .ref reader), (2, .ref a)]) hx hb dX8_read_128 hl (by decide) rfl (fun ls hl => ?_)
              refine lv_goto (tgt := 140) hx hb dX8_read_130 (by decide) ?_
              refine lv_iload hx hb dX8_read_140 (lv_at hl 0 rfl) ?_
              refine lv_if_eq (tgt := 154) hx hb dX8_read_142 (by decide) (fun c549 => ?_) (fun c549 => absurd (by decide) c549)
              refine lv_iconst (v := (-1 : Int32)) hx hb dX8_read_154 (by decide) ?_
              rw [hQ]
              exact W.iret (v := (-1 : Int32)) hx hb hr (fun t9 ht9 hW9 => ⟨⟨(-1 : Int32), (x110, rplaceG_501, rkindG_502, rbeginG_503, rwordG_504, rnumberG_505, rlettersG_506, rfaultKindG_507, rfaultPlaceG_508, k127, k128, x129, x130, skinHeatG_509, todayG_8, stirsG_9, stepsG_10, k132, k133, f134, f119, f120, f121, f122, f123, f124, f125, f126), rfl, ⟨(Or.inl ⟨rfl, (lf_f_read_73 bt rlength rmostBytes rplace rkind rbegin rword rnumber rletters rtapeF gp k109 x110 k111 x112 k113 x114 x115 w116 f119 f120 f121 f122 f123 f124 k127 k128 x129 x130 x131 k132 k133 f134 z106 z107 z108 n146 r151 rplaceG_501 rfaultKindG_507 rfaultPlaceG_508 iv_rreader_0 iv_rreader_1 iv_rreader_2 iv_rreader_3 hTC hRT hgl j135 j136 j137 j138 j139 j140 j141 j142 j143 j144 jRT jCS jSW jTB jPL j2k jLe hm148 c149 c150 p152 c161 p511 t520 t521 t522)⟩), p511, p512, j139, j140, j141, j142, j143, j144⟩, by rw [ht9]; exact hP, va_K.moved hW9.alike hK, hD⟩, hS.F ht9⟩) hS.2.2 dX8_read_155
  exact hL145 ((900 - 0) + 1) 0 (nI 0) rplace rkind rbegin rword rnumber rletters rfaultKind rfaultPlace lumpNamesF lumpCellsF boatNamesF boatCellsF loadsF spoonsF spoonsLeftF depthsF wideG_3 highG_4 heatG_5 coolsG_6 skinHeatG_7 lumpsG_11 boatsG_12 thicknessG_13 gp s0 (fun _ => 0) (lf_f_read_74) (lf_f_read_75 bt rlength rmostBytes rplace rkind rbegin rword rnumber rletters rtapeF gp iv_rreader_0 iv_rreader_1 iv_rreader_2 iv_rreader_3 hTC hRT hgl) iv_rreader_3 iv_rreader_1 p14 p15 p16 p17 p18 p19 hRT (lf_f_read_76 adK adV st qtoldWords bt reader rtape rlength rmostBytes rplace rkind rbegin rword rnumber rletters rfaultKind rfaultPlace rtapeF a wide high heat cools skinHeat today stirs steps lumps boats thickness lumpNames lumpCells boatNames boatCells loads spoons spoonsLeft depths thicknessF lumpNamesF lumpCellsF boatNamesF boatCellsF loadsF spoonsF spoonsLeftF depthsF gp wideG_3 highG_4 heatG_5 coolsG_6 skinHeatG_7 todayG_8 stirsG_9 stepsG_10 lumpsG_11 boatsG_12 thicknessG_13 iv_rreader_0 iv_rreader_1 iv_rreader_2 iv_rreader_3 hTC iv_a_0 iv_a_1 iv_a_2 iv_a_3 iv_a_4 iv_a_5 hRT hgl p14 p15 p16 p17 p18 p19 p20 p21 p22 p23 p24 p25 p26 p27) (lf_f_read_77 adK adV st qtoldWords bt reader rtape rlength rmostBytes rplace rkind rbegin rword rnumber rletters rfaultKind rfaultPlace rtapeF a wide high heat cools skinHeat today stirs steps lumps boats thickness lumpNames lumpCells boatNames boatCells loads spoons spoonsLeft depths thicknessF lumpNamesF lumpCellsF boatNamesF boatCellsF loadsF spoonsF spoonsLeftF depthsF gp wideG_3 highG_4 heatG_5 coolsG_6 skinHeatG_7 todayG_8 stirsG_9 stepsG_10 lumpsG_11 boatsG_12 thicknessG_13 iv_rreader_0 iv_rreader_1 iv_rreader_2 iv_rreader_3 hTC iv_a_0 iv_a_1 iv_a_2 iv_a_3 iv_a_4 iv_a_5 hRT hgl p14 p15 p16 p17 p18 p19 p20 p21 p22 p23 p24 p25 p26 p27) (lf_f_read_78) (lf_f_read_79 bt rlength rmostBytes rplace rkind rbegin rword rnumber rletters rtapeF gp iv_rreader_0 iv_rreader_1 iv_rreader_2 iv_rreader_3 hTC hRT hgl) (lf_f_read_80 bt rlength rmostBytes rplace rkind rbegin rword rnumber rletters rtapeF gp iv_rreader_0 iv_rreader_1 iv_rreader_2 iv_rreader_3 hTC hRT hgl) hgl (lf_f_read_81 adK adV st qtoldWords bt reader rtape rlength rmostBytes rplace rkind rbegin rword rnumber rletters rfaultKind rfaultPlace rtapeF a wide high heat cools skinHeat today stirs steps lumps boats thickness lumpNames lumpCells boatNames boatCells loads spoons spoonsLeft depths thicknessF lumpNamesF lumpCellsF boatNamesF boatCellsF loadsF spoonsF spoonsLeftF depthsF gp wideG_3 highG_4 heatG_5 coolsG_6 skinHeatG_7 todayG_8 stirsG_9 stepsG_10 lumpsG_11 boatsG_12 thicknessG_13 iv_rreader_0 iv_rreader_1 iv_rreader_2 iv_rreader_3 hTC iv_a_0 iv_a_1 iv_a_2 iv_a_3 iv_a_4 iv_a_5 hRT hgl p14 p15 p16 p17 p18 p19 p20 p21 p22 p23 p24 p25 p26 p27) (Nat.lt_succ_self _) _ _ _ hP hD hS (lv_sub hl [0, 1, 2, 3] rfl)
