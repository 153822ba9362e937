theorem nvn_lt {bt : Nat → Nat} {p k : Nat} (h : dcn bt p k = k) : nvn bt p k < 10 ^ k := by
  induction k with
  | zero => exact Nat.lt_succ_self 0
  | succ k ih =>
    have h1 := dcn_le bt p k
    by_cases h2 : cDi (bt (p + k))
    · rw [dcn_y h2] at h
      have h3 := ih (by omega)
      unfold cDi at h2
      rw [nvn, Nat.pow_succ]
      omega
    · rw [dcn_n h2] at h
      omega
theorem num_step {v b : Nat} {y : Int32} (hv : v ≤ 9999) (h1 : 48 ≤ b) (h2 : b ≤ 57) (hy : y.toInt = ((b : Nat) : Int)) : nI 10 * nI v + y - nI 48 = nI (10 * v + (b - 48)) := by
  have e : y = nI b := by rw [ia_eq, ia_n b (by omega)]; exact hy
  rw [e, pk_mul, nI_add, pk_sub (by omega)]
  exact congrArg nI (by omega)
theorem i64_of {b : Nat} {y : Int32} (h : b < 2147483648) (hy : y.toInt = ((b : Nat) : Int)) : y.toInt64 = Int64.ofNat b := by
  have e : y = nI b := by rw [ia_eq, ia_n b h]; exact hy
  rw [← Int64.toInt_inj, Int32.toInt_toInt64, hy, Int64.toInt_ofNat_of_lt (by omega)]
theorem let_step {v b : Nat} {y : Int32} (hv : v < 281474976710656) (h2 : b < 128) (hy : y.toInt = ((b : Nat) : Int)) : Int64.ofNat v <<< ((nI 8).toInt64 &&& 63) ||| y.toInt64 = Int64.ofNat (256 * v + b) := by
  rw [i64_of (by omega) hy, show ((nI 8).toInt64 &&& 63) = 8 by decide]
  apply Int64.toBitVec_inj.mp
  rw [Int64.toBitVec_or, Int64.toBitVec_shiftLeft]
  apply BitVec.eq_of_toNat_eq
  rw [BitVec.toNat_or]
  have e1 : (Int64.ofNat b).toBitVec.toNat = b := by
    show (BitVec.ofNat 64 b).toNat = b
    rw [BitVec.toNat_ofNat]; exact Nat.mod_eq_of_lt (by omega)
  have e2 : (Int64.ofNat (256 * v + b)).toBitVec.toNat = 256 * v + b := by
    show (BitVec.ofNat 64 (256 * v + b)).toNat = 256 * v + b
    rw [BitVec.toNat_ofNat]; exact Nat.mod_eq_of_lt (by omega)
  have e3 : ((Int64.ofNat v).toBitVec <<< ((8 : Int64).toBitVec.smod 64)).toNat = v * 2 ^ 8 := by
    rw [show ((8 : Int64).toBitVec.smod 64) = 8#64 by decide]
    show ((BitVec.ofNat 64 v) <<< 8).toNat = v * 2 ^ 8
    rw [BitVec.toNat_shiftLeft, BitVec.toNat_ofNat, Nat.mod_eq_of_lt (a := v) (by omega), Nat.shiftLeft_eq]
    exact Nat.mod_eq_of_lt (by omega)
  rw [e1, e2, e3, Nat.mul_comm v, ← Nat.two_pow_add_eq_or_of_lt (i := 8) (by omega)]
theorem rr_dy {bt : Nat → Nat} {p k : Nat} (hk : p ≤ k) (h : cDi (bt k)) : dcn bt p (k + 1 - p) = dcn bt p (k - p) + 1 := by
  rw [show k + 1 - p = (k - p) + 1 by omega]
  exact dcn_y (by rw [show p + (k - p) = k by omega]; exact h)
theorem rr_dn {bt : Nat → Nat} {p k : Nat} (hk : p ≤ k) (h : ¬ cDi (bt k)) : dcn bt p (k + 1 - p) = dcn bt p (k - p) := by
  rw [show k + 1 - p = (k - p) + 1 by omega]
  exact dcn_n (by rw [show p + (k - p) = k by omega]; exact h)
theorem rr_ny {bt : Nat → Nat} {p k d : Nat} {x y : Int32} (hk : p ≤ k) (hd : d = dcn bt p (k - p)) (hN : ¬ (d = k - p ∧ d ≤ 3) ∨ x = nI (nvn bt p (k - p))) (h1 : 48 ≤ bt k) (h2 : bt k ≤ 57) (hy : y.toInt = ((bt k : Nat) : Int)) : ¬ (d + 1 = k + 1 - p ∧ d + 1 ≤ 3) ∨ nI 10 * x + y - nI 48 = nI (nvn bt p (k + 1 - p)) := by
  rcases hN with h | h
  · exact Or.inl (by omega)
  by_cases h3 : d + 1 = k + 1 - p ∧ d + 1 ≤ 3
  · refine Or.inr ?_
    have h4 : nvn bt p (k - p) < 10 ^ (k - p) := nvn_lt (by omega)
    have h5 : 10 ^ (k - p) ≤ 10 ^ 2 := Nat.pow_le_pow_right (by decide) (by omega)
    rw [h, num_step (b := bt k) (by omega) h1 h2 hy, show k + 1 - p = (k - p) + 1 by omega, nvn, show p + (k - p) = k by omega]
  · exact Or.inl h3
theorem rr_nn {bt : Nat → Nat} {p k d : Nat} {P : Prop} (hk : p ≤ k) (hd : d = dcn bt p (k - p)) : ¬ (d = k + 1 - p ∧ d ≤ 3) ∨ P := by
  have := dcn_le bt p (k - p)
  exact Or.inl (by omega)
theorem rr_ly {bt : Nat → Nat} {p k d : Nat} {w : Int64} {y : Int32} (hk : p ≤ k) (hL : ¬ (d = 0 ∧ k - p ≤ 7) ∨ w = Int64.ofNat (p8 bt p (k - p))) (hE : d ≠ 0 ∨ LET bt p (k - p)) (h1 : bt k < 128) (hy : y.toInt = ((bt k : Nat) : Int)) : ¬ (d = 0 ∧ k + 1 - p ≤ 7) ∨ w <<< ((nI 8).toInt64 &&& 63) ||| y.toInt64 = Int64.ofNat (p8 bt p (k + 1 - p)) := by
  rcases hL with h | h
  · exact Or.inl (by omega)
  rcases hE with h3 | h3
  · exact Or.inl (by omega)
  by_cases h4 : k + 1 - p ≤ 7
  · refine Or.inr ?_
    have h5 := p8_lt h3
    have h6 : 256 ^ (k - p) ≤ 256 ^ 6 := Nat.pow_le_pow_right (by decide) (by omega)
    have h7 : 256 ^ 6 = 281474976710656 := by decide
    rw [h, let_step (b := bt k) (by omega) h1 hy, show k + 1 - p = (k - p) + 1 by omega, p8, show p + (k - p) = k by omega]
  · exact Or.inl (by omega)
theorem rr_le {bt : Nat → Nat} {p k d : Nat} (hk : p ≤ k) (hE : d ≠ 0 ∨ LET bt p (k - p)) (h1 : cLe (bt k)) : d ≠ 0 ∨ LET bt p (k + 1 - p) := by
  rcases hE with h | h
  · exact Or.inl h
  refine Or.inr (fun j hj => ?_)
  by_cases hjk : j = k - p
  · rw [hjk, show p + (k - p) = k by omega]; exact h1
  · exact h j (by omega)
set_option maxRecDepth 20000 in
theorem lf_f_readRun_1 (bt : Nat → Nat) (rlength : Nat) (rplace : Nat) (rbegin : Nat) (rtapeF : Nat → Int32) (k14 : Nat) (k15 : Nat) (x16 : Int32) (w17 : Int64) (n21 : Nat) (y25 : Int32) (iv_rreader_0 : rlength ≤ 940) (iv_rreader_1 : rplace ≤ rlength) (iv_rreader_3 : rbegin ≤ 940) (hTC : TC bt rtapeF) (hbp : rbegin = rplace) (hpl : rplace < rlength) (hal : cAl (bt rplace)) (j18 : k15 ≤ 940) (j19 : k15 ≤ rlength) (jPl : rplace ≤ k15) (jRn : rn bt rlength rplace = rn bt rlength k15) (jDc : k14 = dcn bt rplace (k15 - rplace)) (jNm : ¬ (k14 = (k15 - rplace) ∧ k14 ≤ 3) ∨ x16 = nI (nvn bt rplace (k15 - rplace))) (jLt : ¬ (k14 = 0 ∧ (k15 - rplace) ≤ 7) ∨ w17 = Int64.ofNat (p8 bt rplace (k15 - rplace))) (jLe : k14 ≠ 0 ∨ LET bt rplace (k15 - rplace)) (hm23 : 940 - k15 < n21 + 1) (c24 : rlength ≤ k15) (f27 : y25.toInt = ((k15 : Nat) : Int) - ((rbegin : Nat) : Int)) (c28 : nI k14 ≠ 0) (c29 : nI k14 ≠ y25) : k15 = rn bt rlength rplace := by
  have hE : k15 = rn bt rlength rplace := by
    rw [jRn]
    refine (rn_stop (fun h9 => ?_)).symm
    obtain ⟨h8, h9⟩ := h9
    unfold cAl cLe cDi at h9
    have h7 := hTC k15 (by omega)
    have b_x16 := ia_b x16
    have b_y25 := ia_b y25
    have b_w17 := Int64.toInt_lt w17
    try have k_0 := ia_n (nvn bt rplace (k15 - rplace)) (by first | decide | omega)
    try have k_1 := ia_n k14 (by first | decide | omega)
    try simp only [ia_lt, ia_le, ia_eq, ia_m1, ia_0, ia_1, ne_eq, true_and, and_true, false_and, and_false, or_false, false_or, or_true, true_or, not_true_eq_false, not_false_eq_true] at *
    all_goals omega
  exact hE
set_option maxRecDepth 20000 in
theorem lf_f_readRun_2 (bt : Nat → Nat) (rlength : Nat) (rplace : Nat) (rbegin : Nat) (rtapeF : Nat → Int32) (k14 : Nat) (k15 : Nat) (x16 : Int32) (w17 : Int64) (n21 : Nat) (y25 : Int32) (iv_rreader_0 : rlength ≤ 940) (iv_rreader_1 : rplace ≤ rlength) (iv_rreader_3 : rbegin ≤ 940) (hTC : TC bt rtapeF) (hbp : rbegin = rplace) (hpl : rplace < rlength) (hal : cAl (bt rplace)) (j18 : k15 ≤ 940) (j19 : k15 ≤ rlength) (jPl : rplace ≤ k15) (jRn : rn bt rlength rplace = rn bt rlength k15) (jDc : k14 = dcn bt rplace (k15 - rplace)) (jNm : ¬ (k14 = (k15 - rplace) ∧ k14 ≤ 3) ∨ x16 = nI (nvn bt rplace (k15 - rplace))) (jLt : ¬ (k14 = 0 ∧ (k15 - rplace) ≤ 7) ∨ w17 = Int64.ofNat (p8 bt rplace (k15 - rplace))) (jLe : k14 ≠ 0 ∨ LET bt rplace (k15 - rplace)) (hm23 : 940 - k15 < n21 + 1) (c24 : rlength ≤ k15) (f27 : y25.toInt = ((k15 : Nat) : Int) - ((rbegin : Nat) : Int)) (c28 : nI k14 ≠ 0) (c29 : nI k14 ≠ y25) : rplace < k15 := by
  have hE : k15 = rn bt rlength rplace := by
    rw [jRn]
    refine (rn_stop (fun h9 => ?_)).symm
    obtain ⟨h8, h9⟩ := h9
    unfold cAl cLe cDi at h9
    have h7 := hTC k15 (by omega)
    have b_x16 := ia_b x16
    have b_y25 := ia_b y25
    have b_w17 := Int64.toInt_lt w17
    try have k_0 := ia_n (nvn bt rplace (k15 - rplace)) (by first | decide | omega)
    try have k_1 := ia_n k14 (by first | decide | omega)
    try simp only [ia_lt, ia_le, ia_eq, ia_m1, ia_0, ia_1, ne_eq, true_and, and_true, false_and, and_false, or_false, false_or, or_true, true_or, not_true_eq_false, not_false_eq_true] at *
    all_goals omega
  have h7 := rn_gt hpl hal
  omega
set_option maxRecDepth 20000 in
theorem lf_f_readRun_3 (bt : Nat → Nat) (rlength : Nat) (rplace : Nat) (rbegin : Nat) (rtapeF : Nat → Int32) (k14 : Nat) (k15 : Nat) (x16 : Int32) (w17 : Int64) (n21 : Nat) (y25 : Int32) (iv_rreader_0 : rlength ≤ 940) (iv_rreader_1 : rplace ≤ rlength) (iv_rreader_3 : rbegin ≤ 940) (hTC : TC bt rtapeF) (hbp : rbegin = rplace) (hpl : rplace < rlength) (hal : cAl (bt rplace)) (j18 : k15 ≤ 940) (j19 : k15 ≤ rlength) (jPl : rplace ≤ k15) (jRn : rn bt rlength rplace = rn bt rlength k15) (jDc : k14 = dcn bt rplace (k15 - rplace)) (jNm : ¬ (k14 = (k15 - rplace) ∧ k14 ≤ 3) ∨ x16 = nI (nvn bt rplace (k15 - rplace))) (jLt : ¬ (k14 = 0 ∧ (k15 - rplace) ≤ 7) ∨ w17 = Int64.ofNat (p8 bt rplace (k15 - rplace))) (jLe : k14 ≠ 0 ∨ LET bt rplace (k15 - rplace)) (hm23 : 940 - k15 < n21 + 1) (c24 : rlength ≤ k15) (f27 : y25.toInt = ((k15 : Nat) : Int) - ((rbegin : Nat) : Int)) (c28 : nI k14 ≠ 0) (c29 : nI k14 ≠ y25) : ((nI 1) = nI 2 ∧ dcn bt rplace (k15 - rplace) = 0 ∧ (k15 - rplace) ≤ 7 ∧ w17 = Int64.ofNat (p8 bt rplace (k15 - rplace)) ∧ LET bt rplace (k15 - rplace)) ∨ ((nI 1) = nI 3 ∧ dcn bt rplace (k15 - rplace) = (k15 - rplace) ∧ (k15 - rplace) ≤ 3 ∧ x16 = nI (nvn bt rplace (k15 - rplace))) ∨ ((nI 1) = nI 1 ∧ ¬ (dcn bt rplace (k15 - rplace) = 0 ∧ (k15 - rplace) ≤ 7) ∧ ¬ (dcn bt rplace (k15 - rplace) = (k15 - rplace) ∧ (k15 - rplace) ≤ 3)) := by
  have q1 : ¬ (k14 = 0 ∧ k15 - rplace ≤ 7) ∧ ¬ (k14 = k15 - rplace ∧ k15 - rplace ≤ 3) := by
    have h5 := dcn_le bt rplace (k15 - rplace)
    have b_x16 := ia_b x16
    have b_y25 := ia_b y25
    have b_w17 := Int64.toInt_lt w17
    try have k_0 := ia_n (nvn bt rplace (k15 - rplace)) (by first | decide | omega)
    try have k_1 := ia_n k14 (by first | decide | omega)
    try have k_2 := ia_n 1 (by first | decide | omega)
    try have k_3 := ia_n 2 (by first | decide | omega)
    try have k_4 := ia_n 3 (by first | decide | omega)
    try simp only [ia_lt, ia_le, ia_eq, ia_m1, ia_0, ia_1, ne_eq, true_and, and_true, false_and, and_false, or_false, false_or, or_true, true_or, not_true_eq_false, not_false_eq_true] at *
    all_goals omega
  rw [← jDc]
  exact Or.inr (Or.inr ⟨rfl, q1⟩)
set_option maxRecDepth 20000 in
theorem lf_f_readRun_4 (bt : Nat → Nat) (rlength : Nat) (rplace : Nat) (rbegin : Nat) (rtapeF : Nat → Int32) (k14 : Nat) (k15 : Nat) (x16 : Int32) (w17 : Int64) (n21 : Nat) (y25 : Int32) (iv_rreader_0 : rlength ≤ 940) (iv_rreader_1 : rplace ≤ rlength) (iv_rreader_3 : rbegin ≤ 940) (hTC : TC bt rtapeF) (hbp : rbegin = rplace) (hpl : rplace < rlength) (hal : cAl (bt rplace)) (j18 : k15 ≤ 940) (j19 : k15 ≤ rlength) (jPl : rplace ≤ k15) (jRn : rn bt rlength rplace = rn bt rlength k15) (jDc : k14 = dcn bt rplace (k15 - rplace)) (jNm : ¬ (k14 = (k15 - rplace) ∧ k14 ≤ 3) ∨ x16 = nI (nvn bt rplace (k15 - rplace))) (jLt : ¬ (k14 = 0 ∧ (k15 - rplace) ≤ 7) ∨ w17 = Int64.ofNat (p8 bt rplace (k15 - rplace))) (jLe : k14 ≠ 0 ∨ LET bt rplace (k15 - rplace)) (hm23 : 940 - k15 < n21 + 1) (c24 : rlength ≤ k15) (f27 : y25.toInt = ((k15 : Nat) : Int) - ((rbegin : Nat) : Int)) (c28 : nI k14 ≠ 0) (c29 : nI k14 = y25) (c30 : nI 3 < y25) : k15 = rn bt rlength rplace := by
  have hE : k15 = rn bt rlength rplace := by
    rw [jRn]
    refine (rn_stop (fun h9 => ?_)).symm
    obtain ⟨h8, h9⟩ := h9
    unfold cAl cLe cDi at h9
    have h7 := hTC k15 (by omega)
    have b_x16 := ia_b x16
    have b_y25 := ia_b y25
    have b_w17 := Int64.toInt_lt w17
    try have k_0 := ia_n (nvn bt rplace (k15 - rplace)) (by first | decide | omega)
    try have k_1 := ia_n k14 (by first | decide | omega)
    try have k_2 := ia_n 3 (by first | decide | omega)
    try simp only [ia_lt, ia_le, ia_eq, ia_m1, ia_0, ia_1, ne_eq, true_and, and_true, false_and, and_false, or_false, false_or, or_true, true_or, not_true_eq_false, not_false_eq_true] at *
    all_goals omega
  exact hE
set_option maxRecDepth 20000 in
theorem lf_f_readRun_5 (bt : Nat → Nat) (rlength : Nat) (rplace : Nat) (rbegin : Nat) (rtapeF : Nat → Int32) (k14 : Nat) (k15 : Nat) (x16 : Int32) (w17 : Int64) (n21 : Nat) (y25 : Int32) (iv_rreader_0 : rlength ≤ 940) (iv_rreader_1 : rplace ≤ rlength) (iv_rreader_3 : rbegin ≤ 940) (hTC : TC bt rtapeF) (hbp : rbegin = rplace) (hpl : rplace < rlength) (hal : cAl (bt rplace)) (j18 : k15 ≤ 940) (j19 : k15 ≤ rlength) (jPl : rplace ≤ k15) (jRn : rn bt rlength rplace = rn bt rlength k15) (jDc : k14 = dcn bt rplace (k15 - rplace)) (jNm : ¬ (k14 = (k15 - rplace) ∧ k14 ≤ 3) ∨ x16 = nI (nvn bt rplace (k15 - rplace))) (jLt : ¬ (k14 = 0 ∧ (k15 - rplace) ≤ 7) ∨ w17 = Int64.ofNat (p8 bt rplace (k15 - rplace))) (jLe : k14 ≠ 0 ∨ LET bt rplace (k15 - rplace)) (hm23 : 940 - k15 < n21 + 1) (c24 : rlength ≤ k15) (f27 : y25.toInt = ((k15 : Nat) : Int) - ((rbegin : Nat) : Int)) (c28 : nI k14 ≠ 0) (c29 : nI k14 = y25) (c30 : nI 3 < y25) : rplace < k15 := by
  have hE : k15 = rn bt rlength rplace := by
    rw [jRn]
    refine (rn_stop (fun h9 => ?_)).symm
    obtain ⟨h8, h9⟩ := h9
    unfold cAl cLe cDi at h9
    have h7 := hTC k15 (by omega)
    have b_x16 := ia_b x16
    have b_y25 := ia_b y25
    have b_w17 := Int64.toInt_lt w17
    try have k_0 := ia_n (nvn bt rplace (k15 - rplace)) (by first | decide | omega)
    try have k_1 := ia_n k14 (by first | decide | omega)
    try have k_2 := ia_n 3 (by first | decide | omega)
    try simp only [ia_lt, ia_le, ia_eq, ia_m1, ia_0, ia_1, ne_eq, true_and, and_true, false_and, and_false, or_false, false_or, or_true, true_or, not_true_eq_false, not_false_eq_true] at *
    all_goals omega
  have h7 := rn_gt hpl hal
  omega
set_option maxRecDepth 20000 in
theorem lf_f_readRun_6 (bt : Nat → Nat) (rlength : Nat) (rplace : Nat) (rbegin : Nat) (rtapeF : Nat → Int32) (k14 : Nat) (k15 : Nat) (x16 : Int32) (w17 : Int64) (n21 : Nat) (y25 : Int32) (iv_rreader_0 : rlength ≤ 940) (iv_rreader_1 : rplace ≤ rlength) (iv_rreader_3 : rbegin ≤ 940) (hTC : TC bt rtapeF) (hbp : rbegin = rplace) (hpl : rplace < rlength) (hal : cAl (bt rplace)) (j18 : k15 ≤ 940) (j19 : k15 ≤ rlength) (jPl : rplace ≤ k15) (jRn : rn bt rlength rplace = rn bt rlength k15) (jDc : k14 = dcn bt rplace (k15 - rplace)) (jNm : ¬ (k14 = (k15 - rplace) ∧ k14 ≤ 3) ∨ x16 = nI (nvn bt rplace (k15 - rplace))) (jLt : ¬ (k14 = 0 ∧ (k15 - rplace) ≤ 7) ∨ w17 = Int64.ofNat (p8 bt rplace (k15 - rplace))) (jLe : k14 ≠ 0 ∨ LET bt rplace (k15 - rplace)) (hm23 : 940 - k15 < n21 + 1) (c24 : rlength ≤ k15) (f27 : y25.toInt = ((k15 : Nat) : Int) - ((rbegin : Nat) : Int)) (c28 : nI k14 ≠ 0) (c29 : nI k14 = y25) (c30 : nI 3 < y25) : ((nI 1) = nI 2 ∧ dcn bt rplace (k15 - rplace) = 0 ∧ (k15 - rplace) ≤ 7 ∧ w17 = Int64.ofNat (p8 bt rplace (k15 - rplace)) ∧ LET bt rplace (k15 - rplace)) ∨ ((nI 1) = nI 3 ∧ dcn bt rplace (k15 - rplace) = (k15 - rplace) ∧ (k15 - rplace) ≤ 3 ∧ x16 = nI (nvn bt rplace (k15 - rplace))) ∨ ((nI 1) = nI 1 ∧ ¬ (dcn bt rplace (k15 - rplace) = 0 ∧ (k15 - rplace) ≤ 7) ∧ ¬ (dcn bt rplace (k15 - rplace) = (k15 - rplace) ∧ (k15 - rplace) ≤ 3)) := by
  have q1 : ¬ (k14 = 0 ∧ k15 - rplace ≤ 7) ∧ ¬ (k14 = k15 - rplace ∧ k15 - rplace ≤ 3) := by
    have h5 := dcn_le bt rplace (k15 - rplace)
    have b_x16 := ia_b x16
    have b_y25 := ia_b y25
    have b_w17 := Int64.toInt_lt w17
    try have k_0 := ia_n (nvn bt rplace (k15 - rplace)) (by first | decide | omega)
    try have k_1 := ia_n k14 (by first | decide | omega)
    try have k_2 := ia_n 3 (by first | decide | omega)
    try have k_3 := ia_n 1 (by first | decide | omega)
    try have k_4 := ia_n 2 (by first | decide | omega)
    try simp only [ia_lt, ia_le, ia_eq, ia_m1, ia_0, ia_1, ne_eq, true_and, and_true, false_and, and_false, or_false, false_or, or_true, true_or, not_true_eq_false, not_false_eq_true] at *
    all_goals omega
  rw [← jDc]
  exact Or.inr (Or.inr ⟨rfl, q1⟩)
set_option maxRecDepth 20000 in
theorem lf_f_readRun_7 (bt : Nat → Nat) (rlength : Nat) (rplace : Nat) (rbegin : Nat) (rtapeF : Nat → Int32) (k14 : Nat) (k15 : Nat) (x16 : Int32) (w17 : Int64) (n21 : Nat) (y25 : Int32) (iv_rreader_0 : rlength ≤ 940) (iv_rreader_1 : rplace ≤ rlength) (iv_rreader_3 : rbegin ≤ 940) (hTC : TC bt rtapeF) (hbp : rbegin = rplace) (hpl : rplace < rlength) (hal : cAl (bt rplace)) (j18 : k15 ≤ 940) (j19 : k15 ≤ rlength) (jPl : rplace ≤ k15) (jRn : rn bt rlength rplace = rn bt rlength k15) (jDc : k14 = dcn bt rplace (k15 - rplace)) (jNm : ¬ (k14 = (k15 - rplace) ∧ k14 ≤ 3) ∨ x16 = nI (nvn bt rplace (k15 - rplace))) (jLt : ¬ (k14 = 0 ∧ (k15 - rplace) ≤ 7) ∨ w17 = Int64.ofNat (p8 bt rplace (k15 - rplace))) (jLe : k14 ≠ 0 ∨ LET bt rplace (k15 - rplace)) (hm23 : 940 - k15 < n21 + 1) (c24 : rlength ≤ k15) (f27 : y25.toInt = ((k15 : Nat) : Int) - ((rbegin : Nat) : Int)) (c28 : nI k14 ≠ 0) (c29 : nI k14 = y25) (c30 : ¬ nI 3 < y25) : k15 = rn bt rlength rplace := by
  have hE : k15 = rn bt rlength rplace := by
    rw [jRn]
    refine (rn_stop (fun h9 => ?_)).symm
    obtain ⟨h8, h9⟩ := h9
    unfold cAl cLe cDi at h9
    have h7 := hTC k15 (by omega)
    have b_x16 := ia_b x16
    have b_y25 := ia_b y25
    have b_w17 := Int64.toInt_lt w17
    try have k_0 := ia_n (nvn bt rplace (k15 - rplace)) (by first | decide | omega)
    try have k_1 := ia_n k14 (by first | decide | omega)
    try have k_2 := ia_n 3 (by first | decide | omega)
    try simp only [ia_lt, ia_le, ia_eq, ia_m1, ia_0, ia_1, ne_eq, true_and, and_true, false_and, and_false, or_false, false_or, or_true, true_or, not_true_eq_false, not_false_eq_true] at *
    all_goals omega
  exact hE
set_option maxRecDepth 20000 in
theorem lf_f_readRun_8 (bt : Nat → Nat) (rlength : Nat) (rplace : Nat) (rbegin : Nat) (rtapeF : Nat → Int32) (k14 : Nat) (k15 : Nat) (x16 : Int32) (w17 : Int64) (n21 : Nat) (y25 : Int32) (iv_rreader_0 : rlength ≤ 940) (iv_rreader_1 : rplace ≤ rlength) (iv_rreader_3 : rbegin ≤ 940) (hTC : TC bt rtapeF) (hbp : rbegin = rplace) (hpl : rplace < rlength) (hal : cAl (bt rplace)) (j18 : k15 ≤ 940) (j19 : k15 ≤ rlength) (jPl : rplace ≤ k15) (jRn : rn bt rlength rplace = rn bt rlength k15) (jDc : k14 = dcn bt rplace (k15 - rplace)) (jNm : ¬ (k14 = (k15 - rplace) ∧ k14 ≤ 3) ∨ x16 = nI (nvn bt rplace (k15 - rplace))) (jLt : ¬ (k14 = 0 ∧ (k15 - rplace) ≤ 7) ∨ w17 = Int64.ofNat (p8 bt rplace (k15 - rplace))) (jLe : k14 ≠ 0 ∨ LET bt rplace (k15 - rplace)) (hm23 : 940 - k15 < n21 + 1) (c24 : rlength ≤ k15) (f27 : y25.toInt = ((k15 : Nat) : Int) - ((rbegin : Nat) : Int)) (c28 : nI k14 ≠ 0) (c29 : nI k14 = y25) (c30 : ¬ nI 3 < y25) : rplace < k15 := by
  have hE : k15 = rn bt rlength rplace := by
    rw [jRn]
    refine (rn_stop (fun h9 => ?_)).symm
    obtain ⟨h8, h9⟩ := h9
    unfold cAl cLe cDi at h9
    have h7 := hTC k15 (by omega)
    have b_x16 := ia_b x16
    have b_y25 := ia_b y25
    have b_w17 := Int64.toInt_lt w17
    try have k_0 := ia_n (nvn bt rplace (k15 - rplace)) (by first | decide | omega)
    try have k_1 := ia_n k14 (by first | decide | omega)
    try have k_2 := ia_n 3 (by first | decide | omega)
    try simp only [ia_lt, ia_le, ia_eq, ia_m1, ia_0, ia_1, ne_eq, true_and, and_true, false_and, and_false, or_false, false_or, or_true, true_or, not_true_eq_false, not_false_eq_true] at *
    all_goals omega
  have h7 := rn_gt hpl hal
  omega
set_option maxRecDepth 20000 in
theorem lf_f_readRun_9 (bt : Nat → Nat) (rlength : Nat) (rplace : Nat) (rbegin : Nat) (rtapeF : Nat → Int32) (k14 : Nat) (k15 : Nat) (x16 : Int32) (w17 : Int64) (n21 : Nat) (y25 : Int32) (iv_rreader_0 : rlength ≤ 940) (iv_rreader_1 : rplace ≤ rlength) (iv_rreader_3 : rbegin ≤ 940) (hTC : TC bt rtapeF) (hbp : rbegin = rplace) (hpl : rplace < rlength) (hal : cAl (bt rplace)) (j18 : k15 ≤ 940) (j19 : k15 ≤ rlength) (jPl : rplace ≤ k15) (jRn : rn bt rlength rplace = rn bt rlength k15) (jDc : k14 = dcn bt rplace (k15 - rplace)) (jNm : ¬ (k14 = (k15 - rplace) ∧ k14 ≤ 3) ∨ x16 = nI (nvn bt rplace (k15 - rplace))) (jLt : ¬ (k14 = 0 ∧ (k15 - rplace) ≤ 7) ∨ w17 = Int64.ofNat (p8 bt rplace (k15 - rplace))) (jLe : k14 ≠ 0 ∨ LET bt rplace (k15 - rplace)) (hm23 : 940 - k15 < n21 + 1) (c24 : rlength ≤ k15) (f27 : y25.toInt = ((k15 : Nat) : Int) - ((rbegin : Nat) : Int)) (c28 : nI k14 ≠ 0) (c29 : nI k14 = y25) (c30 : ¬ nI 3 < y25) : ((nI 3) = nI 2 ∧ dcn bt rplace (k15 - rplace) = 0 ∧ (k15 - rplace) ≤ 7 ∧ w17 = Int64.ofNat (p8 bt rplace (k15 - rplace)) ∧ LET bt rplace (k15 - rplace)) ∨ ((nI 3) = nI 3 ∧ dcn bt rplace (k15 - rplace) = (k15 - rplace) ∧ (k15 - rplace) ≤ 3 ∧ x16 = nI (nvn bt rplace (k15 - rplace))) ∨ ((nI 3) = nI 1 ∧ ¬ (dcn bt rplace (k15 - rplace) = 0 ∧ (k15 - rplace) ≤ 7) ∧ ¬ (dcn bt rplace (k15 - rplace) = (k15 - rplace) ∧ (k15 - rplace) ≤ 3)) := by
  have q1 : k14 = k15 - rplace ∧ k14 ≤ 3 := by
    have h5 := dcn_le bt rplace (k15 - rplace)
    have b_x16 := ia_b x16
    have b_y25 := ia_b y25
    have b_w17 := Int64.toInt_lt w17
    try have k_0 := ia_n (nvn bt rplace (k15 - rplace)) (by first | decide | omega)
    try have k_1 := ia_n k14 (by first | decide | omega)
    try have k_2 := ia_n 3 (by first | decide | omega)
    try have k_3 := ia_n 2 (by first | decide | omega)
    try have k_4 := ia_n 1 (by first | decide | omega)
    try simp only [ia_lt, ia_le, ia_eq, ia_m1, ia_0, ia_1, ne_eq, true_and, and_true, false_and, and_false, or_false, false_or, or_true, true_or, not_true_eq_false, not_false_eq_true] at *
    all_goals omega
  refine Or.inr (Or.inl ⟨rfl, by omega, by omega, jNm.resolve_left (fun h => h q1)⟩)
set_option maxRecDepth 20000 in
theorem lf_f_readRun_10 (bt : Nat → Nat) (rlength : Nat) (rplace : Nat) (rbegin : Nat) (rtapeF : Nat → Int32) (k14 : Nat) (k15 : Nat) (x16 : Int32) (w17 : Int64) (n21 : Nat) (y25 : Int32) (iv_rreader_0 : rlength ≤ 940) (iv_rreader_1 : rplace ≤ rlength) (iv_rreader_3 : rbegin ≤ 940) (hTC : TC bt rtapeF) (hbp : rbegin = rplace) (hpl : rplace < rlength) (hal : cAl (bt rplace)) (j18 : k15 ≤ 940) (j19 : k15 ≤ rlength) (jPl : rplace ≤ k15) (jRn : rn bt rlength rplace = rn bt rlength k15) (jDc : k14 = dcn bt rplace (k15 - rplace)) (jNm : ¬ (k14 = (k15 - rplace) ∧ k14 ≤ 3) ∨ x16 = nI (nvn bt rplace (k15 - rplace))) (jLt : ¬ (k14 = 0 ∧ (k15 - rplace) ≤ 7) ∨ w17 = Int64.ofNat (p8 bt rplace (k15 - rplace))) (jLe : k14 ≠ 0 ∨ LET bt rplace (k15 - rplace)) (hm23 : 940 - k15 < n21 + 1) (c24 : rlength ≤ k15) (f27 : y25.toInt = ((k15 : Nat) : Int) - ((rbegin : Nat) : Int)) (c28 : nI k14 = 0) (c31 : nI 7 < y25) (c32 : nI k14 ≠ y25) : k15 = rn bt rlength rplace := by
  have hE : k15 = rn bt rlength rplace := by
    rw [jRn]
    refine (rn_stop (fun h9 => ?_)).symm
    obtain ⟨h8, h9⟩ := h9
    unfold cAl cLe cDi at h9
    have h7 := hTC k15 (by omega)
    have b_x16 := ia_b x16
    have b_y25 := ia_b y25
    have b_w17 := Int64.toInt_lt w17
    try have k_0 := ia_n (nvn bt rplace (k15 - rplace)) (by first | decide | omega)
    try have k_1 := ia_n k14 (by first | decide | omega)
    try have k_2 := ia_n 7 (by first | decide | omega)
    try simp only [ia_lt, ia_le, ia_eq, ia_m1, ia_0, ia_1, ne_eq, true_and, and_true, false_and, and_false, or_false, false_or, or_true, true_or, not_true_eq_false, not_false_eq_true] at *
    all_goals omega
  exact hE
set_option maxRecDepth 20000 in
theorem lf_f_readRun_11 (bt : Nat → Nat) (rlength : Nat) (rplace : Nat) (rbegin : Nat) (rtapeF : Nat → Int32) (k14 : Nat) (k15 : Nat) (x16 : Int32) (w17 : Int64) (n21 : Nat) (y25 : Int32) (iv_rreader_0 : rlength ≤ 940) (iv_rreader_1 : rplace ≤ rlength) (iv_rreader_3 : rbegin ≤ 940) (hTC : TC bt rtapeF) (hbp : rbegin = rplace) (hpl : rplace < rlength) (hal : cAl (bt rplace)) (j18 : k15 ≤ 940) (j19 : k15 ≤ rlength) (jPl : rplace ≤ k15) (jRn : rn bt rlength rplace = rn bt rlength k15) (jDc : k14 = dcn bt rplace (k15 - rplace)) (jNm : ¬ (k14 = (k15 - rplace) ∧ k14 ≤ 3) ∨ x16 = nI (nvn bt rplace (k15 - rplace))) (jLt : ¬ (k14 = 0 ∧ (k15 - rplace) ≤ 7) ∨ w17 = Int64.ofNat (p8 bt rplace (k15 - rplace))) (jLe : k14 ≠ 0 ∨ LET bt rplace (k15 - rplace)) (hm23 : 940 - k15 < n21 + 1) (c24 : rlength ≤ k15) (f27 : y25.toInt = ((k15 : Nat) : Int) - ((rbegin : Nat) : Int)) (c28 : nI k14 = 0) (c31 : nI 7 < y25) (c32 : nI k14 ≠ y25) : rplace < k15 := by
  have hE : k15 = rn bt rlength rplace := by
    rw [jRn]
    refine (rn_stop (fun h9 => ?_)).symm
    obtain ⟨h8, h9⟩ := h9
    unfold cAl cLe cDi at h9
    have h7 := hTC k15 (by omega)
    have b_x16 := ia_b x16
    have b_y25 := ia_b y25
    have b_w17 := Int64.toInt_lt w17
    try have k_0 := ia_n (nvn bt rplace (k15 - rplace)) (by first | decide | omega)
    try have k_1 := ia_n k14 (by first | decide | omega)
    try have k_2 := ia_n 7 (by first | decide | omega)
    try simp only [ia_lt, ia_le, ia_eq, ia_m1, ia_0, ia_1, ne_eq, true_and, and_true, false_and, and_false, or_false, false_or, or_true, true_or, not_true_eq_false, not_false_eq_true] at *
    all_goals omega
  have h7 := rn_gt hpl hal
  omega
set_option maxRecDepth 20000 in
theorem lf_f_readRun_12 (bt : Nat → Nat) (rlength : Nat) (rplace : Nat) (rbegin : Nat) (rtapeF : Nat → Int32) (k14 : Nat) (k15 : Nat) (x16 : Int32) (w17 : Int64) (n21 : Nat) (y25 : Int32) (iv_rreader_0 : rlength ≤ 940) (iv_rreader_1 : rplace ≤ rlength) (iv_rreader_3 : rbegin ≤ 940) (hTC : TC bt rtapeF) (hbp : rbegin = rplace) (hpl : rplace < rlength) (hal : cAl (bt rplace)) (j18 : k15 ≤ 940) (j19 : k15 ≤ rlength) (jPl : rplace ≤ k15) (jRn : rn bt rlength rplace = rn bt rlength k15) (jDc : k14 = dcn bt rplace (k15 - rplace)) (jNm : ¬ (k14 = (k15 - rplace) ∧ k14 ≤ 3) ∨ x16 = nI (nvn bt rplace (k15 - rplace))) (jLt : ¬ (k14 = 0 ∧ (k15 - rplace) ≤ 7) ∨ w17 = Int64.ofNat (p8 bt rplace (k15 - rplace))) (jLe : k14 ≠ 0 ∨ LET bt rplace (k15 - rplace)) (hm23 : 940 - k15 < n21 + 1) (c24 : rlength ≤ k15) (f27 : y25.toInt = ((k15 : Nat) : Int) - ((rbegin : Nat) : Int)) (c28 : nI k14 = 0) (c31 : nI 7 < y25) (c32 : nI k14 ≠ y25) : ((nI 1) = nI 2 ∧ dcn bt rplace (k15 - rplace) = 0 ∧ (k15 - rplace) ≤ 7 ∧ w17 = Int64.ofNat (p8 bt rplace (k15 - rplace)) ∧ LET bt rplace (k15 - rplace)) ∨ ((nI 1) = nI 3 ∧ dcn bt rplace (k15 - rplace) = (k15 - rplace) ∧ (k15 - rplace) ≤ 3 ∧ x16 = nI (nvn bt rplace (k15 - rplace))) ∨ ((nI 1) = nI 1 ∧ ¬ (dcn bt rplace (k15 - rplace) = 0 ∧ (k15 - rplace) ≤ 7) ∧ ¬ (dcn bt rplace (k15 - rplace) = (k15 - rplace) ∧ (k15 - rplace) ≤ 3)) := by
  have q1 : ¬ (k14 = 0 ∧ k15 - rplace ≤ 7) ∧ ¬ (k14 = k15 - rplace ∧ k15 - rplace ≤ 3) := by
    have h5 := dcn_le bt rplace (k15 - rplace)
    have b_x16 := ia_b x16
    have b_y25 := ia_b y25
    have b_w17 := Int64.toInt_lt w17
    try have k_0 := ia_n (nvn bt rplace (k15 - rplace)) (by first | decide | omega)
    try have k_1 := ia_n k14 (by first | decide | omega)
    try have k_2 := ia_n 7 (by first | decide | omega)
    try have k_3 := ia_n 1 (by first | decide | omega)
    try have k_4 := ia_n 2 (by first | decide | omega)
    try have k_5 := ia_n 3 (by first | decide | omega)
    try simp only [ia_lt, ia_le, ia_eq, ia_m1, ia_0, ia_1, ne_eq, true_and, and_true, false_and, and_false, or_false, false_or, or_true, true_or, not_true_eq_false, not_false_eq_true] at *
    all_goals omega
  rw [← jDc]
  exact Or.inr (Or.inr ⟨rfl, q1⟩)
set_option maxRecDepth 20000 in
theorem lf_f_readRun_13 (bt : Nat → Nat) (rlength : Nat) (rplace : Nat) (rbegin : Nat) (rtapeF : Nat → Int32) (k14 : Nat) (k15 : Nat) (x16 : Int32) (w17 : Int64) (n21 : Nat) (y25 : Int32) (iv_rreader_0 : rlength ≤ 940) (iv_rreader_1 : rplace ≤ rlength) (iv_rreader_3 : rbegin ≤ 940) (hTC : TC bt rtapeF) (hbp : rbegin = rplace) (hpl : rplace < rlength) (hal : cAl (bt rplace)) (j18 : k15 ≤ 940) (j19 : k15 ≤ rlength) (jPl : rplace ≤ k15) (jRn : rn bt rlength rplace = rn bt rlength k15) (jDc : k14 = dcn bt rplace (k15 - rplace)) (jNm : ¬ (k14 = (k15 - rplace) ∧ k14 ≤ 3) ∨ x16 = nI (nvn bt rplace (k15 - rplace))) (jLt : ¬ (k14 = 0 ∧ (k15 - rplace) ≤ 7) ∨ w17 = Int64.ofNat (p8 bt rplace (k15 - rplace))) (jLe : k14 ≠ 0 ∨ LET bt rplace (k15 - rplace)) (hm23 : 940 - k15 < n21 + 1) (c24 : rlength ≤ k15) (f27 : y25.toInt = ((k15 : Nat) : Int) - ((rbegin : Nat) : Int)) (c28 : nI k14 = 0) (c31 : nI 7 < y25) (c32 : nI k14 = y25) (c33 : nI 3 < y25) : k15 = rn bt rlength rplace := by
  have hE : k15 = rn bt rlength rplace := by
    rw [jRn]
    refine (rn_stop (fun h9 => ?_)).symm
    obtain ⟨h8, h9⟩ := h9
    unfold cAl cLe cDi at h9
    have h7 := hTC k15 (by omega)
    have b_x16 := ia_b x16
    have b_y25 := ia_b y25
    have b_w17 := Int64.toInt_lt w17
    try have k_0 := ia_n (nvn bt rplace (k15 - rplace)) (by first | decide | omega)
    try have k_1 := ia_n k14 (by first | decide | omega)
    try have k_2 := ia_n 7 (by first | decide | omega)
    try have k_3 := ia_n 3 (by first | decide | omega)
    try simp only [ia_lt, ia_le, ia_eq, ia_m1, ia_0, ia_1, ne_eq, true_and, and_true, false_and, and_false, or_false, false_or, or_true, true_or, not_true_eq_false, not_false_eq_true] at *
    all_goals omega
  exact hE
set_option maxRecDepth 20000 in
theorem lf_f_readRun_14 (bt : Nat → Nat) (rlength : Nat) (rplace : Nat) (rbegin : Nat) (rtapeF : Nat → Int32) (k14 : Nat) (k15 : Nat) (x16 : Int32) (w17 : Int64) (n21 : Nat) (y25 : Int32) (iv_rreader_0 : rlength ≤ 940) (iv_rreader_1 : rplace ≤ rlength) (iv_rreader_3 : rbegin ≤ 940) (hTC : TC bt rtapeF) (hbp : rbegin = rplace) (hpl : rplace < rlength) (hal : cAl (bt rplace)) (j18 : k15 ≤ 940) (j19 : k15 ≤ rlength) (jPl : rplace ≤ k15) (jRn : rn bt rlength rplace = rn bt rlength k15) (jDc : k14 = dcn bt rplace (k15 - rplace)) (jNm : ¬ (k14 = (k15 - rplace) ∧ k14 ≤ 3) ∨ x16 = nI (nvn bt rplace (k15 - rplace))) (jLt : ¬ (k14 = 0 ∧ (k15 - rplace) ≤ 7) ∨ w17 = Int64.ofNat (p8 bt rplace (k15 - rplace))) (jLe : k14 ≠ 0 ∨ LET bt rplace (k15 - rplace)) (hm23 : 940 - k15 < n21 + 1) (c24 : rlength ≤ k15) (f27 : y25.toInt = ((k15 : Nat) : Int) - ((rbegin : Nat) : Int)) (c28 : nI k14 = 0) (c31 : nI 7 < y25) (c32 : nI k14 = y25) (c33 : nI 3 < y25) : rplace < k15 := by
  have hE : k15 = rn bt rlength rplace := by
    rw [jRn]
    refine (rn_stop (fun h9 => ?_)).symm
    obtain ⟨h8, h9⟩ := h9
    unfold cAl cLe cDi at h9
    have h7 := hTC k15 (by omega)
    have b_x16 := ia_b x16
    have b_y25 := ia_b y25
    have b_w17 := Int64.toInt_lt w17
    try have k_0 := ia_n (nvn bt rplace (k15 - rplace)) (by first | decide | omega)
    try have k_1 := ia_n k14 (by first | decide | omega)
    try have k_2 := ia_n 7 (by first | decide | omega)
    try have k_3 := ia_n 3 (by first | decide | omega)
    try simp only [ia_lt, ia_le, ia_eq, ia_m1, ia_0, ia_1, ne_eq, true_and, and_true, false_and, and_false, or_false, false_or, or_true, true_or, not_true_eq_false, not_false_eq_true] at *
    all_goals omega
  have h7 := rn_gt hpl hal
  omega
set_option maxRecDepth 20000 in
theorem lf_f_readRun_15 (bt : Nat → Nat) (rlength : Nat) (rplace : Nat) (rbegin : Nat) (rtapeF : Nat → Int32) (k14 : Nat) (k15 : Nat) (x16 : Int32) (w17 : Int64) (n21 : Nat) (y25 : Int32) (iv_rreader_0 : rlength ≤ 940) (iv_rreader_1 : rplace ≤ rlength) (iv_rreader_3 : rbegin ≤ 940) (hTC : TC bt rtapeF) (hbp : rbegin = rplace) (hpl : rplace < rlength) (hal : cAl (bt rplace)) (j18 : k15 ≤ 940) (j19 : k15 ≤ rlength) (jPl : rplace ≤ k15) (jRn : rn bt rlength rplace = rn bt rlength k15) (jDc : k14 = dcn bt rplace (k15 - rplace)) (jNm : ¬ (k14 = (k15 - rplace) ∧ k14 ≤ 3) ∨ x16 = nI (nvn bt rplace (k15 - rplace))) (jLt : ¬ (k14 = 0 ∧ (k15 - rplace) ≤ 7) ∨ w17 = Int64.ofNat (p8 bt rplace (k15 - rplace))) (jLe : k14 ≠ 0 ∨ LET bt rplace (k15 - rplace)) (hm23 : 940 - k15 < n21 + 1) (c24 : rlength ≤ k15) (f27 : y25.toInt = ((k15 : Nat) : Int) - ((rbegin : Nat) : Int)) (c28 : nI k14 = 0) (c31 : nI 7 < y25) (c32 : nI k14 = y25) (c33 : nI 3 < y25) : ((nI 1) = nI 2 ∧ dcn bt rplace (k15 - rplace) = 0 ∧ (k15 - rplace) ≤ 7 ∧ w17 = Int64.ofNat (p8 bt rplace (k15 - rplace)) ∧ LET bt rplace (k15 - rplace)) ∨ ((nI 1) = nI 3 ∧ dcn bt rplace (k15 - rplace) = (k15 - rplace) ∧ (k15 - rplace) ≤ 3 ∧ x16 = nI (nvn bt rplace (k15 - rplace))) ∨ ((nI 1) = nI 1 ∧ ¬ (dcn bt rplace (k15 - rplace) = 0 ∧ (k15 - rplace) ≤ 7) ∧ ¬ (dcn bt rplace (k15 - rplace) = (k15 - rplace) ∧ (k15 - rplace) ≤ 3)) := by
  have q1 : ¬ (k14 = 0 ∧ k15 - rplace ≤ 7) ∧ ¬ (k14 = k15 - rplace ∧ k15 - rplace ≤ 3) := by
    have h5 := dcn_le bt rplace (k15 - rplace)
    have b_x16 := ia_b x16
    have b_y25 := ia_b y25
    have b_w17 := Int64.toInt_lt w17
    try have k_0 := ia_n (nvn bt rplace (k15 - rplace)) (by first | decide | omega)
    try have k_1 := ia_n k14 (by first | decide | omega)
    try have k_2 := ia_n 7 (by first | decide | omega)
    try have k_3 := ia_n 3 (by first | decide | omega)
    try have k_4 := ia_n 1 (by first | decide | omega)
    try have k_5 := ia_n 2 (by first | decide | omega)
    try simp only [ia_lt, ia_le, ia_eq, ia_m1, ia_0, ia_1, ne_eq, true_and, and_true, false_and, and_false, or_false, false_or, or_true, true_or, not_true_eq_false, not_false_eq_true] at *
    all_goals omega
  rw [← jDc]
  exact Or.inr (Or.inr ⟨rfl, q1⟩)
set_option maxRecDepth 20000 in
theorem lf_f_readRun_16 (bt : Nat → Nat) (rlength : Nat) (rplace : Nat) (rbegin : Nat) (rtapeF : Nat → Int32) (k14 : Nat) (k15 : Nat) (x16 : Int32) (w17 : Int64) (n21 : Nat) (y25 : Int32) (iv_rreader_0 : rlength ≤ 940) (iv_rreader_1 : rplace ≤ rlength) (iv_rreader_3 : rbegin ≤ 940) (hTC : TC bt rtapeF) (hbp : rbegin = rplace) (hpl : rplace < rlength) (hal : cAl (bt rplace)) (j18 : k15 ≤ 940) (j19 : k15 ≤ rlength) (jPl : rplace ≤ k15) (jRn : rn bt rlength rplace = rn bt rlength k15) (jDc : k14 = dcn bt rplace (k15 - rplace)) (jNm : ¬ (k14 = (k15 - rplace) ∧ k14 ≤ 3) ∨ x16 = nI (nvn bt rplace (k15 - rplace))) (jLt : ¬ (k14 = 0 ∧ (k15 - rplace) ≤ 7) ∨ w17 = Int64.ofNat (p8 bt rplace (k15 - rplace))) (jLe : k14 ≠ 0 ∨ LET bt rplace (k15 - rplace)) (hm23 : 940 - k15 < n21 + 1) (c24 : rlength ≤ k15) (f27 : y25.toInt = ((k15 : Nat) : Int) - ((rbegin : Nat) : Int)) (c28 : nI k14 = 0) (c31 : nI 7 < y25) (c32 : nI k14 = y25) (c33 : ¬ nI 3 < y25) : k15 = rn bt rlength rplace := by
  have hE : k15 = rn bt rlength rplace := by
    rw [jRn]
    refine (rn_stop (fun h9 => ?_)).symm
    obtain ⟨h8, h9⟩ := h9
    unfold cAl cLe cDi at h9
    have h7 := hTC k15 (by omega)
    have b_x16 := ia_b x16
    have b_y25 := ia_b y25
    have b_w17 := Int64.toInt_lt w17
    try have k_0 := ia_n (nvn bt rplace (k15 - rplace)) (by first | decide | omega)
    try have k_1 := ia_n k14 (by first | decide | omega)
    try have k_2 := ia_n 7 (by first | decide | omega)
    try have k_3 := ia_n 3 (by first | decide | omega)
    try simp only [ia_lt, ia_le, ia_eq, ia_m1, ia_0, ia_1, ne_eq, true_and, and_true, false_and, and_false, or_false, false_or, or_true, true_or, not_true_eq_false, not_false_eq_true] at *
    all_goals omega
  exact hE
set_option maxRecDepth 20000 in
theorem lf_f_readRun_17 (bt : Nat → Nat) (rlength : Nat) (rplace : Nat) (rbegin : Nat) (rtapeF : Nat → Int32) (k14 : Nat) (k15 : Nat) (x16 : Int32) (w17 : Int64) (n21 : Nat) (y25 : Int32) (iv_rreader_0 : rlength ≤ 940) (iv_rreader_1 : rplace ≤ rlength) (iv_rreader_3 : rbegin ≤ 940) (hTC : TC bt rtapeF) (hbp : rbegin = rplace) (hpl : rplace < rlength) (hal : cAl (bt rplace)) (j18 : k15 ≤ 940) (j19 : k15 ≤ rlength) (jPl : rplace ≤ k15) (jRn : rn bt rlength rplace = rn bt rlength k15) (jDc : k14 = dcn bt rplace (k15 - rplace)) (jNm : ¬ (k14 = (k15 - rplace) ∧ k14 ≤ 3) ∨ x16 = nI (nvn bt rplace (k15 - rplace))) (jLt : ¬ (k14 = 0 ∧ (k15 - rplace) ≤ 7) ∨ w17 = Int64.ofNat (p8 bt rplace (k15 - rplace))) (jLe : k14 ≠ 0 ∨ LET bt rplace (k15 - rplace)) (hm23 : 940 - k15 < n21 + 1) (c24 : rlength ≤ k15) (f27 : y25.toInt = ((k15 : Nat) : Int) - ((rbegin : Nat) : Int)) (c28 : nI k14 = 0) (c31 : nI 7 < y25) (c32 : nI k14 = y25) (c33 : ¬ nI 3 < y25) : rplace < k15 := by
  have hE : k15 = rn bt rlength rplace := by
    rw [jRn]
    refine (rn_stop (fun h9 => ?_)).symm
    obtain ⟨h8, h9⟩ := h9
    unfold cAl cLe cDi at h9
    have h7 := hTC k15 (by omega)
    have b_x16 := ia_b x16
    have b_y25 := ia_b y25
    have b_w17 := Int64.toInt_lt w17
    try have k_0 := ia_n (nvn bt rplace (k15 - rplace)) (by first | decide | omega)
    try have k_1 := ia_n k14 (by first | decide | omega)
    try have k_2 := ia_n 7 (by first | decide | omega)
    try have k_3 := ia_n 3 (by first | decide | omega)
    try simp only [ia_lt, ia_le, ia_eq, ia_m1, ia_0, ia_1, ne_eq, true_and, and_true, false_and, and_false, or_false, false_or, or_true, true_or, not_true_eq_false, not_false_eq_true] at *
    all_goals omega
  have h7 := rn_gt hpl hal
  omega
set_option maxRecDepth 20000 in
theorem lf_f_readRun_18 (bt : Nat → Nat) (rlength : Nat) (rplace : Nat) (rbegin : Nat) (rtapeF : Nat → Int32) (k14 : Nat) (k15 : Nat) (x16 : Int32) (w17 : Int64) (n21 : Nat) (y25 : Int32) (iv_rreader_0 : rlength ≤ 940) (iv_rreader_1 : rplace ≤ rlength) (iv_rreader_3 : rbegin ≤ 940) (hTC : TC bt rtapeF) (hbp : rbegin = rplace) (hpl : rplace < rlength) (hal : cAl (bt rplace)) (j18 : k15 ≤ 940) (j19 : k15 ≤ rlength) (jPl : rplace ≤ k15) (jRn : rn bt rlength rplace = rn bt rlength k15) (jDc : k14 = dcn bt rplace (k15 - rplace)) (jNm : ¬ (k14 = (k15 - rplace) ∧ k14 ≤ 3) ∨ x16 = nI (nvn bt rplace (k15 - rplace))) (jLt : ¬ (k14 = 0 ∧ (k15 - rplace) ≤ 7) ∨ w17 = Int64.ofNat (p8 bt rplace (k15 - rplace))) (jLe : k14 ≠ 0 ∨ LET bt rplace (k15 - rplace)) (hm23 : 940 - k15 < n21 + 1) (c24 : rlength ≤ k15) (f27 : y25.toInt = ((k15 : Nat) : Int) - ((rbegin : Nat) : Int)) (c28 : nI k14 = 0) (c31 : nI 7 < y25) (c32 : nI k14 = y25) (c33 : ¬ nI 3 < y25) : ((nI 3) = nI 2 ∧ dcn bt rplace (k15 - rplace) = 0 ∧ (k15 - rplace) ≤ 7 ∧ w17 = Int64.ofNat (p8 bt rplace (k15 - rplace)) ∧ LET bt rplace (k15 - rplace)) ∨ ((nI 3) = nI 3 ∧ dcn bt rplace (k15 - rplace) = (k15 - rplace) ∧ (k15 - rplace) ≤ 3 ∧ x16 = nI (nvn bt rplace (k15 - rplace))) ∨ ((nI 3) = nI 1 ∧ ¬ (dcn bt rplace (k15 - rplace) = 0 ∧ (k15 - rplace) ≤ 7) ∧ ¬ (dcn bt rplace (k15 - rplace) = (k15 - rplace) ∧ (k15 - rplace) ≤ 3)) := by
  have q1 : k14 = k15 - rplace ∧ k14 ≤ 3 := by
    have h5 := dcn_le bt rplace (k15 - rplace)
    have b_x16 := ia_b x16
    have b_y25 := ia_b y25
    have b_w17 := Int64.toInt_lt w17
    try have k_0 := ia_n (nvn bt rplace (k15 - rplace)) (by first | decide | omega)
    try have k_1 := ia_n k14 (by first | decide | omega)
    try have k_2 := ia_n 7 (by first | decide | omega)
    try have k_3 := ia_n 3 (by first | decide | omega)
    try have k_4 := ia_n 2 (by first | decide | omega)
    try have k_5 := ia_n 1 (by first | decide | omega)
    try simp only [ia_lt, ia_le, ia_eq, ia_m1, ia_0, ia_1, ne_eq, true_and, and_true, false_and, and_false, or_false, false_or, or_true, true_or, not_true_eq_false, not_false_eq_true] at *
    all_goals omega
  refine Or.inr (Or.inl ⟨rfl, by omega, by omega, jNm.resolve_left (fun h => h q1)⟩)
set_option maxRecDepth 20000 in
theorem lf_f_readRun_19 (bt : Nat → Nat) (rlength : Nat) (rplace : Nat) (rbegin : Nat) (rtapeF : Nat → Int32) (k14 : Nat) (k15 : Nat) (x16 : Int32) (w17 : Int64) (n21 : Nat) (y25 : Int32) (iv_rreader_0 : rlength ≤ 940) (iv_rreader_1 : rplace ≤ rlength) (iv_rreader_3 : rbegin ≤ 940) (hTC : TC bt rtapeF) (hbp : rbegin = rplace) (hpl : rplace < rlength) (hal : cAl (bt rplace)) (j18 : k15 ≤ 940) (j19 : k15 ≤ rlength) (jPl : rplace ≤ k15) (jRn : rn bt rlength rplace = rn bt rlength k15) (jDc : k14 = dcn bt rplace (k15 - rplace)) (jNm : ¬ (k14 = (k15 - rplace) ∧ k14 ≤ 3) ∨ x16 = nI (nvn bt rplace (k15 - rplace))) (jLt : ¬ (k14 = 0 ∧ (k15 - rplace) ≤ 7) ∨ w17 = Int64.ofNat (p8 bt rplace (k15 - rplace))) (jLe : k14 ≠ 0 ∨ LET bt rplace (k15 - rplace)) (hm23 : 940 - k15 < n21 + 1) (c24 : rlength ≤ k15) (f27 : y25.toInt = ((k15 : Nat) : Int) - ((rbegin : Nat) : Int)) (c28 : nI k14 = 0) (c31 : ¬ nI 7 < y25) : k15 = rn bt rlength rplace := by
  have hE : k15 = rn bt rlength rplace := by
    rw [jRn]
    refine (rn_stop (fun h9 => ?_)).symm
    obtain ⟨h8, h9⟩ := h9
    unfold cAl cLe cDi at h9
    have h7 := hTC k15 (by omega)
    have b_x16 := ia_b x16
    have b_y25 := ia_b y25
    have b_w17 := Int64.toInt_lt w17
    try have k_0 := ia_n (nvn bt rplace (k15 - rplace)) (by first | decide | omega)
    try have k_1 := ia_n k14 (by first | decide | omega)
    try have k_2 := ia_n 7 (by first | decide | omega)
    try simp only [ia_lt, ia_le, ia_eq, ia_m1, ia_0, ia_1, ne_eq, true_and, and_true, false_and, and_false, or_false, false_or, or_true, true_or, not_true_eq_false, not_false_eq_true] at *
    all_goals omega
  exact hE
set_option maxRecDepth 20000 in
theorem lf_f_readRun_20 (bt : Nat → Nat) (rlength : Nat) (rplace : Nat) (rbegin : Nat) (rtapeF : Nat → Int32) (k14 : Nat) (k15 : Nat) (x16 : Int32) (w17 : Int64) (n21 : Nat) (y25 : Int32) (iv_rreader_0 : rlength ≤ 940) (iv_rreader_1 : rplace ≤ rlength) (iv_rreader_3 : rbegin ≤ 940) (hTC : TC bt rtapeF) (hbp : rbegin = rplace) (hpl : rplace < rlength) (hal : cAl (bt rplace)) (j18 : k15 ≤ 940) (j19 : k15 ≤ rlength) (jPl : rplace ≤ k15) (jRn : rn bt rlength rplace = rn bt rlength k15) (jDc : k14 = dcn bt rplace (k15 - rplace)) (jNm : ¬ (k14 = (k15 - rplace) ∧ k14 ≤ 3) ∨ x16 = nI (nvn bt rplace (k15 - rplace))) (jLt : ¬ (k14 = 0 ∧ (k15 - rplace) ≤ 7) ∨ w17 = Int64.ofNat (p8 bt rplace (k15 - rplace))) (jLe : k14 ≠ 0 ∨ LET bt rplace (k15 - rplace)) (hm23 : 940 - k15 < n21 + 1) (c24 : rlength ≤ k15) (f27 : y25.toInt = ((k15 : Nat) : Int) - ((rbegin : Nat) : Int)) (c28 : nI k14 = 0) (c31 : ¬ nI 7 < y25) : rplace < k15 := by
  have hE : k15 = rn bt rlength rplace := by
    rw [jRn]
    refine (rn_stop (fun h9 => ?_)).symm
    obtain ⟨h8, h9⟩ := h9
    unfold cAl cLe cDi at h9
    have h7 := hTC k15 (by omega)
    have b_x16 := ia_b x16
    have b_y25 := ia_b y25
    have b_w17 := Int64.toInt_lt w17
    try have k_0 := ia_n (nvn bt rplace (k15 - rplace)) (by first | decide | omega)
    try have k_1 := ia_n k14 (by first | decide | omega)
    try have k_2 := ia_n 7 (by first | decide | omega)
    try simp only [ia_lt, ia_le, ia_eq, ia_m1, ia_0, ia_1, ne_eq, true_and, and_true, false_and, and_false, or_false, false_or, or_true, true_or, not_true_eq_false, not_false_eq_true] at *
    all_goals omega
  have h7 := rn_gt hpl hal
  omega
set_option maxRecDepth 20000 in
theorem lf_f_readRun_21 (bt : Nat → Nat) (rlength : Nat) (rplace : Nat) (rbegin : Nat) (rtapeF : Nat → Int32) (k14 : Nat) (k15 : Nat) (x16 : Int32) (w17 : Int64) (n21 : Nat) (y25 : Int32) (iv_rreader_0 : rlength ≤ 940) (iv_rreader_1 : rplace ≤ rlength) (iv_rreader_3 : rbegin ≤ 940) (hTC : TC bt rtapeF) (hbp : rbegin = rplace) (hpl : rplace < rlength) (hal : cAl (bt rplace)) (j18 : k15 ≤ 940) (j19 : k15 ≤ rlength) (jPl : rplace ≤ k15) (jRn : rn bt rlength rplace = rn bt rlength k15) (jDc : k14 = dcn bt rplace (k15 - rplace)) (jNm : ¬ (k14 = (k15 - rplace) ∧ k14 ≤ 3) ∨ x16 = nI (nvn bt rplace (k15 - rplace))) (jLt : ¬ (k14 = 0 ∧ (k15 - rplace) ≤ 7) ∨ w17 = Int64.ofNat (p8 bt rplace (k15 - rplace))) (jLe : k14 ≠ 0 ∨ LET bt rplace (k15 - rplace)) (hm23 : 940 - k15 < n21 + 1) (c24 : rlength ≤ k15) (f27 : y25.toInt = ((k15 : Nat) : Int) - ((rbegin : Nat) : Int)) (c28 : nI k14 = 0) (c31 : ¬ nI 7 < y25) : ((nI 2) = nI 2 ∧ dcn bt rplace (k15 - rplace) = 0 ∧ (k15 - rplace) ≤ 7 ∧ w17 = Int64.ofNat (p8 bt rplace (k15 - rplace)) ∧ LET bt rplace (k15 - rplace)) ∨ ((nI 2) = nI 3 ∧ dcn bt rplace (k15 - rplace) = (k15 - rplace) ∧ (k15 - rplace) ≤ 3 ∧ x16 = nI (nvn bt rplace (k15 - rplace))) ∨ ((nI 2) = nI 1 ∧ ¬ (dcn bt rplace (k15 - rplace) = 0 ∧ (k15 - rplace) ≤ 7) ∧ ¬ (dcn bt rplace (k15 - rplace) = (k15 - rplace) ∧ (k15 - rplace) ≤ 3)) := by
  have q1 : k14 = 0 ∧ k15 - rplace ≤ 7 := by
    have h5 := dcn_le bt rplace (k15 - rplace)
    have b_x16 := ia_b x16
    have b_y25 := ia_b y25
    have b_w17 := Int64.toInt_lt w17
    try have k_0 := ia_n (nvn bt rplace (k15 - rplace)) (by first | decide | omega)
    try have k_1 := ia_n k14 (by first | decide | omega)
    try have k_2 := ia_n 7 (by first | decide | omega)
    try have k_3 := ia_n 2 (by first | decide | omega)
    try have k_4 := ia_n 3 (by first | decide | omega)
    try have k_5 := ia_n 1 (by first | decide | omega)
    try simp only [ia_lt, ia_le, ia_eq, ia_m1, ia_0, ia_1, ne_eq, true_and, and_true, false_and, and_false, or_false, false_or, or_true, true_or, not_true_eq_false, not_false_eq_true] at *
    all_goals omega
  refine Or.inl ⟨rfl, by omega, q1.2, jLt.resolve_left (fun h => h q1), jLe.resolve_left (fun h => h q1.1)⟩
set_option maxRecDepth 20000 in
theorem lf_f_readRun_22 (bt : Nat → Nat) (rlength : Nat) (rplace : Nat) (rbegin : Nat) (rtapeF : Nat → Int32) (k14 : Nat) (k15 : Nat) (x16 : Int32) (w17 : Int64) (n21 : Nat) (y34 : Int32) (y44 : Int32) (y54 : Int32) (y56 : Int32) (y60 : Int32) (y62 : Int32) (iv_rreader_0 : rlength ≤ 940) (iv_rreader_1 : rplace ≤ rlength) (iv_rreader_3 : rbegin ≤ 940) (hTC : TC bt rtapeF) (hbp : rbegin = rplace) (hpl : rplace < rlength) (hal : cAl (bt rplace)) (j18 : k15 ≤ 940) (j19 : k15 ≤ rlength) (jPl : rplace ≤ k15) (jRn : rn bt rlength rplace = rn bt rlength k15) (jDc : k14 = dcn bt rplace (k15 - rplace)) (jNm : ¬ (k14 = (k15 - rplace) ∧ k14 ≤ 3) ∨ x16 = nI (nvn bt rplace (k15 - rplace))) (jLt : ¬ (k14 = 0 ∧ (k15 - rplace) ≤ 7) ∨ w17 = Int64.ofNat (p8 bt rplace (k15 - rplace))) (jLe : k14 ≠ 0 ∨ LET bt rplace (k15 - rplace)) (hm23 : 940 - k15 < n21 + 1) (c24 : k15 < rlength) (e35 : y34 = rtapeF k15) (t36 : bt k15 < 256) (t37 : y34.toInt = ((bt k15 : Nat) : Int) ∨ (128 ≤ bt k15 ∧ y34.toInt = ((bt k15 : Nat) : Int) - 256)) (t40 : 97 ≤ y34.toInt) (t41 : y34.toInt ≤ 122) (e45 : y44 = rtapeF k15) (t46 : bt k15 < 256) (t47 : y44.toInt = ((bt k15 : Nat) : Int) ∨ (128 ≤ bt k15 ∧ y44.toInt = ((bt k15 : Nat) : Int) - 256)) (t50 : 48 ≤ y44.toInt) (t51 : y44.toInt ≤ 57) (e55 : y54 = (nI 10) * x16) (e57 : y56 = rtapeF k15) (t58 : bt k15 < 256) (t59 : y56.toInt = ((bt k15 : Nat) : Int) ∨ (128 ≤ bt k15 ∧ y56.toInt = ((bt k15 : Nat) : Int) - 256)) (e61 : y60 = y54 + y56) (e63 : y62 = y60 - (nI 48)) : (k15 + 1) ≤ 940 := by
  have b_x16 := ia_b x16
  have b_y34 := ia_b y34
  have b_y44 := ia_b y44
  have b_y54 := ia_b y54
  have b_y56 := ia_b y56
  have b_y60 := ia_b y60
  have b_y62 := ia_b y62
  have b_w17 := Int64.toInt_lt w17
  try have k_0 := ia_n (nvn bt rplace (k15 - rplace)) (by first | decide | omega)
  try have k_1 := ia_n 10 (by first | decide | omega)
  try have k_2 := ia_n 48 (by first | decide | omega)
  try simp only [ia_lt, ia_le, ia_eq, ia_m1, ia_0, ia_1, ne_eq, true_and, and_true, false_and, and_false, or_false, false_or, or_true, true_or, not_true_eq_false, not_false_eq_true] at *
  all_goals omega
set_option maxRecDepth 20000 in
theorem lf_f_readRun_23 (bt : Nat → Nat) (rlength : Nat) (rplace : Nat) (rbegin : Nat) (rtapeF : Nat → Int32) (k14 : Nat) (k15 : Nat) (x16 : Int32) (w17 : Int64) (n21 : Nat) (y34 : Int32) (y44 : Int32) (y54 : Int32) (y56 : Int32) (y60 : Int32) (y62 : Int32) (iv_rreader_0 : rlength ≤ 940) (iv_rreader_1 : rplace ≤ rlength) (iv_rreader_3 : rbegin ≤ 940) (hTC : TC bt rtapeF) (hbp : rbegin = rplace) (hpl : rplace < rlength) (hal : cAl (bt rplace)) (j18 : k15 ≤ 940) (j19 : k15 ≤ rlength) (jPl : rplace ≤ k15) (jRn : rn bt rlength rplace = rn bt rlength k15) (jDc : k14 = dcn bt rplace (k15 - rplace)) (jNm : ¬ (k14 = (k15 - rplace) ∧ k14 ≤ 3) ∨ x16 = nI (nvn bt rplace (k15 - rplace))) (jLt : ¬ (k14 = 0 ∧ (k15 - rplace) ≤ 7) ∨ w17 = Int64.ofNat (p8 bt rplace (k15 - rplace))) (jLe : k14 ≠ 0 ∨ LET bt rplace (k15 - rplace)) (hm23 : 940 - k15 < n21 + 1) (c24 : k15 < rlength) (e35 : y34 = rtapeF k15) (t36 : bt k15 < 256) (t37 : y34.toInt = ((bt k15 : Nat) : Int) ∨ (128 ≤ bt k15 ∧ y34.toInt = ((bt k15 : Nat) : Int) - 256)) (t40 : 97 ≤ y34.toInt) (t41 : y34.toInt ≤ 122) (e45 : y44 = rtapeF k15) (t46 : bt k15 < 256) (t47 : y44.toInt = ((bt k15 : Nat) : Int) ∨ (128 ≤ bt k15 ∧ y44.toInt = ((bt k15 : Nat) : Int) - 256)) (t50 : 48 ≤ y44.toInt) (t51 : y44.toInt ≤ 57) (e55 : y54 = (nI 10) * x16) (e57 : y56 = rtapeF k15) (t58 : bt k15 < 256) (t59 : y56.toInt = ((bt k15 : Nat) : Int) ∨ (128 ≤ bt k15 ∧ y56.toInt = ((bt k15 : Nat) : Int) - 256)) (e61 : y60 = y54 + y56) (e63 : y62 = y60 - (nI 48)) : (k15 + 1) ≤ rlength := by
  have b_x16 := ia_b x16
  have b_y34 := ia_b y34
  have b_y44 := ia_b y44
  have b_y54 := ia_b y54
  have b_y56 := ia_b y56
  have b_y60 := ia_b y60
  have b_y62 := ia_b y62
  have b_w17 := Int64.toInt_lt w17
  try have k_0 := ia_n (nvn bt rplace (k15 - rplace)) (by first | decide | omega)
  try have k_1 := ia_n 10 (by first | decide | omega)
  try have k_2 := ia_n 48 (by first | decide | omega)
  try simp only [ia_lt, ia_le, ia_eq, ia_m1, ia_0, ia_1, ne_eq, true_and, and_true, false_and, and_false, or_false, false_or, or_true, true_or, not_true_eq_false, not_false_eq_true] at *
  all_goals omega
set_option maxRecDepth 20000 in
theorem lf_f_readRun_24 (bt : Nat → Nat) (rlength : Nat) (rplace : Nat) (rbegin : Nat) (rtapeF : Nat → Int32) (k14 : Nat) (k15 : Nat) (x16 : Int32) (w17 : Int64) (n21 : Nat) (y34 : Int32) (y44 : Int32) (y54 : Int32) (y56 : Int32) (y60 : Int32) (y62 : Int32) (iv_rreader_0 : rlength ≤ 940) (iv_rreader_1 : rplace ≤ rlength) (iv_rreader_3 : rbegin ≤ 940) (hTC : TC bt rtapeF) (hbp : rbegin = rplace) (hpl : rplace < rlength) (hal : cAl (bt rplace)) (j18 : k15 ≤ 940) (j19 : k15 ≤ rlength) (jPl : rplace ≤ k15) (jRn : rn bt rlength rplace = rn bt rlength k15) (jDc : k14 = dcn bt rplace (k15 - rplace)) (jNm : ¬ (k14 = (k15 - rplace) ∧ k14 ≤ 3) ∨ x16 = nI (nvn bt rplace (k15 - rplace))) (jLt : ¬ (k14 = 0 ∧ (k15 - rplace) ≤ 7) ∨ w17 = Int64.ofNat (p8 bt rplace (k15 - rplace))) (jLe : k14 ≠ 0 ∨ LET bt rplace (k15 - rplace)) (hm23 : 940 - k15 < n21 + 1) (c24 : k15 < rlength) (e35 : y34 = rtapeF k15) (t36 : bt k15 < 256) (t37 : y34.toInt = ((bt k15 : Nat) : Int) ∨ (128 ≤ bt k15 ∧ y34.toInt = ((bt k15 : Nat) : Int) - 256)) (t40 : 97 ≤ y34.toInt) (t41 : y34.toInt ≤ 122) (e45 : y44 = rtapeF k15) (t46 : bt k15 < 256) (t47 : y44.toInt = ((bt k15 : Nat) : Int) ∨ (128 ≤ bt k15 ∧ y44.toInt = ((bt k15 : Nat) : Int) - 256)) (t50 : 48 ≤ y44.toInt) (t51 : y44.toInt ≤ 57) (e55 : y54 = (nI 10) * x16) (e57 : y56 = rtapeF k15) (t58 : bt k15 < 256) (t59 : y56.toInt = ((bt k15 : Nat) : Int) ∨ (128 ≤ bt k15 ∧ y56.toInt = ((bt k15 : Nat) : Int) - 256)) (e61 : y60 = y54 + y56) (e63 : y62 = y60 - (nI 48)) : rplace ≤ (k15 + 1) := by
  have b_x16 := ia_b x16
  have b_y34 := ia_b y34
  have b_y44 := ia_b y44
  have b_y54 := ia_b y54
  have b_y56 := ia_b y56
  have b_y60 := ia_b y60
  have b_y62 := ia_b y62
  have b_w17 := Int64.toInt_lt w17
  try have k_0 := ia_n (nvn bt rplace (k15 - rplace)) (by first | decide | omega)
  try have k_1 := ia_n 10 (by first | decide | omega)
  try have k_2 := ia_n 48 (by first | decide | omega)
  try simp only [ia_lt, ia_le, ia_eq, ia_m1, ia_0, ia_1, ne_eq, true_and, and_true, false_and, and_false, or_false, false_or, or_true, true_or, not_true_eq_false, not_false_eq_true] at *
  all_goals omega
set_option maxRecDepth 20000 in
theorem lf_f_readRun_25 (bt : Nat → Nat) (rlength : Nat) (rplace : Nat) (rbegin : Nat) (rtapeF : Nat → Int32) (k14 : Nat) (k15 : Nat) (x16 : Int32) (w17 : Int64) (n21 : Nat) (y34 : Int32) (y44 : Int32) (y54 : Int32) (y56 : Int32) (y60 : Int32) (y62 : Int32) (iv_rreader_0 : rlength ≤ 940) (iv_rreader_1 : rplace ≤ rlength) (iv_rreader_3 : rbegin ≤ 940) (hTC : TC bt rtapeF) (hbp : rbegin = rplace) (hpl : rplace < rlength) (hal : cAl (bt rplace)) (j18 : k15 ≤ 940) (j19 : k15 ≤ rlength) (jPl : rplace ≤ k15) (jRn : rn bt rlength rplace = rn bt rlength k15) (jDc : k14 = dcn bt rplace (k15 - rplace)) (jNm : ¬ (k14 = (k15 - rplace) ∧ k14 ≤ 3) ∨ x16 = nI (nvn bt rplace (k15 - rplace))) (jLt : ¬ (k14 = 0 ∧ (k15 - rplace) ≤ 7) ∨ w17 = Int64.ofNat (p8 bt rplace (k15 - rplace))) (jLe : k14 ≠ 0 ∨ LET bt rplace (k15 - rplace)) (hm23 : 940 - k15 < n21 + 1) (c24 : k15 < rlength) (e35 : y34 = rtapeF k15) (t36 : bt k15 < 256) (t37 : y34.toInt = ((bt k15 : Nat) : Int) ∨ (128 ≤ bt k15 ∧ y34.toInt = ((bt k15 : Nat) : Int) - 256)) (t40 : 97 ≤ y34.toInt) (t41 : y34.toInt ≤ 122) (e45 : y44 = rtapeF k15) (t46 : bt k15 < 256) (t47 : y44.toInt = ((bt k15 : Nat) : Int) ∨ (128 ≤ bt k15 ∧ y44.toInt = ((bt k15 : Nat) : Int) - 256)) (t50 : 48 ≤ y44.toInt) (t51 : y44.toInt ≤ 57) (e55 : y54 = (nI 10) * x16) (e57 : y56 = rtapeF k15) (t58 : bt k15 < 256) (t59 : y56.toInt = ((bt k15 : Nat) : Int) ∨ (128 ≤ bt k15 ∧ y56.toInt = ((bt k15 : Nat) : Int) - 256)) (e61 : y60 = y54 + y56) (e63 : y62 = y60 - (nI 48)) : rn bt rlength rplace = rn bt rlength (k15 + 1) := by
  have hc : ((97 ≤ bt k15 ∧ bt k15 ≤ 122) ∨ (48 ≤ bt k15 ∧ bt k15 ≤ 57)) ∧ (rtapeF k15).toInt = ((bt k15 : Nat) : Int) := by
    have h8 := hTC k15 (by omega)
    have b_x16 := ia_b x16
    have b_y34 := ia_b y34
    have b_y44 := ia_b y44
    have b_y54 := ia_b y54
    have b_y56 := ia_b y56
    have b_y60 := ia_b y60
    have b_y62 := ia_b y62
    have b_w17 := Int64.toInt_lt w17
    try have k_0 := ia_n (nvn bt rplace (k15 - rplace)) (by first | decide | omega)
    try have k_1 := ia_n 10 (by first | decide | omega)
    try have k_2 := ia_n 48 (by first | decide | omega)
    try simp only [ia_lt, ia_le, ia_eq, ia_m1, ia_0, ia_1, ne_eq, true_and, and_true, false_and, and_false, or_false, false_or, or_true, true_or, not_true_eq_false, not_false_eq_true] at *
    all_goals omega
  rw [jRn]
  exact rn_step (by omega) (by unfold cAl cLe cDi; exact hc.1)
set_option maxRecDepth 20000 in
theorem lf_f_readRun_26 (bt : Nat → Nat) (rlength : Nat) (rplace : Nat) (rbegin : Nat) (rtapeF : Nat → Int32) (k14 : Nat) (k15 : Nat) (x16 : Int32) (w17 : Int64) (n21 : Nat) (y34 : Int32) (y44 : Int32) (y54 : Int32) (y56 : Int32) (y60 : Int32) (y62 : Int32) (iv_rreader_0 : rlength ≤ 940) (iv_rreader_1 : rplace ≤ rlength) (iv_rreader_3 : rbegin ≤ 940) (hTC : TC bt rtapeF) (hbp : rbegin = rplace) (hpl : rplace < rlength) (hal : cAl (bt rplace)) (j18 : k15 ≤ 940) (j19 : k15 ≤ rlength) (jPl : rplace ≤ k15) (jRn : rn bt rlength rplace = rn bt rlength k15) (jDc : k14 = dcn bt rplace (k15 - rplace)) (jNm : ¬ (k14 = (k15 - rplace) ∧ k14 ≤ 3) ∨ x16 = nI (nvn bt rplace (k15 - rplace))) (jLt : ¬ (k14 = 0 ∧ (k15 - rplace) ≤ 7) ∨ w17 = Int64.ofNat (p8 bt rplace (k15 - rplace))) (jLe : k14 ≠ 0 ∨ LET bt rplace (k15 - rplace)) (hm23 : 940 - k15 < n21 + 1) (c24 : k15 < rlength) (e35 : y34 = rtapeF k15) (t36 : bt k15 < 256) (t37 : y34.toInt = ((bt k15 : Nat) : Int) ∨ (128 ≤ bt k15 ∧ y34.toInt = ((bt k15 : Nat) : Int) - 256)) (t40 : 97 ≤ y34.toInt) (t41 : y34.toInt ≤ 122) (e45 : y44 = rtapeF k15) (t46 : bt k15 < 256) (t47 : y44.toInt = ((bt k15 : Nat) : Int) ∨ (128 ≤ bt k15 ∧ y44.toInt = ((bt k15 : Nat) : Int) - 256)) (t50 : 48 ≤ y44.toInt) (t51 : y44.toInt ≤ 57) (e55 : y54 = (nI 10) * x16) (e57 : y56 = rtapeF k15) (t58 : bt k15 < 256) (t59 : y56.toInt = ((bt k15 : Nat) : Int) ∨ (128 ≤ bt k15 ∧ y56.toInt = ((bt k15 : Nat) : Int) - 256)) (e61 : y60 = y54 + y56) (e63 : y62 = y60 - (nI 48)) : (k14 + 1) = dcn bt rplace ((k15 + 1) - rplace) := by
  have hc : (48 ≤ bt k15 ∧ bt k15 ≤ 57) ∧ (rtapeF k15).toInt = ((bt k15 : Nat) : Int) := by
    have h8 := hTC k15 (by omega)
    have b_x16 := ia_b x16
    have b_y34 := ia_b y34
    have b_y44 := ia_b y44
    have b_y54 := ia_b y54
    have b_y56 := ia_b y56
    have b_y60 := ia_b y60
    have b_y62 := ia_b y62
    have b_w17 := Int64.toInt_lt w17
    try have k_0 := ia_n (nvn bt rplace (k15 - rplace)) (by first | decide | omega)
    try have k_1 := ia_n 10 (by first | decide | omega)
    try have k_2 := ia_n 48 (by first | decide | omega)
    try simp only [ia_lt, ia_le, ia_eq, ia_m1, ia_0, ia_1, ne_eq, true_and, and_true, false_and, and_false, or_false, false_or, or_true, true_or, not_true_eq_false, not_false_eq_true] at *
    all_goals omega
  rw [rr_dy jPl (by unfold cDi; exact hc.1), ← jDc]
set_option maxRecDepth 20000 in
theorem lf_f_readRun_27 (bt : Nat → Nat) (rlength : Nat) (rplace : Nat) (rbegin : Nat) (rtapeF : Nat → Int32) (k14 : Nat) (k15 : Nat) (x16 : Int32) (w17 : Int64) (n21 : Nat) (y34 : Int32) (y44 : Int32) (y54 : Int32) (y56 : Int32) (y60 : Int32) (y62 : Int32) (iv_rreader_0 : rlength ≤ 940) (iv_rreader_1 : rplace ≤ rlength) (iv_rreader_3 : rbegin ≤ 940) (hTC : TC bt rtapeF) (hbp : rbegin = rplace) (hpl : rplace < rlength) (hal : cAl (bt rplace)) (j18 : k15 ≤ 940) (j19 : k15 ≤ rlength) (jPl : rplace ≤ k15) (jRn : rn bt rlength rplace = rn bt rlength k15) (jDc : k14 = dcn bt rplace (k15 - rplace)) (jNm : ¬ (k14 = (k15 - rplace) ∧ k14 ≤ 3) ∨ x16 = nI (nvn bt rplace (k15 - rplace))) (jLt : ¬ (k14 = 0 ∧ (k15 - rplace) ≤ 7) ∨ w17 = Int64.ofNat (p8 bt rplace (k15 - rplace))) (jLe : k14 ≠ 0 ∨ LET bt rplace (k15 - rplace)) (hm23 : 940 - k15 < n21 + 1) (c24 : k15 < rlength) (e35 : y34 = rtapeF k15) (t36 : bt k15 < 256) (t37 : y34.toInt = ((bt k15 : Nat) : Int) ∨ (128 ≤ bt k15 ∧ y34.toInt = ((bt k15 : Nat) : Int) - 256)) (t40 : 97 ≤ y34.toInt) (t41 : y34.toInt ≤ 122) (e45 : y44 = rtapeF k15) (t46 : bt k15 < 256) (t47 : y44.toInt = ((bt k15 : Nat) : Int) ∨ (128 ≤ bt k15 ∧ y44.toInt = ((bt k15 : Nat) : Int) - 256)) (t50 : 48 ≤ y44.toInt) (t51 : y44.toInt ≤ 57) (e55 : y54 = (nI 10) * x16) (e57 : y56 = rtapeF k15) (t58 : bt k15 < 256) (t59 : y56.toInt = ((bt k15 : Nat) : Int) ∨ (128 ≤ bt k15 ∧ y56.toInt = ((bt k15 : Nat) : Int) - 256)) (e61 : y60 = y54 + y56) (e63 : y62 = y60 - (nI 48)) : ¬ ((k14 + 1) = ((k15 + 1) - rplace) ∧ (k14 + 1) ≤ 3) ∨ y62 = nI (nvn bt rplace ((k15 + 1) - rplace)) := by
  have hc : (48 ≤ bt k15 ∧ bt k15 ≤ 57) ∧ (rtapeF k15).toInt = ((bt k15 : Nat) : Int) := by
    have h8 := hTC k15 (by omega)
    have b_x16 := ia_b x16
    have b_y34 := ia_b y34
    have b_y44 := ia_b y44
    have b_y54 := ia_b y54
    have b_y56 := ia_b y56
    have b_y60 := ia_b y60
    have b_y62 := ia_b y62
    have b_w17 := Int64.toInt_lt w17
    try have k_0 := ia_n (nvn bt rplace (k15 - rplace)) (by first | decide | omega)
    try have k_1 := ia_n 10 (by first | decide | omega)
    try have k_2 := ia_n 48 (by first | decide | omega)
    try have k_3 := ia_n (nvn bt rplace ((k15 + 1) - rplace)) (by first | decide | omega)
    try simp only [ia_lt, ia_le, ia_eq, ia_m1, ia_0, ia_1, ne_eq, true_and, and_true, false_and, and_false, or_false, false_or, or_true, true_or, not_true_eq_false, not_false_eq_true] at *
    all_goals omega
  subst_vars
  exact rr_ny jPl rfl jNm hc.1.1 hc.1.2 hc.2
set_option maxRecDepth 20000 in
theorem lf_f_readRun_28 (bt : Nat → Nat) (rlength : Nat) (rplace : Nat) (rbegin : Nat) (rtapeF : Nat → Int32) (k14 : Nat) (k15 : Nat) (x16 : Int32) (w17 : Int64) (n21 : Nat) (y34 : Int32) (y44 : Int32) (y54 : Int32) (y56 : Int32) (y60 : Int32) (y62 : Int32) (iv_rreader_0 : rlength ≤ 940) (iv_rreader_1 : rplace ≤ rlength) (iv_rreader_3 : rbegin ≤ 940) (hTC : TC bt rtapeF) (hbp : rbegin = rplace) (hpl : rplace < rlength) (hal : cAl (bt rplace)) (j18 : k15 ≤ 940) (j19 : k15 ≤ rlength) (jPl : rplace ≤ k15) (jRn : rn bt rlength rplace = rn bt rlength k15) (jDc : k14 = dcn bt rplace (k15 - rplace)) (jNm : ¬ (k14 = (k15 - rplace) ∧ k14 ≤ 3) ∨ x16 = nI (nvn bt rplace (k15 - rplace))) (jLt : ¬ (k14 = 0 ∧ (k15 - rplace) ≤ 7) ∨ w17 = Int64.ofNat (p8 bt rplace (k15 - rplace))) (jLe : k14 ≠ 0 ∨ LET bt rplace (k15 - rplace)) (hm23 : 940 - k15 < n21 + 1) (c24 : k15 < rlength) (e35 : y34 = rtapeF k15) (t36 : bt k15 < 256) (t37 : y34.toInt = ((bt k15 : Nat) : Int) ∨ (128 ≤ bt k15 ∧ y34.toInt = ((bt k15 : Nat) : Int) - 256)) (t40 : 97 ≤ y34.toInt) (t41 : y34.toInt ≤ 122) (e45 : y44 = rtapeF k15) (t46 : bt k15 < 256) (t47 : y44.toInt = ((bt k15 : Nat) : Int) ∨ (128 ≤ bt k15 ∧ y44.toInt = ((bt k15 : Nat) : Int) - 256)) (t50 : 48 ≤ y44.toInt) (t51 : y44.toInt ≤ 57) (e55 : y54 = (nI 10) * x16) (e57 : y56 = rtapeF k15) (t58 : bt k15 < 256) (t59 : y56.toInt = ((bt k15 : Nat) : Int) ∨ (128 ≤ bt k15 ∧ y56.toInt = ((bt k15 : Nat) : Int) - 256)) (e61 : y60 = y54 + y56) (e63 : y62 = y60 - (nI 48)) : ¬ ((k14 + 1) = 0 ∧ ((k15 + 1) - rplace) ≤ 7) ∨ w17 = Int64.ofNat (p8 bt rplace ((k15 + 1) - rplace)) := by
  exact Or.inl (by omega)
set_option maxRecDepth 20000 in
theorem lf_f_readRun_29 (bt : Nat → Nat) (rlength : Nat) (rplace : Nat) (rbegin : Nat) (rtapeF : Nat → Int32) (k14 : Nat) (k15 : Nat) (x16 : Int32) (w17 : Int64) (n21 : Nat) (y34 : Int32) (y44 : Int32) (y54 : Int32) (y56 : Int32) (y60 : Int32) (y62 : Int32) (iv_rreader_0 : rlength ≤ 940) (iv_rreader_1 : rplace ≤ rlength) (iv_rreader_3 : rbegin ≤ 940) (hTC : TC bt rtapeF) (hbp : rbegin = rplace) (hpl : rplace < rlength) (hal : cAl (bt rplace)) (j18 : k15 ≤ 940) (j19 : k15 ≤ rlength) (jPl : rplace ≤ k15) (jRn : rn bt rlength rplace = rn bt rlength k15) (jDc : k14 = dcn bt rplace (k15 - rplace)) (jNm : ¬ (k14 = (k15 - rplace) ∧ k14 ≤ 3) ∨ x16 = nI (nvn bt rplace (k15 - rplace))) (jLt : ¬ (k14 = 0 ∧ (k15 - rplace) ≤ 7) ∨ w17 = Int64.ofNat (p8 bt rplace (k15 - rplace))) (jLe : k14 ≠ 0 ∨ LET bt rplace (k15 - rplace)) (hm23 : 940 - k15 < n21 + 1) (c24 : k15 < rlength) (e35 : y34 = rtapeF k15) (t36 : bt k15 < 256) (t37 : y34.toInt = ((bt k15 : Nat) : Int) ∨ (128 ≤ bt k15 ∧ y34.toInt = ((bt k15 : Nat) : Int) - 256)) (t40 : 97 ≤ y34.toInt) (t41 : y34.toInt ≤ 122) (e45 : y44 = rtapeF k15) (t46 : bt k15 < 256) (t47 : y44.toInt = ((bt k15 : Nat) : Int) ∨ (128 ≤ bt k15 ∧ y44.toInt = ((bt k15 : Nat) : Int) - 256)) (t50 : 48 ≤ y44.toInt) (t51 : y44.toInt ≤ 57) (e55 : y54 = (nI 10) * x16) (e57 : y56 = rtapeF k15) (t58 : bt k15 < 256) (t59 : y56.toInt = ((bt k15 : Nat) : Int) ∨ (128 ≤ bt k15 ∧ y56.toInt = ((bt k15 : Nat) : Int) - 256)) (e61 : y60 = y54 + y56) (e63 : y62 = y60 - (nI 48)) : (k14 + 1) ≠ 0 ∨ LET bt rplace ((k15 + 1) - rplace) := by
  exact Or.inl (by omega)
set_option maxRecDepth 20000 in
theorem lf_f_readRun_30 (bt : Nat → Nat) (rlength : Nat) (rplace : Nat) (rbegin : Nat) (rtapeF : Nat → Int32) (k14 : Nat) (k15 : Nat) (x16 : Int32) (w17 : Int64) (n21 : Nat) (y34 : Int32) (y44 : Int32) (y54 : Int32) (y56 : Int32) (y60 : Int32) (y62 : Int32) (iv_rreader_0 : rlength ≤ 940) (iv_rreader_1 : rplace ≤ rlength) (iv_rreader_3 : rbegin ≤ 940) (hTC : TC bt rtapeF) (hbp : rbegin = rplace) (hpl : rplace < rlength) (hal : cAl (bt rplace)) (j18 : k15 ≤ 940) (j19 : k15 ≤ rlength) (jPl : rplace ≤ k15) (jRn : rn bt rlength rplace = rn bt rlength k15) (jDc : k14 = dcn bt rplace (k15 - rplace)) (jNm : ¬ (k14 = (k15 - rplace) ∧ k14 ≤ 3) ∨ x16 = nI (nvn bt rplace (k15 - rplace))) (jLt : ¬ (k14 = 0 ∧ (k15 - rplace) ≤ 7) ∨ w17 = Int64.ofNat (p8 bt rplace (k15 - rplace))) (jLe : k14 ≠ 0 ∨ LET bt rplace (k15 - rplace)) (hm23 : 940 - k15 < n21 + 1) (c24 : k15 < rlength) (e35 : y34 = rtapeF k15) (t36 : bt k15 < 256) (t37 : y34.toInt = ((bt k15 : Nat) : Int) ∨ (128 ≤ bt k15 ∧ y34.toInt = ((bt k15 : Nat) : Int) - 256)) (t40 : 97 ≤ y34.toInt) (t41 : y34.toInt ≤ 122) (e45 : y44 = rtapeF k15) (t46 : bt k15 < 256) (t47 : y44.toInt = ((bt k15 : Nat) : Int) ∨ (128 ≤ bt k15 ∧ y44.toInt = ((bt k15 : Nat) : Int) - 256)) (t50 : 48 ≤ y44.toInt) (t51 : y44.toInt ≤ 57) (e55 : y54 = (nI 10) * x16) (e57 : y56 = rtapeF k15) (t58 : bt k15 < 256) (t59 : y56.toInt = ((bt k15 : Nat) : Int) ∨ (128 ≤ bt k15 ∧ y56.toInt = ((bt k15 : Nat) : Int) - 256)) (e61 : y60 = y54 + y56) (e63 : y62 = y60 - (nI 48)) : 940 - (k15 + 1) < n21 := by
  have b_x16 := ia_b x16
  have b_y34 := ia_b y34
  have b_y44 := ia_b y44
  have b_y54 := ia_b y54
  have b_y56 := ia_b y56
  have b_y60 := ia_b y60
  have b_y62 := ia_b y62
  have b_w17 := Int64.toInt_lt w17
  try have k_0 := ia_n (nvn bt rplace (k15 - rplace)) (by first | decide | omega)
  try have k_1 := ia_n 10 (by first | decide | omega)
  try have k_2 := ia_n 48 (by first | decide | omega)
  try simp only [ia_lt, ia_le, ia_eq, ia_m1, ia_0, ia_1, ne_eq, true_and, and_true, false_and, and_false, or_false, false_or, or_true, true_or, not_true_eq_false, not_false_eq_true] at *
  all_goals omega
set_option maxRecDepth 20000 in
theorem lf_f_readRun_31 (bt : Nat → Nat) (rlength : Nat) (rplace : Nat) (rbegin : Nat) (rtapeF : Nat → Int32) (k14 : Nat) (k15 : Nat) (x16 : Int32) (w17 : Int64) (n21 : Nat) (y34 : Int32) (y44 : Int32) (w65 : Int64) (y67 : Int32) (w71 : Int64) (w73 : Int64) (iv_rreader_0 : rlength ≤ 940) (iv_rreader_1 : rplace ≤ rlength) (iv_rreader_3 : rbegin ≤ 940) (hTC : TC bt rtapeF) (hbp : rbegin = rplace) (hpl : rplace < rlength) (hal : cAl (bt rplace)) (j18 : k15 ≤ 940) (j19 : k15 ≤ rlength) (jPl : rplace ≤ k15) (jRn : rn bt rlength rplace = rn bt rlength k15) (jDc : k14 = dcn bt rplace (k15 - rplace)) (jNm : ¬ (k14 = (k15 - rplace) ∧ k14 ≤ 3) ∨ x16 = nI (nvn bt rplace (k15 - rplace))) (jLt : ¬ (k14 = 0 ∧ (k15 - rplace) ≤ 7) ∨ w17 = Int64.ofNat (p8 bt rplace (k15 - rplace))) (jLe : k14 ≠ 0 ∨ LET bt rplace (k15 - rplace)) (hm23 : 940 - k15 < n21 + 1) (c24 : k15 < rlength) (e35 : y34 = rtapeF k15) (t36 : bt k15 < 256) (t37 : y34.toInt = ((bt k15 : Nat) : Int) ∨ (128 ≤ bt k15 ∧ y34.toInt = ((bt k15 : Nat) : Int) - 256)) (t40 : 97 ≤ y34.toInt) (t41 : y34.toInt ≤ 122) (e45 : y44 = rtapeF k15) (t46 : bt k15 < 256) (t47 : y44.toInt = ((bt k15 : Nat) : Int) ∨ (128 ≤ bt k15 ∧ y44.toInt = ((bt k15 : Nat) : Int) - 256)) (t52 : ¬ (48 ≤ y44.toInt ∧ y44.toInt ≤ 57)) (e66 : w65 = w17 <<< ((nI 8).toInt64 &&& 63)) (e68 : y67 = rtapeF k15) (t69 : bt k15 < 256) (t70 : y67.toInt = ((bt k15 : Nat) : Int) ∨ (128 ≤ bt k15 ∧ y67.toInt = ((bt k15 : Nat) : Int) - 256)) (e72 : w71 = (y67).toInt64) (e74 : w73 = w65 ||| w71) : (k15 + 1) ≤ 940 := by
  have b_x16 := ia_b x16
  have b_y34 := ia_b y34
  have b_y44 := ia_b y44
  have b_y67 := ia_b y67
  have b_w17 := Int64.toInt_lt w17
  have b_w65 := Int64.toInt_lt w65
  have b_w71 := Int64.toInt_lt w71
  have b_w73 := Int64.toInt_lt w73
  try have k_0 := ia_n (nvn bt rplace (k15 - rplace)) (by first | decide | omega)
  try have k_1 := ia_n 8 (by first | decide | omega)
  try simp only [ia_lt, ia_le, ia_eq, ia_m1, ia_0, ia_1, ne_eq, true_and, and_true, false_and, and_false, or_false, false_or, or_true, true_or, not_true_eq_false, not_false_eq_true] at *
  all_goals omega
set_option maxRecDepth 20000 in
theorem lf_f_readRun_32 (bt : Nat → Nat) (rlength : Nat) (rplace : Nat) (rbegin : Nat) (rtapeF : Nat → Int32) (k14 : Nat) (k15 : Nat) (x16 : Int32) (w17 : Int64) (n21 : Nat) (y34 : Int32) (y44 : Int32) (w65 : Int64) (y67 : Int32) (w71 : Int64) (w73 : Int64) (iv_rreader_0 : rlength ≤ 940) (iv_rreader_1 : rplace ≤ rlength) (iv_rreader_3 : rbegin ≤ 940) (hTC : TC bt rtapeF) (hbp : rbegin = rplace) (hpl : rplace < rlength) (hal : cAl (bt rplace)) (j18 : k15 ≤ 940) (j19 : k15 ≤ rlength) (jPl : rplace ≤ k15) (jRn : rn bt rlength rplace = rn bt rlength k15) (jDc : k14 = dcn bt rplace (k15 - rplace)) (jNm : ¬ (k14 = (k15 - rplace) ∧ k14 ≤ 3) ∨ x16 = nI (nvn bt rplace (k15 - rplace))) (jLt : ¬ (k14 = 0 ∧ (k15 - rplace) ≤ 7) ∨ w17 = Int64.ofNat (p8 bt rplace (k15 - rplace))) (jLe : k14 ≠ 0 ∨ LET bt rplace (k15 - rplace)) (hm23 : 940 - k15 < n21 + 1) (c24 : k15 < rlength) (e35 : y34 = rtapeF k15) (t36 : bt k15 < 256) (t37 : y34.toInt = ((bt k15 : Nat) : Int) ∨ (128 ≤ bt k15 ∧ y34.toInt = ((bt k15 : Nat) : Int) - 256)) (t40 : 97 ≤ y34.toInt) (t41 : y34.toInt ≤ 122) (e45 : y44 = rtapeF k15) (t46 : bt k15 < 256) (t47 : y44.toInt = ((bt k15 : Nat) : Int) ∨ (128 ≤ bt k15 ∧ y44.toInt = ((bt k15 : Nat) : Int) - 256)) (t52 : ¬ (48 ≤ y44.toInt ∧ y44.toInt ≤ 57)) (e66 : w65 = w17 <<< ((nI 8).toInt64 &&& 63)) (e68 : y67 = rtapeF k15) (t69 : bt k15 < 256) (t70 : y67.toInt = ((bt k15 : Nat) : Int) ∨ (128 ≤ bt k15 ∧ y67.toInt = ((bt k15 : Nat) : Int) - 256)) (e72 : w71 = (y67).toInt64) (e74 : w73 = w65 ||| w71) : (k15 + 1) ≤ rlength := by
  have b_x16 := ia_b x16
  have b_y34 := ia_b y34
  have b_y44 := ia_b y44
  have b_y67 := ia_b y67
  have b_w17 := Int64.toInt_lt w17
  have b_w65 := Int64.toInt_lt w65
  have b_w71 := Int64.toInt_lt w71
  have b_w73 := Int64.toInt_lt w73
  try have k_0 := ia_n (nvn bt rplace (k15 - rplace)) (by first | decide | omega)
  try have k_1 := ia_n 8 (by first | decide | omega)
  try simp only [ia_lt, ia_le, ia_eq, ia_m1, ia_0, ia_1, ne_eq, true_and, and_true, false_and, and_false, or_false, false_or, or_true, true_or, not_true_eq_false, not_false_eq_true] at *
  all_goals omega
set_option maxRecDepth 20000 in
theorem lf_f_readRun_33 (bt : Nat → Nat) (rlength : Nat) (rplace : Nat) (rbegin : Nat) (rtapeF : Nat → Int32) (k14 : Nat) (k15 : Nat) (x16 : Int32) (w17 : Int64) (n21 : Nat) (y34 : Int32) (y44 : Int32) (w65 : Int64) (y67 : Int32) (w71 : Int64) (w73 : Int64) (iv_rreader_0 : rlength ≤ 940) (iv_rreader_1 : rplace ≤ rlength) (iv_rreader_3 : rbegin ≤ 940) (hTC : TC bt rtapeF) (hbp : rbegin = rplace) (hpl : rplace < rlength) (hal : cAl (bt rplace)) (j18 : k15 ≤ 940) (j19 : k15 ≤ rlength) (jPl : rplace ≤ k15) (jRn : rn bt rlength rplace = rn bt rlength k15) (jDc : k14 = dcn bt rplace (k15 - rplace)) (jNm : ¬ (k14 = (k15 - rplace) ∧ k14 ≤ 3) ∨ x16 = nI (nvn bt rplace (k15 - rplace))) (jLt : ¬ (k14 = 0 ∧ (k15 - rplace) ≤ 7) ∨ w17 = Int64.ofNat (p8 bt rplace (k15 - rplace))) (jLe : k14 ≠ 0 ∨ LET bt rplace (k15 - rplace)) (hm23 : 940 - k15 < n21 + 1) (c24 : k15 < rlength) (e35 : y34 = rtapeF k15) (t36 : bt k15 < 256) (t37 : y34.toInt = ((bt k15 : Nat) : Int) ∨ (128 ≤ bt k15 ∧ y34.toInt = ((bt k15 : Nat) : Int) - 256)) (t40 : 97 ≤ y34.toInt) (t41 : y34.toInt ≤ 122) (e45 : y44 = rtapeF k15) (t46 : bt k15 < 256) (t47 : y44.toInt = ((bt k15 : Nat) : Int) ∨ (128 ≤ bt k15 ∧ y44.toInt = ((bt k15 : Nat) : Int) - 256)) (t52 : ¬ (48 ≤ y44.toInt ∧ y44.toInt ≤ 57)) (e66 : w65 = w17 <<< ((nI 8).toInt64 &&& 63)) (e68 : y67 = rtapeF k15) (t69 : bt k15 < 256) (t70 : y67.toInt = ((bt k15 : Nat) : Int) ∨ (128 ≤ bt k15 ∧ y67.toInt = ((bt k15 : Nat) : Int) - 256)) (e72 : w71 = (y67).toInt64) (e74 : w73 = w65 ||| w71) : rplace ≤ (k15 + 1) := by
  have b_x16 := ia_b x16
  have b_y34 := ia_b y34
  have b_y44 := ia_b y44
  have b_y67 := ia_b y67
  have b_w17 := Int64.toInt_lt w17
  have b_w65 := Int64.toInt_lt w65
  have b_w71 := Int64.toInt_lt w71
  have b_w73 := Int64.toInt_lt w73
  try have k_0 := ia_n (nvn bt rplace (k15 - rplace)) (by first | decide | omega)
  try have k_1 := ia_n 8 (by first | decide | omega)
  try simp only [ia_lt, ia_le, ia_eq, ia_m1, ia_0, ia_1, ne_eq, true_and, and_true, false_and, and_false, or_false, false_or, or_true, true_or, not_true_eq_false, not_false_eq_true] at *
  all_goals omega
set_option maxRecDepth 20000 in
theorem lf_f_readRun_34 (bt : Nat → Nat) (rlength : Nat) (rplace : Nat) (rbegin : Nat) (rtapeF : Nat → Int32) (k14 : Nat) (k15 : Nat) (x16 : Int32) (w17 : Int64) (n21 : Nat) (y34 : Int32) (y44 : Int32) (w65 : Int64) (y67 : Int32) (w71 : Int64) (w73 : Int64) (iv_rreader_0 : rlength ≤ 940) (iv_rreader_1 : rplace ≤ rlength) (iv_rreader_3 : rbegin ≤ 940) (hTC : TC bt rtapeF) (hbp : rbegin = rplace) (hpl : rplace < rlength) (hal : cAl (bt rplace)) (j18 : k15 ≤ 940) (j19 : k15 ≤ rlength) (jPl : rplace ≤ k15) (jRn : rn bt rlength rplace = rn bt rlength k15) (jDc : k14 = dcn bt rplace (k15 - rplace)) (jNm : ¬ (k14 = (k15 - rplace) ∧ k14 ≤ 3) ∨ x16 = nI (nvn bt rplace (k15 - rplace))) (jLt : ¬ (k14 = 0 ∧ (k15 - rplace) ≤ 7) ∨ w17 = Int64.ofNat (p8 bt rplace (k15 - rplace))) (jLe : k14 ≠ 0 ∨ LET bt rplace (k15 - rplace)) (hm23 : 940 - k15 < n21 + 1) (c24 : k15 < rlength) (e35 : y34 = rtapeF k15) (t36 : bt k15 < 256) (t37 : y34.toInt = ((bt k15 : Nat) : Int) ∨ (128 ≤ bt k15 ∧ y34.toInt = ((bt k15 : Nat) : Int) - 256)) (t40 : 97 ≤ y34.toInt) (t41 : y34.toInt ≤ 122) (e45 : y44 = rtapeF k15) (t46 : bt k15 < 256) (t47 : y44.toInt = ((bt k15 : Nat) : Int) ∨ (128 ≤ bt k15 ∧ y44.toInt = ((bt k15 : Nat) : Int) - 256)) (t52 : ¬ (48 ≤ y44.toInt ∧ y44.toInt ≤ 57)) (e66 : w65 = w17 <<< ((nI 8).toInt64 &&& 63)) (e68 : y67 = rtapeF k15) (t69 : bt k15 < 256) (t70 : y67.toInt = ((bt k15 : Nat) : Int) ∨ (128 ≤ bt k15 ∧ y67.toInt = ((bt k15 : Nat) : Int) - 256)) (e72 : w71 = (y67).toInt64) (e74 : w73 = w65 ||| w71) : rn bt rlength rplace = rn bt rlength (k15 + 1) := by
  have hc : ((97 ≤ bt k15 ∧ bt k15 ≤ 122) ∨ (48 ≤ bt k15 ∧ bt k15 ≤ 57)) ∧ (rtapeF k15).toInt = ((bt k15 : Nat) : Int) := by
    have h8 := hTC k15 (by omega)
    have b_x16 := ia_b x16
    have b_y34 := ia_b y34
    have b_y44 := ia_b y44
    have b_y67 := ia_b y67
    have b_w17 := Int64.toInt_lt w17
    have b_w65 := Int64.toInt_lt w65
    have b_w71 := Int64.toInt_lt w71
    have b_w73 := Int64.toInt_lt w73
    try have k_0 := ia_n (nvn bt rplace (k15 - rplace)) (by first | decide | omega)
    try have k_1 := ia_n 8 (by first | decide | omega)
    try simp only [ia_lt, ia_le, ia_eq, ia_m1, ia_0, ia_1, ne_eq, true_and, and_true, false_and, and_false, or_false, false_or, or_true, true_or, not_true_eq_false, not_false_eq_true] at *
    all_goals omega
  rw [jRn]
  exact rn_step (by omega) (by unfold cAl cLe cDi; exact hc.1)
set_option maxRecDepth 20000 in
theorem lf_f_readRun_35 (bt : Nat → Nat) (rlength : Nat) (rplace : Nat) (rbegin : Nat) (rtapeF : Nat → Int32) (k14 : Nat) (k15 : Nat) (x16 : Int32) (w17 : Int64) (n21 : Nat) (y34 : Int32) (y44 : Int32) (w65 : Int64) (y67 : Int32) (w71 : Int64) (w73 : Int64) (iv_rreader_0 : rlength ≤ 940) (iv_rreader_1 : rplace ≤ rlength) (iv_rreader_3 : rbegin ≤ 940) (hTC : TC bt rtapeF) (hbp : rbegin = rplace) (hpl : rplace < rlength) (hal : cAl (bt rplace)) (j18 : k15 ≤ 940) (j19 : k15 ≤ rlength) (jPl : rplace ≤ k15) (jRn : rn bt rlength rplace = rn bt rlength k15) (jDc : k14 = dcn bt rplace (k15 - rplace)) (jNm : ¬ (k14 = (k15 - rplace) ∧ k14 ≤ 3) ∨ x16 = nI (nvn bt rplace (k15 - rplace))) (jLt : ¬ (k14 = 0 ∧ (k15 - rplace) ≤ 7) ∨ w17 = Int64.ofNat (p8 bt rplace (k15 - rplace))) (jLe : k14 ≠ 0 ∨ LET bt rplace (k15 - rplace)) (hm23 : 940 - k15 < n21 + 1) (c24 : k15 < rlength) (e35 : y34 = rtapeF k15) (t36 : bt k15 < 256) (t37 : y34.toInt = ((bt k15 : Nat) : Int) ∨ (128 ≤ bt k15 ∧ y34.toInt = ((bt k15 : Nat) : Int) - 256)) (t40 : 97 ≤ y34.toInt) (t41 : y34.toInt ≤ 122) (e45 : y44 = rtapeF k15) (t46 : bt k15 < 256) (t47 : y44.toInt = ((bt k15 : Nat) : Int) ∨ (128 ≤ bt k15 ∧ y44.toInt = ((bt k15 : Nat) : Int) - 256)) (t52 : ¬ (48 ≤ y44.toInt ∧ y44.toInt ≤ 57)) (e66 : w65 = w17 <<< ((nI 8).toInt64 &&& 63)) (e68 : y67 = rtapeF k15) (t69 : bt k15 < 256) (t70 : y67.toInt = ((bt k15 : Nat) : Int) ∨ (128 ≤ bt k15 ∧ y67.toInt = ((bt k15 : Nat) : Int) - 256)) (e72 : w71 = (y67).toInt64) (e74 : w73 = w65 ||| w71) : k14 = dcn bt rplace ((k15 + 1) - rplace) := by
  have hc : (97 ≤ bt k15 ∧ bt k15 ≤ 122) ∧ (rtapeF k15).toInt = ((bt k15 : Nat) : Int) := by
    have h8 := hTC k15 (by omega)
    have b_x16 := ia_b x16
    have b_y34 := ia_b y34
    have b_y44 := ia_b y44
    have b_y67 := ia_b y67
    have b_w17 := Int64.toInt_lt w17
    have b_w65 := Int64.toInt_lt w65
    have b_w71 := Int64.toInt_lt w71
    have b_w73 := Int64.toInt_lt w73
    try have k_0 := ia_n (nvn bt rplace (k15 - rplace)) (by first | decide | omega)
    try have k_1 := ia_n 8 (by first | decide | omega)
    try simp only [ia_lt, ia_le, ia_eq, ia_m1, ia_0, ia_1, ne_eq, true_and, and_true, false_and, and_false, or_false, false_or, or_true, true_or, not_true_eq_false, not_false_eq_true] at *
    all_goals omega
  rw [rr_dn jPl (by unfold cDi; omega), ← jDc]
set_option maxRecDepth 20000 in
theorem lf_f_readRun_36 (bt : Nat → Nat) (rlength : Nat) (rplace : Nat) (rbegin : Nat) (rtapeF : Nat → Int32) (k14 : Nat) (k15 : Nat) (x16 : Int32) (w17 : Int64) (n21 : Nat) (y34 : Int32) (y44 : Int32) (w65 : Int64) (y67 : Int32) (w71 : Int64) (w73 : Int64) (iv_rreader_0 : rlength ≤ 940) (iv_rreader_1 : rplace ≤ rlength) (iv_rreader_3 : rbegin ≤ 940) (hTC : TC bt rtapeF) (hbp : rbegin = rplace) (hpl : rplace < rlength) (hal : cAl (bt rplace)) (j18 : k15 ≤ 940) (j19 : k15 ≤ rlength) (jPl : rplace ≤ k15) (jRn : rn bt rlength rplace = rn bt rlength k15) (jDc : k14 = dcn bt rplace (k15 - rplace)) (jNm : ¬ (k14 = (k15 - rplace) ∧ k14 ≤ 3) ∨ x16 = nI (nvn bt rplace (k15 - rplace))) (jLt : ¬ (k14 = 0 ∧ (k15 - rplace) ≤ 7) ∨ w17 = Int64.ofNat (p8 bt rplace (k15 - rplace))) (jLe : k14 ≠ 0 ∨ LET bt rplace (k15 - rplace)) (hm23 : 940 - k15 < n21 + 1) (c24 : k15 < rlength) (e35 : y34 = rtapeF k15) (t36 : bt k15 < 256) (t37 : y34.toInt = ((bt k15 : Nat) : Int) ∨ (128 ≤ bt k15 ∧ y34.toInt = ((bt k15 : Nat) : Int) - 256)) (t40 : 97 ≤ y34.toInt) (t41 : y34.toInt ≤ 122) (e45 : y44 = rtapeF k15) (t46 : bt k15 < 256) (t47 : y44.toInt = ((bt k15 : Nat) : Int) ∨ (128 ≤ bt k15 ∧ y44.toInt = ((bt k15 : Nat) : Int) - 256)) (t52 : ¬ (48 ≤ y44.toInt ∧ y44.toInt ≤ 57)) (e66 : w65 = w17 <<< ((nI 8).toInt64 &&& 63)) (e68 : y67 = rtapeF k15) (t69 : bt k15 < 256) (t70 : y67.toInt = ((bt k15 : Nat) : Int) ∨ (128 ≤ bt k15 ∧ y67.toInt = ((bt k15 : Nat) : Int) - 256)) (e72 : w71 = (y67).toInt64) (e74 : w73 = w65 ||| w71) : ¬ (k14 = ((k15 + 1) - rplace) ∧ k14 ≤ 3) ∨ x16 = nI (nvn bt rplace ((k15 + 1) - rplace)) := by
  exact rr_nn jPl jDc
set_option maxRecDepth 20000 in
theorem lf_f_readRun_37 (bt : Nat → Nat) (rlength : Nat) (rplace : Nat) (rbegin : Nat) (rtapeF : Nat → Int32) (k14 : Nat) (k15 : Nat) (x16 : Int32) (w17 : Int64) (n21 : Nat) (y34 : Int32) (y44 : Int32) (w65 : Int64) (y67 : Int32) (w71 : Int64) (w73 : Int64) (iv_rreader_0 : rlength ≤ 940) (iv_rreader_1 : rplace ≤ rlength) (iv_rreader_3 : rbegin ≤ 940) (hTC : TC bt rtapeF) (hbp : rbegin = rplace) (hpl : rplace < rlength) (hal : cAl (bt rplace)) (j18 : k15 ≤ 940) (j19 : k15 ≤ rlength) (jPl : rplace ≤ k15) (jRn : rn bt rlength rplace = rn bt rlength k15) (jDc : k14 = dcn bt rplace (k15 - rplace)) (jNm : ¬ (k14 = (k15 - rplace) ∧ k14 ≤ 3) ∨ x16 = nI (nvn bt rplace (k15 - rplace))) (jLt : ¬ (k14 = 0 ∧ (k15 - rplace) ≤ 7) ∨ w17 = Int64.ofNat (p8 bt rplace (k15 - rplace))) (jLe : k14 ≠ 0 ∨ LET bt rplace (k15 - rplace)) (hm23 : 940 - k15 < n21 + 1) (c24 : k15 < rlength) (e35 : y34 = rtapeF k15) (t36 : bt k15 < 256) (t37 : y34.toInt = ((bt k15 : Nat) : Int) ∨ (128 ≤ bt k15 ∧ y34.toInt = ((bt k15 : Nat) : Int) - 256)) (t40 : 97 ≤ y34.toInt) (t41 : y34.toInt ≤ 122) (e45 : y44 = rtapeF k15) (t46 : bt k15 < 256) (t47 : y44.toInt = ((bt k15 : Nat) : Int) ∨ (128 ≤ bt k15 ∧ y44.toInt = ((bt k15 : Nat) : Int) - 256)) (t52 : ¬ (48 ≤ y44.toInt ∧ y44.toInt ≤ 57)) (e66 : w65 = w17 <<< ((nI 8).toInt64 &&& 63)) (e68 : y67 = rtapeF k15) (t69 : bt k15 < 256) (t70 : y67.toInt = ((bt k15 : Nat) : Int) ∨ (128 ≤ bt k15 ∧ y67.toInt = ((bt k15 : Nat) : Int) - 256)) (e72 : w71 = (y67).toInt64) (e74 : w73 = w65 ||| w71) : ¬ (k14 = 0 ∧ ((k15 + 1) - rplace) ≤ 7) ∨ w73 = Int64.ofNat (p8 bt rplace ((k15 + 1) - rplace)) := by
  have hc : (97 ≤ bt k15 ∧ bt k15 ≤ 122) ∧ (rtapeF k15).toInt = ((bt k15 : Nat) : Int) := by
    have h8 := hTC k15 (by omega)
    have b_x16 := ia_b x16
    have b_y34 := ia_b y34
    have b_y44 := ia_b y44
    have b_y67 := ia_b y67
    have b_w17 := Int64.toInt_lt w17
    have b_w65 := Int64.toInt_lt w65
    have b_w71 := Int64.toInt_lt w71
    have b_w73 := Int64.toInt_lt w73
    try have k_0 := ia_n (nvn bt rplace (k15 - rplace)) (by first | decide | omega)
    try have k_1 := ia_n 8 (by first | decide | omega)
    try simp only [ia_lt, ia_le, ia_eq, ia_m1, ia_0, ia_1, ne_eq, true_and, and_true, false_and, and_false, or_false, false_or, or_true, true_or, not_true_eq_false, not_false_eq_true] at *
    all_goals omega
  subst_vars
  exact rr_ly jPl jLt jLe (by omega) hc.2
set_option maxRecDepth 20000 in
theorem lf_f_readRun_38 (bt : Nat → Nat) (rlength : Nat) (rplace : Nat) (rbegin : Nat) (rtapeF : Nat → Int32) (k14 : Nat) (k15 : Nat) (x16 : Int32) (w17 : Int64) (n21 : Nat) (y34 : Int32) (y44 : Int32) (w65 : Int64) (y67 : Int32) (w71 : Int64) (w73 : Int64) (iv_rreader_0 : rlength ≤ 940) (iv_rreader_1 : rplace ≤ rlength) (iv_rreader_3 : rbegin ≤ 940) (hTC : TC bt rtapeF) (hbp : rbegin = rplace) (hpl : rplace < rlength) (hal : cAl (bt rplace)) (j18 : k15 ≤ 940) (j19 : k15 ≤ rlength) (jPl : rplace ≤ k15) (jRn : rn bt rlength rplace = rn bt rlength k15) (jDc : k14 = dcn bt rplace (k15 - rplace)) (jNm : ¬ (k14 = (k15 - rplace) ∧ k14 ≤ 3) ∨ x16 = nI (nvn bt rplace (k15 - rplace))) (jLt : ¬ (k14 = 0 ∧ (k15 - rplace) ≤ 7) ∨ w17 = Int64.ofNat (p8 bt rplace (k15 - rplace))) (jLe : k14 ≠ 0 ∨ LET bt rplace (k15 - rplace)) (hm23 : 940 - k15 < n21 + 1) (c24 : k15 < rlength) (e35 : y34 = rtapeF k15) (t36 : bt k15 < 256) (t37 : y34.toInt = ((bt k15 : Nat) : Int) ∨ (128 ≤ bt k15 ∧ y34.toInt = ((bt k15 : Nat) : Int) - 256)) (t40 : 97 ≤ y34.toInt) (t41 : y34.toInt ≤ 122) (e45 : y44 = rtapeF k15) (t46 : bt k15 < 256) (t47 : y44.toInt = ((bt k15 : Nat) : Int) ∨ (128 ≤ bt k15 ∧ y44.toInt = ((bt k15 : Nat) : Int) - 256)) (t52 : ¬ (48 ≤ y44.toInt ∧ y44.toInt ≤ 57)) (e66 : w65 = w17 <<< ((nI 8).toInt64 &&& 63)) (e68 : y67 = rtapeF k15) (t69 : bt k15 < 256) (t70 : y67.toInt = ((bt k15 : Nat) : Int) ∨ (128 ≤ bt k15 ∧ y67.toInt = ((bt k15 : Nat) : Int) - 256)) (e72 : w71 = (y67).toInt64) (e74 : w73 = w65 ||| w71) : k14 ≠ 0 ∨ LET bt rplace ((k15 + 1) - rplace) := by
  have hc : (97 ≤ bt k15 ∧ bt k15 ≤ 122) ∧ (rtapeF k15).toInt = ((bt k15 : Nat) : Int) := by
    have h8 := hTC k15 (by omega)
    have b_x16 := ia_b x16
    have b_y34 := ia_b y34
    have b_y44 := ia_b y44
    have b_y67 := ia_b y67
    have b_w17 := Int64.toInt_lt w17
    have b_w65 := Int64.toInt_lt w65
    have b_w71 := Int64.toInt_lt w71
    have b_w73 := Int64.toInt_lt w73
    try have k_0 := ia_n (nvn bt rplace (k15 - rplace)) (by first | decide | omega)
    try have k_1 := ia_n 8 (by first | decide | omega)
    try simp only [ia_lt, ia_le, ia_eq, ia_m1, ia_0, ia_1, ne_eq, true_and, and_true, false_and, and_false, or_false, false_or, or_true, true_or, not_true_eq_false, not_false_eq_true] at *
    all_goals omega
  exact rr_le jPl jLe (by unfold cLe; exact hc.1)
set_option maxRecDepth 20000 in
theorem lf_f_readRun_39 (bt : Nat → Nat) (rlength : Nat) (rplace : Nat) (rbegin : Nat) (rtapeF : Nat → Int32) (k14 : Nat) (k15 : Nat) (x16 : Int32) (w17 : Int64) (n21 : Nat) (y34 : Int32) (y44 : Int32) (w65 : Int64) (y67 : Int32) (w71 : Int64) (w73 : Int64) (iv_rreader_0 : rlength ≤ 940) (iv_rreader_1 : rplace ≤ rlength) (iv_rreader_3 : rbegin ≤ 940) (hTC : TC bt rtapeF) (hbp : rbegin = rplace) (hpl : rplace < rlength) (hal : cAl (bt rplace)) (j18 : k15 ≤ 940) (j19 : k15 ≤ rlength) (jPl : rplace ≤ k15) (jRn : rn bt rlength rplace = rn bt rlength k15) (jDc : k14 = dcn bt rplace (k15 - rplace)) (jNm : ¬ (k14 = (k15 - rplace) ∧ k14 ≤ 3) ∨ x16 = nI (nvn bt rplace (k15 - rplace))) (jLt : ¬ (k14 = 0 ∧ (k15 - rplace) ≤ 7) ∨ w17 = Int64.ofNat (p8 bt rplace (k15 - rplace))) (jLe : k14 ≠ 0 ∨ LET bt rplace (k15 - rplace)) (hm23 : 940 - k15 < n21 + 1) (c24 : k15 < rlength) (e35 : y34 = rtapeF k15) (t36 : bt k15 < 256) (t37 : y34.toInt = ((bt k15 : Nat) : Int) ∨ (128 ≤ bt k15 ∧ y34.toInt = ((bt k15 : Nat) : Int) - 256)) (t40 : 97 ≤ y34.toInt) (t41 : y34.toInt ≤ 122) (e45 : y44 = rtapeF k15) (t46 : bt k15 < 256) (t47 : y44.toInt = ((bt k15 : Nat) : Int) ∨ (128 ≤ bt k15 ∧ y44.toInt = ((bt k15 : Nat) : Int) - 256)) (t52 : ¬ (48 ≤ y44.toInt ∧ y44.toInt ≤ 57)) (e66 : w65 = w17 <<< ((nI 8).toInt64 &&& 63)) (e68 : y67 = rtapeF k15) (t69 : bt k15 < 256) (t70 : y67.toInt = ((bt k15 : Nat) : Int) ∨ (128 ≤ bt k15 ∧ y67.toInt = ((bt k15 : Nat) : Int) - 256)) (e72 : w71 = (y67).toInt64) (e74 : w73 = w65 ||| w71) : 940 - (k15 + 1) < n21 := by
  have b_x16 := ia_b x16
  have b_y34 := ia_b y34
  have b_y44 := ia_b y44
  have b_y67 := ia_b y67
  have b_w17 := Int64.toInt_lt w17
  have b_w65 := Int64.toInt_lt w65
  have b_w71 := Int64.toInt_lt w71
  have b_w73 := Int64.toInt_lt w73
  try have k_0 := ia_n (nvn bt rplace (k15 - rplace)) (by first | decide | omega)
  try have k_1 := ia_n 8 (by first | decide | omega)
  try simp only [ia_lt, ia_le, ia_eq, ia_m1, ia_0, ia_1, ne_eq, true_and, and_true, false_and, and_false, or_false, false_or, or_true, true_or, not_true_eq_false, not_false_eq_true] at *
  all_goals omega
set_option maxRecDepth 20000 in
theorem lf_f_readRun_40 (bt : Nat → Nat) (rlength : Nat) (rplace : Nat) (rbegin : Nat) (rtapeF : Nat → Int32) (k14 : Nat) (k15 : Nat) (x16 : Int32) (w17 : Int64) (n21 : Nat) (y34 : Int32) (y76 : Int32) (y86 : Int32) (y96 : Int32) (y98 : Int32) (y102 : Int32) (y104 : Int32) (iv_rreader_0 : rlength ≤ 940) (iv_rreader_1 : rplace ≤ rlength) (iv_rreader_3 : rbegin ≤ 940) (hTC : TC bt rtapeF) (hbp : rbegin = rplace) (hpl : rplace < rlength) (hal : cAl (bt rplace)) (j18 : k15 ≤ 940) (j19 : k15 ≤ rlength) (jPl : rplace ≤ k15) (jRn : rn bt rlength rplace = rn bt rlength k15) (jDc : k14 = dcn bt rplace (k15 - rplace)) (jNm : ¬ (k14 = (k15 - rplace) ∧ k14 ≤ 3) ∨ x16 = nI (nvn bt rplace (k15 - rplace))) (jLt : ¬ (k14 = 0 ∧ (k15 - rplace) ≤ 7) ∨ w17 = Int64.ofNat (p8 bt rplace (k15 - rplace))) (jLe : k14 ≠ 0 ∨ LET bt rplace (k15 - rplace)) (hm23 : 940 - k15 < n21 + 1) (c24 : k15 < rlength) (e35 : y34 = rtapeF k15) (t36 : bt k15 < 256) (t37 : y34.toInt = ((bt k15 : Nat) : Int) ∨ (128 ≤ bt k15 ∧ y34.toInt = ((bt k15 : Nat) : Int) - 256)) (t42 : ¬ (97 ≤ y34.toInt ∧ y34.toInt ≤ 122)) (e77 : y76 = rtapeF k15) (t78 : bt k15 < 256) (t79 : y76.toInt = ((bt k15 : Nat) : Int) ∨ (128 ≤ bt k15 ∧ y76.toInt = ((bt k15 : Nat) : Int) - 256)) (t82 : 48 ≤ y76.toInt) (t83 : y76.toInt ≤ 57) (e87 : y86 = rtapeF k15) (t88 : bt k15 < 256) (t89 : y86.toInt = ((bt k15 : Nat) : Int) ∨ (128 ≤ bt k15 ∧ y86.toInt = ((bt k15 : Nat) : Int) - 256)) (t92 : 48 ≤ y86.toInt) (t93 : y86.toInt ≤ 57) (e97 : y96 = (nI 10) * x16) (e99 : y98 = rtapeF k15) (t100 : bt k15 < 256) (t101 : y98.toInt = ((bt k15 : Nat) : Int) ∨ (128 ≤ bt k15 ∧ y98.toInt = ((bt k15 : Nat) : Int) - 256)) (e103 : y102 = y96 + y98) (e105 : y104 = y102 - (nI 48)) : (k15 + 1) ≤ 940 := by
  have b_x16 := ia_b x16
  have b_y34 := ia_b y34
  have b_y76 := ia_b y76
  have b_y86 := ia_b y86
  have b_y96 := ia_b y96
  have b_y98 := ia_b y98
  have b_y102 := ia_b y102
  have b_y104 := ia_b y104
  have b_w17 := Int64.toInt_lt w17
  try have k_0 := ia_n (nvn bt rplace (k15 - rplace)) (by first | decide | omega)
  try have k_1 := ia_n 10 (by first | decide | omega)
  try have k_2 := ia_n 48 (by first | decide | omega)
  try simp only [ia_lt, ia_le, ia_eq, ia_m1, ia_0, ia_1, ne_eq, true_and, and_true, false_and, and_false, or_false, false_or, or_true, true_or, not_true_eq_false, not_false_eq_true] at *
  all_goals omega
set_option maxRecDepth 20000 in
theorem lf_f_readRun_41 (bt : Nat → Nat) (rlength : Nat) (rplace : Nat) (rbegin : Nat) (rtapeF : Nat → Int32) (k14 : Nat) (k15 : Nat) (x16 : Int32) (w17 : Int64) (n21 : Nat) (y34 : Int32) (y76 : Int32) (y86 : Int32) (y96 : Int32) (y98 : Int32) (y102 : Int32) (y104 : Int32) (iv_rreader_0 : rlength ≤ 940) (iv_rreader_1 : rplace ≤ rlength) (iv_rreader_3 : rbegin ≤ 940) (hTC : TC bt rtapeF) (hbp : rbegin = rplace) (hpl : rplace < rlength) (hal : cAl (bt rplace)) (j18 : k15 ≤ 940) (j19 : k15 ≤ rlength) (jPl : rplace ≤ k15) (jRn : rn bt rlength rplace = rn bt rlength k15) (jDc : k14 = dcn bt rplace (k15 - rplace)) (jNm : ¬ (k14 = (k15 - rplace) ∧ k14 ≤ 3) ∨ x16 = nI (nvn bt rplace (k15 - rplace))) (jLt : ¬ (k14 = 0 ∧ (k15 - rplace) ≤ 7) ∨ w17 = Int64.ofNat (p8 bt rplace (k15 - rplace))) (jLe : k14 ≠ 0 ∨ LET bt rplace (k15 - rplace)) (hm23 : 940 - k15 < n21 + 1) (c24 : k15 < rlength) (e35 : y34 = rtapeF k15) (t36 : bt k15 < 256) (t37 : y34.toInt = ((bt k15 : Nat) : Int) ∨ (128 ≤ bt k15 ∧ y34.toInt = ((bt k15 : Nat) : Int) - 256)) (t42 : ¬ (97 ≤ y34.toInt ∧ y34.toInt ≤ 122)) (e77 : y76 = rtapeF k15) (t78 : bt k15 < 256) (t79 : y76.toInt = ((bt k15 : Nat) : Int) ∨ (128 ≤ bt k15 ∧ y76.toInt = ((bt k15 : Nat) : Int) - 256)) (t82 : 48 ≤ y76.toInt) (t83 : y76.toInt ≤ 57) (e87 : y86 = rtapeF k15) (t88 : bt k15 < 256) (t89 : y86.toInt = ((bt k15 : Nat) : Int) ∨ (128 ≤ bt k15 ∧ y86.toInt = ((bt k15 : Nat) : Int) - 256)) (t92 : 48 ≤ y86.toInt) (t93 : y86.toInt ≤ 57) (e97 : y96 = (nI 10) * x16) (e99 : y98 = rtapeF k15) (t100 : bt k15 < 256) (t101 : y98.toInt = ((bt k15 : Nat) : Int) ∨ (128 ≤ bt k15 ∧ y98.toInt = ((bt k15 : Nat) : Int) - 256)) (e103 : y102 = y96 + y98) (e105 : y104 = y102 - (nI 48)) : (k15 + 1) ≤ rlength := by
  have b_x16 := ia_b x16
  have b_y34 := ia_b y34
  have b_y76 := ia_b y76
  have b_y86 := ia_b y86
  have b_y96 := ia_b y96
  have b_y98 := ia_b y98
  have b_y102 := ia_b y102
  have b_y104 := ia_b y104
  have b_w17 := Int64.toInt_lt w17
  try have k_0 := ia_n (nvn bt rplace (k15 - rplace)) (by first | decide | omega)
  try have k_1 := ia_n 10 (by first | decide | omega)
  try have k_2 := ia_n 48 (by first | decide | omega)
  try simp only [ia_lt, ia_le, ia_eq, ia_m1, ia_0, ia_1, ne_eq, true_and, and_true, false_and, and_false, or_false, false_or, or_true, true_or, not_true_eq_false, not_false_eq_true] at *
  all_goals omega
set_option maxRecDepth 20000 in
theorem lf_f_readRun_42 (bt : Nat → Nat) (rlength : Nat) (rplace : Nat) (rbegin : Nat) (rtapeF : Nat → Int32) (k14 : Nat) (k15 : Nat) (x16 : Int32) (w17 : Int64) (n21 : Nat) (y34 : Int32) (y76 : Int32) (y86 : Int32) (y96 : Int32) (y98 : Int32) (y102 : Int32) (y104 : Int32) (iv_rreader_0 : rlength ≤ 940) (iv_rreader_1 : rplace ≤ rlength) (iv_rreader_3 : rbegin ≤ 940) (hTC : TC bt rtapeF) (hbp : rbegin = rplace) (hpl : rplace < rlength) (hal : cAl (bt rplace)) (j18 : k15 ≤ 940) (j19 : k15 ≤ rlength) (jPl : rplace ≤ k15) (jRn : rn bt rlength rplace = rn bt rlength k15) (jDc : k14 = dcn bt rplace (k15 - rplace)) (jNm : ¬ (k14 = (k15 - rplace) ∧ k14 ≤ 3) ∨ x16 = nI (nvn bt rplace (k15 - rplace))) (jLt : ¬ (k14 = 0 ∧ (k15 - rplace) ≤ 7) ∨ w17 = Int64.ofNat (p8 bt rplace (k15 - rplace))) (jLe : k14 ≠ 0 ∨ LET bt rplace (k15 - rplace)) (hm23 : 940 - k15 < n21 + 1) (c24 : k15 < rlength) (e35 : y34 = rtapeF k15) (t36 : bt k15 < 256) (t37 : y34.toInt = ((bt k15 : Nat) : Int) ∨ (128 ≤ bt k15 ∧ y34.toInt = ((bt k15 : Nat) : Int) - 256)) (t42 : ¬ (97 ≤ y34.toInt ∧ y34.toInt ≤ 122)) (e77 : y76 = rtapeF k15) (t78 : bt k15 < 256) (t79 : y76.toInt = ((bt k15 : Nat) : Int) ∨ (128 ≤ bt k15 ∧ y76.toInt = ((bt k15 : Nat) : Int) - 256)) (t82 : 48 ≤ y76.toInt) (t83 : y76.toInt ≤ 57) (e87 : y86 = rtapeF k15) (t88 : bt k15 < 256) (t89 : y86.toInt = ((bt k15 : Nat) : Int) ∨ (128 ≤ bt k15 ∧ y86.toInt = ((bt k15 : Nat) : Int) - 256)) (t92 : 48 ≤ y86.toInt) (t93 : y86.toInt ≤ 57) (e97 : y96 = (nI 10) * x16) (e99 : y98 = rtapeF k15) (t100 : bt k15 < 256) (t101 : y98.toInt = ((bt k15 : Nat) : Int) ∨ (128 ≤ bt k15 ∧ y98.toInt = ((bt k15 : Nat) : Int) - 256)) (e103 : y102 = y96 + y98) (e105 : y104 = y102 - (nI 48)) : rplace ≤ (k15 + 1) := by
  have b_x16 := ia_b x16
  have b_y34 := ia_b y34
  have b_y76 := ia_b y76
  have b_y86 := ia_b y86
  have b_y96 := ia_b y96
  have b_y98 := ia_b y98
  have b_y102 := ia_b y102
  have b_y104 := ia_b y104
  have b_w17 := Int64.toInt_lt w17
  try have k_0 := ia_n (nvn bt rplace (k15 - rplace)) (by first | decide | omega)
  try have k_1 := ia_n 10 (by first | decide | omega)
  try have k_2 := ia_n 48 (by first | decide | omega)
  try simp only [ia_lt, ia_le, ia_eq, ia_m1, ia_0, ia_1, ne_eq, true_and, and_true, false_and, and_false, or_false, false_or, or_true, true_or, not_true_eq_false, not_false_eq_true] at *
  all_goals omega
set_option maxRecDepth 20000 in
theorem lf_f_readRun_43 (bt : Nat → Nat) (rlength : Nat) (rplace : Nat) (rbegin : Nat) (rtapeF : Nat → Int32) (k14 : Nat) (k15 : Nat) (x16 : Int32) (w17 : Int64) (n21 : Nat) (y34 : Int32) (y76 : Int32) (y86 : Int32) (y96 : Int32) (y98 : Int32) (y102 : Int32) (y104 : Int32) (iv_rreader_0 : rlength ≤ 940) (iv_rreader_1 : rplace ≤ rlength) (iv_rreader_3 : rbegin ≤ 940) (hTC : TC bt rtapeF) (hbp : rbegin = rplace) (hpl : rplace < rlength) (hal : cAl (bt rplace)) (j18 : k15 ≤ 940) (j19 : k15 ≤ rlength) (jPl : rplace ≤ k15) (jRn : rn bt rlength rplace = rn bt rlength k15) (jDc : k14 = dcn bt rplace (k15 - rplace)) (jNm : ¬ (k14 = (k15 - rplace) ∧ k14 ≤ 3) ∨ x16 = nI (nvn bt rplace (k15 - rplace))) (jLt : ¬ (k14 = 0 ∧ (k15 - rplace) ≤ 7) ∨ w17 = Int64.ofNat (p8 bt rplace (k15 - rplace))) (jLe : k14 ≠ 0 ∨ LET bt rplace (k15 - rplace)) (hm23 : 940 - k15 < n21 + 1) (c24 : k15 < rlength) (e35 : y34 = rtapeF k15) (t36 : bt k15 < 256) (t37 : y34.toInt = ((bt k15 : Nat) : Int) ∨ (128 ≤ bt k15 ∧ y34.toInt = ((bt k15 : Nat) : Int) - 256)) (t42 : ¬ (97 ≤ y34.toInt ∧ y34.toInt ≤ 122)) (e77 : y76 = rtapeF k15) (t78 : bt k15 < 256) (t79 : y76.toInt = ((bt k15 : Nat) : Int) ∨ (128 ≤ bt k15 ∧ y76.toInt = ((bt k15 : Nat) : Int) - 256)) (t82 : 48 ≤ y76.toInt) (t83 : y76.toInt ≤ 57) (e87 : y86 = rtapeF k15) (t88 : bt k15 < 256) (t89 : y86.toInt = ((bt k15 : Nat) : Int) ∨ (128 ≤ bt k15 ∧ y86.toInt = ((bt k15 : Nat) : Int) - 256)) (t92 : 48 ≤ y86.toInt) (t93 : y86.toInt ≤ 57) (e97 : y96 = (nI 10) * x16) (e99 : y98 = rtapeF k15) (t100 : bt k15 < 256) (t101 : y98.toInt = ((bt k15 : Nat) : Int) ∨ (128 ≤ bt k15 ∧ y98.toInt = ((bt k15 : Nat) : Int) - 256)) (e103 : y102 = y96 + y98) (e105 : y104 = y102 - (nI 48)) : rn bt rlength rplace = rn bt rlength (k15 + 1) := by
  have hc : ((97 ≤ bt k15 ∧ bt k15 ≤ 122) ∨ (48 ≤ bt k15 ∧ bt k15 ≤ 57)) ∧ (rtapeF k15).toInt = ((bt k15 : Nat) : Int) := by
    have h8 := hTC k15 (by omega)
    have b_x16 := ia_b x16
    have b_y34 := ia_b y34
    have b_y76 := ia_b y76
    have b_y86 := ia_b y86
    have b_y96 := ia_b y96
    have b_y98 := ia_b y98
    have b_y102 := ia_b y102
    have b_y104 := ia_b y104
    have b_w17 := Int64.toInt_lt w17
    try have k_0 := ia_n (nvn bt rplace (k15 - rplace)) (by first | decide | omega)
    try have k_1 := ia_n 10 (by first | decide | omega)
    try have k_2 := ia_n 48 (by first | decide | omega)
    try simp only [ia_lt, ia_le, ia_eq, ia_m1, ia_0, ia_1, ne_eq, true_and, and_true, false_and, and_false, or_false, false_or, or_true, true_or, not_true_eq_false, not_false_eq_true] at *
    all_goals omega
  rw [jRn]
  exact rn_step (by omega) (by unfold cAl cLe cDi; exact hc.1)
set_option maxRecDepth 20000 in
theorem lf_f_readRun_44 (bt : Nat → Nat) (rlength : Nat) (rplace : Nat) (rbegin : Nat) (rtapeF : Nat → Int32) (k14 : Nat) (k15 : Nat) (x16 : Int32) (w17 : Int64) (n21 : Nat) (y34 : Int32) (y76 : Int32) (y86 : Int32) (y96 : Int32) (y98 : Int32) (y102 : Int32) (y104 : Int32) (iv_rreader_0 : rlength ≤ 940) (iv_rreader_1 : rplace ≤ rlength) (iv_rreader_3 : rbegin ≤ 940) (hTC : TC bt rtapeF) (hbp : rbegin = rplace) (hpl : rplace < rlength) (hal : cAl (bt rplace)) (j18 : k15 ≤ 940) (j19 : k15 ≤ rlength) (jPl : rplace ≤ k15) (jRn : rn bt rlength rplace = rn bt rlength k15) (jDc : k14 = dcn bt rplace (k15 - rplace)) (jNm : ¬ (k14 = (k15 - rplace) ∧ k14 ≤ 3) ∨ x16 = nI (nvn bt rplace (k15 - rplace))) (jLt : ¬ (k14 = 0 ∧ (k15 - rplace) ≤ 7) ∨ w17 = Int64.ofNat (p8 bt rplace (k15 - rplace))) (jLe : k14 ≠ 0 ∨ LET bt rplace (k15 - rplace)) (hm23 : 940 - k15 < n21 + 1) (c24 : k15 < rlength) (e35 : y34 = rtapeF k15) (t36 : bt k15 < 256) (t37 : y34.toInt = ((bt k15 : Nat) : Int) ∨ (128 ≤ bt k15 ∧ y34.toInt = ((bt k15 : Nat) : Int) - 256)) (t42 : ¬ (97 ≤ y34.toInt ∧ y34.toInt ≤ 122)) (e77 : y76 = rtapeF k15) (t78 : bt k15 < 256) (t79 : y76.toInt = ((bt k15 : Nat) : Int) ∨ (128 ≤ bt k15 ∧ y76.toInt = ((bt k15 : Nat) : Int) - 256)) (t82 : 48 ≤ y76.toInt) (t83 : y76.toInt ≤ 57) (e87 : y86 = rtapeF k15) (t88 : bt k15 < 256) (t89 : y86.toInt = ((bt k15 : Nat) : Int) ∨ (128 ≤ bt k15 ∧ y86.toInt = ((bt k15 : Nat) : Int) - 256)) (t92 : 48 ≤ y86.toInt) (t93 : y86.toInt ≤ 57) (e97 : y96 = (nI 10) * x16) (e99 : y98 = rtapeF k15) (t100 : bt k15 < 256) (t101 : y98.toInt = ((bt k15 : Nat) : Int) ∨ (128 ≤ bt k15 ∧ y98.toInt = ((bt k15 : Nat) : Int) - 256)) (e103 : y102 = y96 + y98) (e105 : y104 = y102 - (nI 48)) : (k14 + 1) = dcn bt rplace ((k15 + 1) - rplace) := by
  have hc : (48 ≤ bt k15 ∧ bt k15 ≤ 57) ∧ (rtapeF k15).toInt = ((bt k15 : Nat) : Int) := by
    have h8 := hTC k15 (by omega)
    have b_x16 := ia_b x16
    have b_y34 := ia_b y34
    have b_y76 := ia_b y76
    have b_y86 := ia_b y86
    have b_y96 := ia_b y96
    have b_y98 := ia_b y98
    have b_y102 := ia_b y102
    have b_y104 := ia_b y104
    have b_w17 := Int64.toInt_lt w17
    try have k_0 := ia_n (nvn bt rplace (k15 - rplace)) (by first | decide | omega)
    try have k_1 := ia_n 10 (by first | decide | omega)
    try have k_2 := ia_n 48 (by first | decide | omega)
    try simp only [ia_lt, ia_le, ia_eq, ia_m1, ia_0, ia_1, ne_eq, true_and, and_true, false_and, and_false, or_false, false_or, or_true, true_or, not_true_eq_false, not_false_eq_true] at *
    all_goals omega
  rw [rr_dy jPl (by unfold cDi; exact hc.1), ← jDc]
set_option maxRecDepth 20000 in
theorem lf_f_readRun_45 (bt : Nat → Nat) (rlength : Nat) (rplace : Nat) (rbegin : Nat) (rtapeF : Nat → Int32) (k14 : Nat) (k15 : Nat) (x16 : Int32) (w17 : Int64) (n21 : Nat) (y34 : Int32) (y76 : Int32) (y86 : Int32) (y96 : Int32) (y98 : Int32) (y102 : Int32) (y104 : Int32) (iv_rreader_0 : rlength ≤ 940) (iv_rreader_1 : rplace ≤ rlength) (iv_rreader_3 : rbegin ≤ 940) (hTC : TC bt rtapeF) (hbp : rbegin = rplace) (hpl : rplace < rlength) (hal : cAl (bt rplace)) (j18 : k15 ≤ 940) (j19 : k15 ≤ rlength) (jPl : rplace ≤ k15) (jRn : rn bt rlength rplace = rn bt rlength k15) (jDc : k14 = dcn bt rplace (k15 - rplace)) (jNm : ¬ (k14 = (k15 - rplace) ∧ k14 ≤ 3) ∨ x16 = nI (nvn bt rplace (k15 - rplace))) (jLt : ¬ (k14 = 0 ∧ (k15 - rplace) ≤ 7) ∨ w17 = Int64.ofNat (p8 bt rplace (k15 - rplace))) (jLe : k14 ≠ 0 ∨ LET bt rplace (k15 - rplace)) (hm23 : 940 - k15 < n21 + 1) (c24 : k15 < rlength) (e35 : y34 = rtapeF k15) (t36 : bt k15 < 256) (t37 : y34.toInt = ((bt k15 : Nat) : Int) ∨ (128 ≤ bt k15 ∧ y34.toInt = ((bt k15 : Nat) : Int) - 256)) (t42 : ¬ (97 ≤ y34.toInt ∧ y34.toInt ≤ 122)) (e77 : y76 = rtapeF k15) (t78 : bt k15 < 256) (t79 : y76.toInt = ((bt k15 : Nat) : Int) ∨ (128 ≤ bt k15 ∧ y76.toInt = ((bt k15 : Nat) : Int) - 256)) (t82 : 48 ≤ y76.toInt) (t83 : y76.toInt ≤ 57) (e87 : y86 = rtapeF k15) (t88 : bt k15 < 256) (t89 : y86.toInt = ((bt k15 : Nat) : Int) ∨ (128 ≤ bt k15 ∧ y86.toInt = ((bt k15 : Nat) : Int) - 256)) (t92 : 48 ≤ y86.toInt) (t93 : y86.toInt ≤ 57) (e97 : y96 = (nI 10) * x16) (e99 : y98 = rtapeF k15) (t100 : bt k15 < 256) (t101 : y98.toInt = ((bt k15 : Nat) : Int) ∨ (128 ≤ bt k15 ∧ y98.toInt = ((bt k15 : Nat) : Int) - 256)) (e103 : y102 = y96 + y98) (e105 : y104 = y102 - (nI 48)) : ¬ ((k14 + 1) = ((k15 + 1) - rplace) ∧ (k14 + 1) ≤ 3) ∨ y104 = nI (nvn bt rplace ((k15 + 1) - rplace)) := by
  have hc : (48 ≤ bt k15 ∧ bt k15 ≤ 57) ∧ (rtapeF k15).toInt = ((bt k15 : Nat) : Int) := by
    have h8 := hTC k15 (by omega)
    have b_x16 := ia_b x16
    have b_y34 := ia_b y34
    have b_y76 := ia_b y76
    have b_y86 := ia_b y86
    have b_y96 := ia_b y96
    have b_y98 := ia_b y98
    have b_y102 := ia_b y102
    have b_y104 := ia_b y104
    have b_w17 := Int64.toInt_lt w17
    try have k_0 := ia_n (nvn bt rplace (k15 - rplace)) (by first | decide | omega)
    try have k_1 := ia_n 10 (by first | decide | omega)
    try have k_2 := ia_n 48 (by first | decide | omega)
    try have k_3 := ia_n (nvn bt rplace ((k15 + 1) - rplace)) (by first | decide | omega)
    try simp only [ia_lt, ia_le, ia_eq, ia_m1, ia_0, ia_1, ne_eq, true_and, and_true, false_and, and_false, or_false, false_or, or_true, true_or, not_true_eq_false, not_false_eq_true] at *
    all_goals omega
  subst_vars
  exact rr_ny jPl rfl jNm hc.1.1 hc.1.2 hc.2
set_option maxRecDepth 20000 in
theorem lf_f_readRun_46 (bt : Nat → Nat) (rlength : Nat) (rplace : Nat) (rbegin : Nat) (rtapeF : Nat → Int32) (k14 : Nat) (k15 : Nat) (x16 : Int32) (w17 : Int64) (n21 : Nat) (y34 : Int32) (y76 : Int32) (y86 : Int32) (y96 : Int32) (y98 : Int32) (y102 : Int32) (y104 : Int32) (iv_rreader_0 : rlength ≤ 940) (iv_rreader_1 : rplace ≤ rlength) (iv_rreader_3 : rbegin ≤ 940) (hTC : TC bt rtapeF) (hbp : rbegin = rplace) (hpl : rplace < rlength) (hal : cAl (bt rplace)) (j18 : k15 ≤ 940) (j19 : k15 ≤ rlength) (jPl : rplace ≤ k15) (jRn : rn bt rlength rplace = rn bt rlength k15) (jDc : k14 = dcn bt rplace (k15 - rplace)) (jNm : ¬ (k14 = (k15 - rplace) ∧ k14 ≤ 3) ∨ x16 = nI (nvn bt rplace (k15 - rplace))) (jLt : ¬ (k14 = 0 ∧ (k15 - rplace) ≤ 7) ∨ w17 = Int64.ofNat (p8 bt rplace (k15 - rplace))) (jLe : k14 ≠ 0 ∨ LET bt rplace (k15 - rplace)) (hm23 : 940 - k15 < n21 + 1) (c24 : k15 < rlength) (e35 : y34 = rtapeF k15) (t36 : bt k15 < 256) (t37 : y34.toInt = ((bt k15 : Nat) : Int) ∨ (128 ≤ bt k15 ∧ y34.toInt = ((bt k15 : Nat) : Int) - 256)) (t42 : ¬ (97 ≤ y34.toInt ∧ y34.toInt ≤ 122)) (e77 : y76 = rtapeF k15) (t78 : bt k15 < 256) (t79 : y76.toInt = ((bt k15 : Nat) : Int) ∨ (128 ≤ bt k15 ∧ y76.toInt = ((bt k15 : Nat) : Int) - 256)) (t82 : 48 ≤ y76.toInt) (t83 : y76.toInt ≤ 57) (e87 : y86 = rtapeF k15) (t88 : bt k15 < 256) (t89 : y86.toInt = ((bt k15 : Nat) : Int) ∨ (128 ≤ bt k15 ∧ y86.toInt = ((bt k15 : Nat) : Int) - 256)) (t92 : 48 ≤ y86.toInt) (t93 : y86.toInt ≤ 57) (e97 : y96 = (nI 10) * x16) (e99 : y98 = rtapeF k15) (t100 : bt k15 < 256) (t101 : y98.toInt = ((bt k15 : Nat) : Int) ∨ (128 ≤ bt k15 ∧ y98.toInt = ((bt k15 : Nat) : Int) - 256)) (e103 : y102 = y96 + y98) (e105 : y104 = y102 - (nI 48)) : ¬ ((k14 + 1) = 0 ∧ ((k15 + 1) - rplace) ≤ 7) ∨ w17 = Int64.ofNat (p8 bt rplace ((k15 + 1) - rplace)) := by
  exact Or.inl (by omega)
set_option maxRecDepth 20000 in
theorem lf_f_readRun_47 (bt : Nat → Nat) (rlength : Nat) (rplace : Nat) (rbegin : Nat) (rtapeF : Nat → Int32) (k14 : Nat) (k15 : Nat) (x16 : Int32) (w17 : Int64) (n21 : Nat) (y34 : Int32) (y76 : Int32) (y86 : Int32) (y96 : Int32) (y98 : Int32) (y102 : Int32) (y104 : Int32) (iv_rreader_0 : rlength ≤ 940) (iv_rreader_1 : rplace ≤ rlength) (iv_rreader_3 : rbegin ≤ 940) (hTC : TC bt rtapeF) (hbp : rbegin = rplace) (hpl : rplace < rlength) (hal : cAl (bt rplace)) (j18 : k15 ≤ 940) (j19 : k15 ≤ rlength) (jPl : rplace ≤ k15) (jRn : rn bt rlength rplace = rn bt rlength k15) (jDc : k14 = dcn bt rplace (k15 - rplace)) (jNm : ¬ (k14 = (k15 - rplace) ∧ k14 ≤ 3) ∨ x16 = nI (nvn bt rplace (k15 - rplace))) (jLt : ¬ (k14 = 0 ∧ (k15 - rplace) ≤ 7) ∨ w17 = Int64.ofNat (p8 bt rplace (k15 - rplace))) (jLe : k14 ≠ 0 ∨ LET bt rplace (k15 - rplace)) (hm23 : 940 - k15 < n21 + 1) (c24 : k15 < rlength) (e35 : y34 = rtapeF k15) (t36 : bt k15 < 256) (t37 : y34.toInt = ((bt k15 : Nat) : Int) ∨ (128 ≤ bt k15 ∧ y34.toInt = ((bt k15 : Nat) : Int) - 256)) (t42 : ¬ (97 ≤ y34.toInt ∧ y34.toInt ≤ 122)) (e77 : y76 = rtapeF k15) (t78 : bt k15 < 256) (t79 : y76.toInt = ((bt k15 : Nat) : Int) ∨ (128 ≤ bt k15 ∧ y76.toInt = ((bt k15 : Nat) : Int) - 256)) (t82 : 48 ≤ y76.toInt) (t83 : y76.toInt ≤ 57) (e87 : y86 = rtapeF k15) (t88 : bt k15 < 256) (t89 : y86.toInt = ((bt k15 : Nat) : Int) ∨ (128 ≤ bt k15 ∧ y86.toInt = ((bt k15 : Nat) : Int) - 256)) (t92 : 48 ≤ y86.toInt) (t93 : y86.toInt ≤ 57) (e97 : y96 = (nI 10) * x16) (e99 : y98 = rtapeF k15) (t100 : bt k15 < 256) (t101 : y98.toInt = ((bt k15 : Nat) : Int) ∨ (128 ≤ bt k15 ∧ y98.toInt = ((bt k15 : Nat) : Int) - 256)) (e103 : y102 = y96 + y98) (e105 : y104 = y102 - (nI 48)) : (k14 + 1) ≠ 0 ∨ LET bt rplace ((k15 + 1) - rplace) := by
  exact Or.inl (by omega)
set_option maxRecDepth 20000 in
theorem lf_f_readRun_48 (bt : Nat → Nat) (rlength : Nat) (rplace : Nat) (rbegin : Nat) (rtapeF : Nat → Int32) (k14 : Nat) (k15 : Nat) (x16 : Int32) (w17 : Int64) (n21 : Nat) (y34 : Int32) (y76 : Int32) (y86 : Int32) (y96 : Int32) (y98 : Int32) (y102 : Int32) (y104 : Int32) (iv_rreader_0 : rlength ≤ 940) (iv_rreader_1 : rplace ≤ rlength) (iv_rreader_3 : rbegin ≤ 940) (hTC : TC bt rtapeF) (hbp : rbegin = rplace) (hpl : rplace < rlength) (hal : cAl (bt rplace)) (j18 : k15 ≤ 940) (j19 : k15 ≤ rlength) (jPl : rplace ≤ k15) (jRn : rn bt rlength rplace = rn bt rlength k15) (jDc : k14 = dcn bt rplace (k15 - rplace)) (jNm : ¬ (k14 = (k15 - rplace) ∧ k14 ≤ 3) ∨ x16 = nI (nvn bt rplace (k15 - rplace))) (jLt : ¬ (k14 = 0 ∧ (k15 - rplace) ≤ 7) ∨ w17 = Int64.ofNat (p8 bt rplace (k15 - rplace))) (jLe : k14 ≠ 0 ∨ LET bt rplace (k15 - rplace)) (hm23 : 940 - k15 < n21 + 1) (c24 : k15 < rlength) (e35 : y34 = rtapeF k15) (t36 : bt k15 < 256) (t37 : y34.toInt = ((bt k15 : Nat) : Int) ∨ (128 ≤ bt k15 ∧ y34.toInt = ((bt k15 : Nat) : Int) - 256)) (t42 : ¬ (97 ≤ y34.toInt ∧ y34.toInt ≤ 122)) (e77 : y76 = rtapeF k15) (t78 : bt k15 < 256) (t79 : y76.toInt = ((bt k15 : Nat) : Int) ∨ (128 ≤ bt k15 ∧ y76.toInt = ((bt k15 : Nat) : Int) - 256)) (t82 : 48 ≤ y76.toInt) (t83 : y76.toInt ≤ 57) (e87 : y86 = rtapeF k15) (t88 : bt k15 < 256) (t89 : y86.toInt = ((bt k15 : Nat) : Int) ∨ (128 ≤ bt k15 ∧ y86.toInt = ((bt k15 : Nat) : Int) - 256)) (t92 : 48 ≤ y86.toInt) (t93 : y86.toInt ≤ 57) (e97 : y96 = (nI 10) * x16) (e99 : y98 = rtapeF k15) (t100 : bt k15 < 256) (t101 : y98.toInt = ((bt k15 : Nat) : Int) ∨ (128 ≤ bt k15 ∧ y98.toInt = ((bt k15 : Nat) : Int) - 256)) (e103 : y102 = y96 + y98) (e105 : y104 = y102 - (nI 48)) : 940 - (k15 + 1) < n21 := by
  have b_x16 := ia_b x16
  have b_y34 := ia_b y34
  have b_y76 := ia_b y76
  have b_y86 := ia_b y86
  have b_y96 := ia_b y96
  have b_y98 := ia_b y98
  have b_y102 := ia_b y102
  have b_y104 := ia_b y104
  have b_w17 := Int64.toInt_lt w17
  try have k_0 := ia_n (nvn bt rplace (k15 - rplace)) (by first | decide | omega)
  try have k_1 := ia_n 10 (by first | decide | omega)
  try have k_2 := ia_n 48 (by first | decide | omega)
  try simp only [ia_lt, ia_le, ia_eq, ia_m1, ia_0, ia_1, ne_eq, true_and, and_true, false_and, and_false, or_false, false_or, or_true, true_or, not_true_eq_false, not_false_eq_true] at *
  all_goals omega
set_option maxRecDepth 20000 in
theorem lf_f_readRun_49 (bt : Nat → Nat) (rlength : Nat) (rplace : Nat) (rbegin : Nat) (rtapeF : Nat → Int32) (k14 : Nat) (k15 : Nat) (x16 : Int32) (w17 : Int64) (n21 : Nat) (y34 : Int32) (y76 : Int32) (y86 : Int32) (w107 : Int64) (y109 : Int32) (w113 : Int64) (w115 : Int64) (iv_rreader_0 : rlength ≤ 940) (iv_rreader_1 : rplace ≤ rlength) (iv_rreader_3 : rbegin ≤ 940) (hTC : TC bt rtapeF) (hbp : rbegin = rplace) (hpl : rplace < rlength) (hal : cAl (bt rplace)) (j18 : k15 ≤ 940) (j19 : k15 ≤ rlength) (jPl : rplace ≤ k15) (jRn : rn bt rlength rplace = rn bt rlength k15) (jDc : k14 = dcn bt rplace (k15 - rplace)) (jNm : ¬ (k14 = (k15 - rplace) ∧ k14 ≤ 3) ∨ x16 = nI (nvn bt rplace (k15 - rplace))) (jLt : ¬ (k14 = 0 ∧ (k15 - rplace) ≤ 7) ∨ w17 = Int64.ofNat (p8 bt rplace (k15 - rplace))) (jLe : k14 ≠ 0 ∨ LET bt rplace (k15 - rplace)) (hm23 : 940 - k15 < n21 + 1) (c24 : k15 < rlength) (e35 : y34 = rtapeF k15) (t36 : bt k15 < 256) (t37 : y34.toInt = ((bt k15 : Nat) : Int) ∨ (128 ≤ bt k15 ∧ y34.toInt = ((bt k15 : Nat) : Int) - 256)) (t42 : ¬ (97 ≤ y34.toInt ∧ y34.toInt ≤ 122)) (e77 : y76 = rtapeF k15) (t78 : bt k15 < 256) (t79 : y76.toInt = ((bt k15 : Nat) : Int) ∨ (128 ≤ bt k15 ∧ y76.toInt = ((bt k15 : Nat) : Int) - 256)) (t82 : 48 ≤ y76.toInt) (t83 : y76.toInt ≤ 57) (e87 : y86 = rtapeF k15) (t88 : bt k15 < 256) (t89 : y86.toInt = ((bt k15 : Nat) : Int) ∨ (128 ≤ bt k15 ∧ y86.toInt = ((bt k15 : Nat) : Int) - 256)) (t94 : ¬ (48 ≤ y86.toInt ∧ y86.toInt ≤ 57)) (e108 : w107 = w17 <<< ((nI 8).toInt64 &&& 63)) (e110 : y109 = rtapeF k15) (t111 : bt k15 < 256) (t112 : y109.toInt = ((bt k15 : Nat) : Int) ∨ (128 ≤ bt k15 ∧ y109.toInt = ((bt k15 : Nat) : Int) - 256)) (e114 : w113 = (y109).toInt64) (e116 : w115 = w107 ||| w113) : (k15 + 1) ≤ 940 := by
  have b_x16 := ia_b x16
  have b_y34 := ia_b y34
  have b_y76 := ia_b y76
  have b_y86 := ia_b y86
  have b_y109 := ia_b y109
  have b_w17 := Int64.toInt_lt w17
  have b_w107 := Int64.toInt_lt w107
  have b_w113 := Int64.toInt_lt w113
  have b_w115 := Int64.toInt_lt w115
  try have k_0 := ia_n (nvn bt rplace (k15 - rplace)) (by first | decide | omega)
  try have k_1 := ia_n 8 (by first | decide | omega)
  try simp only [ia_lt, ia_le, ia_eq, ia_m1, ia_0, ia_1, ne_eq, true_and, and_true, false_and, and_false, or_false, false_or, or_true, true_or, not_true_eq_false, not_false_eq_true] at *
  all_goals omega
set_option maxRecDepth 20000 in
theorem lf_f_readRun_50 (bt : Nat → Nat) (rlength : Nat) (rplace : Nat) (rbegin : Nat) (rtapeF : Nat → Int32) (k14 : Nat) (k15 : Nat) (x16 : Int32) (w17 : Int64) (n21 : Nat) (y34 : Int32) (y76 : Int32) (y86 : Int32) (w107 : Int64) (y109 : Int32) (w113 : Int64) (w115 : Int64) (iv_rreader_0 : rlength ≤ 940) (iv_rreader_1 : rplace ≤ rlength) (iv_rreader_3 : rbegin ≤ 940) (hTC : TC bt rtapeF) (hbp : rbegin = rplace) (hpl : rplace < rlength) (hal : cAl (bt rplace)) (j18 : k15 ≤ 940) (j19 : k15 ≤ rlength) (jPl : rplace ≤ k15) (jRn : rn bt rlength rplace = rn bt rlength k15) (jDc : k14 = dcn bt rplace (k15 - rplace)) (jNm : ¬ (k14 = (k15 - rplace) ∧ k14 ≤ 3) ∨ x16 = nI (nvn bt rplace (k15 - rplace))) (jLt : ¬ (k14 = 0 ∧ (k15 - rplace) ≤ 7) ∨ w17 = Int64.ofNat (p8 bt rplace (k15 - rplace))) (jLe : k14 ≠ 0 ∨ LET bt rplace (k15 - rplace)) (hm23 : 940 - k15 < n21 + 1) (c24 : k15 < rlength) (e35 : y34 = rtapeF k15) (t36 : bt k15 < 256) (t37 : y34.toInt = ((bt k15 : Nat) : Int) ∨ (128 ≤ bt k15 ∧ y34.toInt = ((bt k15 : Nat) : Int) - 256)) (t42 : ¬ (97 ≤ y34.toInt ∧ y34.toInt ≤ 122)) (e77 : y76 = rtapeF k15) (t78 : bt k15 < 256) (t79 : y76.toInt = ((bt k15 : Nat) : Int) ∨ (128 ≤ bt k15 ∧ y76.toInt = ((bt k15 : Nat) : Int) - 256)) (t82 : 48 ≤ y76.toInt) (t83 : y76.toInt ≤ 57) (e87 : y86 = rtapeF k15) (t88 : bt k15 < 256) (t89 : y86.toInt = ((bt k15 : Nat) : Int) ∨ (128 ≤ bt k15 ∧ y86.toInt = ((bt k15 : Nat) : Int) - 256)) (t94 : ¬ (48 ≤ y86.toInt ∧ y86.toInt ≤ 57)) (e108 : w107 = w17 <<< ((nI 8).toInt64 &&& 63)) (e110 : y109 = rtapeF k15) (t111 : bt k15 < 256) (t112 : y109.toInt = ((bt k15 : Nat) : Int) ∨ (128 ≤ bt k15 ∧ y109.toInt = ((bt k15 : Nat) : Int) - 256)) (e114 : w113 = (y109).toInt64) (e116 : w115 = w107 ||| w113) : (k15 + 1) ≤ rlength := by
  have b_x16 := ia_b x16
  have b_y34 := ia_b y34
  have b_y76 := ia_b y76
  have b_y86 := ia_b y86
  have b_y109 := ia_b y109
  have b_w17 := Int64.toInt_lt w17
  have b_w107 := Int64.toInt_lt w107
  have b_w113 := Int64.toInt_lt w113
  have b_w115 := Int64.toInt_lt w115
  try have k_0 := ia_n (nvn bt rplace (k15 - rplace)) (by first | decide | omega)
  try have k_1 := ia_n 8 (by first | decide | omega)
  try simp only [ia_lt, ia_le, ia_eq, ia_m1, ia_0, ia_1, ne_eq, true_and, and_true, false_and, and_false, or_false, false_or, or_true, true_or, not_true_eq_false, not_false_eq_true] at *
  all_goals omega
set_option maxRecDepth 20000 in
theorem lf_f_readRun_51 (bt : Nat → Nat) (rlength : Nat) (rplace : Nat) (rbegin : Nat) (rtapeF : Nat → Int32) (k14 : Nat) (k15 : Nat) (x16 : Int32) (w17 : Int64) (n21 : Nat) (y34 : Int32) (y76 : Int32) (y86 : Int32) (w107 : Int64) (y109 : Int32) (w113 : Int64) (w115 : Int64) (iv_rreader_0 : rlength ≤ 940) (iv_rreader_1 : rplace ≤ rlength) (iv_rreader_3 : rbegin ≤ 940) (hTC : TC bt rtapeF) (hbp : rbegin = rplace) (hpl : rplace < rlength) (hal : cAl (bt rplace)) (j18 : k15 ≤ 940) (j19 : k15 ≤ rlength) (jPl : rplace ≤ k15) (jRn : rn bt rlength rplace = rn bt rlength k15) (jDc : k14 = dcn bt rplace (k15 - rplace)) (jNm : ¬ (k14 = (k15 - rplace) ∧ k14 ≤ 3) ∨ x16 = nI (nvn bt rplace (k15 - rplace))) (jLt : ¬ (k14 = 0 ∧ (k15 - rplace) ≤ 7) ∨ w17 = Int64.ofNat (p8 bt rplace (k15 - rplace))) (jLe : k14 ≠ 0 ∨ LET bt rplace (k15 - rplace)) (hm23 : 940 - k15 < n21 + 1) (c24 : k15 < rlength) (e35 : y34 = rtapeF k15) (t36 : bt k15 < 256) (t37 : y34.toInt = ((bt k15 : Nat) : Int) ∨ (128 ≤ bt k15 ∧ y34.toInt = ((bt k15 : Nat) : Int) - 256)) (t42 : ¬ (97 ≤ y34.toInt ∧ y34.toInt ≤ 122)) (e77 : y76 = rtapeF k15) (t78 : bt k15 < 256) (t79 : y76.toInt = ((bt k15 : Nat) : Int) ∨ (128 ≤ bt k15 ∧ y76.toInt = ((bt k15 : Nat) : Int) - 256)) (t82 : 48 ≤ y76.toInt) (t83 : y76.toInt ≤ 57) (e87 : y86 = rtapeF k15) (t88 : bt k15 < 256) (t89 : y86.toInt = ((bt k15 : Nat) : Int) ∨ (128 ≤ bt k15 ∧ y86.toInt = ((bt k15 : Nat) : Int) - 256)) (t94 : ¬ (48 ≤ y86.toInt ∧ y86.toInt ≤ 57)) (e108 : w107 = w17 <<< ((nI 8).toInt64 &&& 63)) (e110 : y109 = rtapeF k15) (t111 : bt k15 < 256) (t112 : y109.toInt = ((bt k15 : Nat) : Int) ∨ (128 ≤ bt k15 ∧ y109.toInt = ((bt k15 : Nat) : Int) - 256)) (e114 : w113 = (y109).toInt64) (e116 : w115 = w107 ||| w113) : rplace ≤ (k15 + 1) := by
  have b_x16 := ia_b x16
  have b_y34 := ia_b y34
  have b_y76 := ia_b y76
  have b_y86 := ia_b y86
  have b_y109 := ia_b y109
  have b_w17 := Int64.toInt_lt w17
  have b_w107 := Int64.toInt_lt w107
  have b_w113 := Int64.toInt_lt w113
  have b_w115 := Int64.toInt_lt w115
  try have k_0 := ia_n (nvn bt rplace (k15 - rplace)) (by first | decide | omega)
  try have k_1 := ia_n 8 (by first | decide | omega)
  try simp only [ia_lt, ia_le, ia_eq, ia_m1, ia_0, ia_1, ne_eq, true_and, and_true, false_and, and_false, or_false, false_or, or_true, true_or, not_true_eq_false, not_false_eq_true] at *
  all_goals omega
set_option maxRecDepth 20000 in
theorem lf_f_readRun_52 (bt : Nat → Nat) (rlength : Nat) (rplace : Nat) (rbegin : Nat) (rtapeF : Nat → Int32) (k14 : Nat) (k15 : Nat) (x16 : Int32) (w17 : Int64) (n21 : Nat) (y34 : Int32) (y76 : Int32) (y86 : Int32) (w107 : Int64) (y109 : Int32) (w113 : Int64) (w115 : Int64) (iv_rreader_0 : rlength ≤ 940) (iv_rreader_1 : rplace ≤ rlength) (iv_rreader_3 : rbegin ≤ 940) (hTC : TC bt rtapeF) (hbp : rbegin = rplace) (hpl : rplace < rlength) (hal : cAl (bt rplace)) (j18 : k15 ≤ 940) (j19 : k15 ≤ rlength) (jPl : rplace ≤ k15) (jRn : rn bt rlength rplace = rn bt rlength k15) (jDc : k14 = dcn bt rplace (k15 - rplace)) (jNm : ¬ (k14 = (k15 - rplace) ∧ k14 ≤ 3) ∨ x16 = nI (nvn bt rplace (k15 - rplace))) (jLt : ¬ (k14 = 0 ∧ (k15 - rplace) ≤ 7) ∨ w17 = Int64.ofNat (p8 bt rplace (k15 - rplace))) (jLe : k14 ≠ 0 ∨ LET bt rplace (k15 - rplace)) (hm23 : 940 - k15 < n21 + 1) (c24 : k15 < rlength) (e35 : y34 = rtapeF k15) (t36 : bt k15 < 256) (t37 : y34.toInt = ((bt k15 : Nat) : Int) ∨ (128 ≤ bt k15 ∧ y34.toInt = ((bt k15 : Nat) : Int) - 256)) (t42 : ¬ (97 ≤ y34.toInt ∧ y34.toInt ≤ 122)) (e77 : y76 = rtapeF k15) (t78 : bt k15 < 256) (t79 : y76.toInt = ((bt k15 : Nat) : Int) ∨ (128 ≤ bt k15 ∧ y76.toInt = ((bt k15 : Nat) : Int) - 256)) (t82 : 48 ≤ y76.toInt) (t83 : y76.toInt ≤ 57) (e87 : y86 = rtapeF k15) (t88 : bt k15 < 256) (t89 : y86.toInt = ((bt k15 : Nat) : Int) ∨ (128 ≤ bt k15 ∧ y86.toInt = ((bt k15 : Nat) : Int) - 256)) (t94 : ¬ (48 ≤ y86.toInt ∧ y86.toInt ≤ 57)) (e108 : w107 = w17 <<< ((nI 8).toInt64 &&& 63)) (e110 : y109 = rtapeF k15) (t111 : bt k15 < 256) (t112 : y109.toInt = ((bt k15 : Nat) : Int) ∨ (128 ≤ bt k15 ∧ y109.toInt = ((bt k15 : Nat) : Int) - 256)) (e114 : w113 = (y109).toInt64) (e116 : w115 = w107 ||| w113) : rn bt rlength rplace = rn bt rlength (k15 + 1) := by
  have hc : ((97 ≤ bt k15 ∧ bt k15 ≤ 122) ∨ (48 ≤ bt k15 ∧ bt k15 ≤ 57)) ∧ (rtapeF k15).toInt = ((bt k15 : Nat) : Int) := by
    have h8 := hTC k15 (by omega)
    have b_x16 := ia_b x16
    have b_y34 := ia_b y34
    have b_y76 := ia_b y76
    have b_y86 := ia_b y86
    have b_y109 := ia_b y109
    have b_w17 := Int64.toInt_lt w17
    have b_w107 := Int64.toInt_lt w107
    have b_w113 := Int64.toInt_lt w113
    have b_w115 := Int64.toInt_lt w115
    try have k_0 := ia_n (nvn bt rplace (k15 - rplace)) (by first | decide | omega)
    try have k_1 := ia_n 8 (by first | decide | omega)
    try simp only [ia_lt, ia_le, ia_eq, ia_m1, ia_0, ia_1, ne_eq, true_and, and_true, false_and, and_false, or_false, false_or, or_true, true_or, not_true_eq_false, not_false_eq_true] at *
    all_goals omega
  rw [jRn]
  exact rn_step (by omega) (by unfold cAl cLe cDi; exact hc.1)
set_option maxRecDepth 20000 in
theorem lf_f_readRun_53 (bt : Nat → Nat) (rlength : Nat) (rplace : Nat) (rbegin : Nat) (rtapeF : Nat → Int32) (k14 : Nat) (k15 : Nat) (x16 : Int32) (w17 : Int64) (n21 : Nat) (y34 : Int32) (y76 : Int32) (y86 : Int32) (w107 : Int64) (y109 : Int32) (w113 : Int64) (w115 : Int64) (iv_rreader_0 : rlength ≤ 940) (iv_rreader_1 : rplace ≤ rlength) (iv_rreader_3 : rbegin ≤ 940) (hTC : TC bt rtapeF) (hbp : rbegin = rplace) (hpl : rplace < rlength) (hal : cAl (bt rplace)) (j18 : k15 ≤ 940) (j19 : k15 ≤ rlength) (jPl : rplace ≤ k15) (jRn : rn bt rlength rplace = rn bt rlength k15) (jDc : k14 = dcn bt rplace (k15 - rplace)) (jNm : ¬ (k14 = (k15 - rplace) ∧ k14 ≤ 3) ∨ x16 = nI (nvn bt rplace (k15 - rplace))) (jLt : ¬ (k14 = 0 ∧ (k15 - rplace) ≤ 7) ∨ w17 = Int64.ofNat (p8 bt rplace (k15 - rplace))) (jLe : k14 ≠ 0 ∨ LET bt rplace (k15 - rplace)) (hm23 : 940 - k15 < n21 + 1) (c24 : k15 < rlength) (e35 : y34 = rtapeF k15) (t36 : bt k15 < 256) (t37 : y34.toInt = ((bt k15 : Nat) : Int) ∨ (128 ≤ bt k15 ∧ y34.toInt = ((bt k15 : Nat) : Int) - 256)) (t42 : ¬ (97 ≤ y34.toInt ∧ y34.toInt ≤ 122)) (e77 : y76 = rtapeF k15) (t78 : bt k15 < 256) (t79 : y76.toInt = ((bt k15 : Nat) : Int) ∨ (128 ≤ bt k15 ∧ y76.toInt = ((bt k15 : Nat) : Int) - 256)) (t82 : 48 ≤ y76.toInt) (t83 : y76.toInt ≤ 57) (e87 : y86 = rtapeF k15) (t88 : bt k15 < 256) (t89 : y86.toInt = ((bt k15 : Nat) : Int) ∨ (128 ≤ bt k15 ∧ y86.toInt = ((bt k15 : Nat) : Int) - 256)) (t94 : ¬ (48 ≤ y86.toInt ∧ y86.toInt ≤ 57)) (e108 : w107 = w17 <<< ((nI 8).toInt64 &&& 63)) (e110 : y109 = rtapeF k15) (t111 : bt k15 < 256) (t112 : y109.toInt = ((bt k15 : Nat) : Int) ∨ (128 ≤ bt k15 ∧ y109.toInt = ((bt k15 : Nat) : Int) - 256)) (e114 : w113 = (y109).toInt64) (e116 : w115 = w107 ||| w113) : k14 = dcn bt rplace ((k15 + 1) - rplace) := by
  have hc : (97 ≤ bt k15 ∧ bt k15 ≤ 122) ∧ (rtapeF k15).toInt = ((bt k15 : Nat) : Int) := by
    have h8 := hTC k15 (by omega)
    have b_x16 := ia_b x16
    have b_y34 := ia_b y34
    have b_y76 := ia_b y76
    have b_y86 := ia_b y86
    have b_y109 := ia_b y109
    have b_w17 := Int64.toInt_lt w17
    have b_w107 := Int64.toInt_lt w107
    have b_w113 := Int64.toInt_lt w113
    have b_w115 := Int64.toInt_lt w115
    try have k_0 := ia_n (nvn bt rplace (k15 - rplace)) (by first | decide | omega)
    try have k_1 := ia_n 8 (by first | decide | omega)
    try simp only [ia_lt, ia_le, ia_eq, ia_m1, ia_0, ia_1, ne_eq, true_and, and_true, false_and, and_false, or_false, false_or, or_true, true_or, not_true_eq_false, not_false_eq_true] at *
    all_goals omega
  rw [rr_dn jPl (by unfold cDi; omega), ← jDc]
set_option maxRecDepth 20000 in
theorem lf_f_readRun_54 (bt : Nat → Nat) (rlength : Nat) (rplace : Nat) (rbegin : Nat) (rtapeF : Nat → Int32) (k14 : Nat) (k15 : Nat) (x16 : Int32) (w17 : Int64) (n21 : Nat) (y34 : Int32) (y76 : Int32) (y86 : Int32) (w107 : Int64) (y109 : Int32) (w113 : Int64) (w115 : Int64) (iv_rreader_0 : rlength ≤ 940) (iv_rreader_1 : rplace ≤ rlength) (iv_rreader_3 : rbegin ≤ 940) (hTC : TC bt rtapeF) (hbp : rbegin = rplace) (hpl : rplace < rlength) (hal : cAl (bt rplace)) (j18 : k15 ≤ 940) (j19 : k15 ≤ rlength) (jPl : rplace ≤ k15) (jRn : rn bt rlength rplace = rn bt rlength k15) (jDc : k14 = dcn bt rplace (k15 - rplace)) (jNm : ¬ (k14 = (k15 - rplace) ∧ k14 ≤ 3) ∨ x16 = nI (nvn bt rplace (k15 - rplace))) (jLt : ¬ (k14 = 0 ∧ (k15 - rplace) ≤ 7) ∨ w17 = Int64.ofNat (p8 bt rplace (k15 - rplace))) (jLe : k14 ≠ 0 ∨ LET bt rplace (k15 - rplace)) (hm23 : 940 - k15 < n21 + 1) (c24 : k15 < rlength) (e35 : y34 = rtapeF k15) (t36 : bt k15 < 256) (t37 : y34.toInt = ((bt k15 : Nat) : Int) ∨ (128 ≤ bt k15 ∧ y34.toInt = ((bt k15 : Nat) : Int) - 256)) (t42 : ¬ (97 ≤ y34.toInt ∧ y34.toInt ≤ 122)) (e77 : y76 = rtapeF k15) (t78 : bt k15 < 256) (t79 : y76.toInt = ((bt k15 : Nat) : Int) ∨ (128 ≤ bt k15 ∧ y76.toInt = ((bt k15 : Nat) : Int) - 256)) (t82 : 48 ≤ y76.toInt) (t83 : y76.toInt ≤ 57) (e87 : y86 = rtapeF k15) (t88 : bt k15 < 256) (t89 : y86.toInt = ((bt k15 : Nat) : Int) ∨ (128 ≤ bt k15 ∧ y86.toInt = ((bt k15 : Nat) : Int) - 256)) (t94 : ¬ (48 ≤ y86.toInt ∧ y86.toInt ≤ 57)) (e108 : w107 = w17 <<< ((nI 8).toInt64 &&& 63)) (e110 : y109 = rtapeF k15) (t111 : bt k15 < 256) (t112 : y109.toInt = ((bt k15 : Nat) : Int) ∨ (128 ≤ bt k15 ∧ y109.toInt = ((bt k15 : Nat) : Int) - 256)) (e114 : w113 = (y109).toInt64) (e116 : w115 = w107 ||| w113) : ¬ (k14 = ((k15 + 1) - rplace) ∧ k14 ≤ 3) ∨ x16 = nI (nvn bt rplace ((k15 + 1) - rplace)) := by
  exact rr_nn jPl jDc
set_option maxRecDepth 20000 in
theorem lf_f_readRun_55 (bt : Nat → Nat) (rlength : Nat) (rplace : Nat) (rbegin : Nat) (rtapeF : Nat → Int32) (k14 : Nat) (k15 : Nat) (x16 : Int32) (w17 : Int64) (n21 : Nat) (y34 : Int32) (y76 : Int32) (y86 : Int32) (w107 : Int64) (y109 : Int32) (w113 : Int64) (w115 : Int64) (iv_rreader_0 : rlength ≤ 940) (iv_rreader_1 : rplace ≤ rlength) (iv_rreader_3 : rbegin ≤ 940) (hTC : TC bt rtapeF) (hbp : rbegin = rplace) (hpl : rplace < rlength) (hal : cAl (bt rplace)) (j18 : k15 ≤ 940) (j19 : k15 ≤ rlength) (jPl : rplace ≤ k15) (jRn : rn bt rlength rplace = rn bt rlength k15) (jDc : k14 = dcn bt rplace (k15 - rplace)) (jNm : ¬ (k14 = (k15 - rplace) ∧ k14 ≤ 3) ∨ x16 = nI (nvn bt rplace (k15 - rplace))) (jLt : ¬ (k14 = 0 ∧ (k15 - rplace) ≤ 7) ∨ w17 = Int64.ofNat (p8 bt rplace (k15 - rplace))) (jLe : k14 ≠ 0 ∨ LET bt rplace (k15 - rplace)) (hm23 : 940 - k15 < n21 + 1) (c24 : k15 < rlength) (e35 : y34 = rtapeF k15) (t36 : bt k15 < 256) (t37 : y34.toInt = ((bt k15 : Nat) : Int) ∨ (128 ≤ bt k15 ∧ y34.toInt = ((bt k15 : Nat) : Int) - 256)) (t42 : ¬ (97 ≤ y34.toInt ∧ y34.toInt ≤ 122)) (e77 : y76 = rtapeF k15) (t78 : bt k15 < 256) (t79 : y76.toInt = ((bt k15 : Nat) : Int) ∨ (128 ≤ bt k15 ∧ y76.toInt = ((bt k15 : Nat) : Int) - 256)) (t82 : 48 ≤ y76.toInt) (t83 : y76.toInt ≤ 57) (e87 : y86 = rtapeF k15) (t88 : bt k15 < 256) (t89 : y86.toInt = ((bt k15 : Nat) : Int) ∨ (128 ≤ bt k15 ∧ y86.toInt = ((bt k15 : Nat) : Int) - 256)) (t94 : ¬ (48 ≤ y86.toInt ∧ y86.toInt ≤ 57)) (e108 : w107 = w17 <<< ((nI 8).toInt64 &&& 63)) (e110 : y109 = rtapeF k15) (t111 : bt k15 < 256) (t112 : y109.toInt = ((bt k15 : Nat) : Int) ∨ (128 ≤ bt k15 ∧ y109.toInt = ((bt k15 : Nat) : Int) - 256)) (e114 : w113 = (y109).toInt64) (e116 : w115 = w107 ||| w113) : ¬ (k14 = 0 ∧ ((k15 + 1) - rplace) ≤ 7) ∨ w115 = Int64.ofNat (p8 bt rplace ((k15 + 1) - rplace)) := by
  have hc : (97 ≤ bt k15 ∧ bt k15 ≤ 122) ∧ (rtapeF k15).toInt = ((bt k15 : Nat) : Int) := by
    have h8 := hTC k15 (by omega)
    have b_x16 := ia_b x16
    have b_y34 := ia_b y34
    have b_y76 := ia_b y76
    have b_y86 := ia_b y86
    have b_y109 := ia_b y109
    have b_w17 := Int64.toInt_lt w17
    have b_w107 := Int64.toInt_lt w107
    have b_w113 := Int64.toInt_lt w113
    have b_w115 := Int64.toInt_lt w115
    try have k_0 := ia_n (nvn bt rplace (k15 - rplace)) (by first | decide | omega)
    try have k_1 := ia_n 8 (by first | decide | omega)
    try simp only [ia_lt, ia_le, ia_eq, ia_m1, ia_0, ia_1, ne_eq, true_and, and_true, false_and, and_false, or_false, false_or, or_true, true_or, not_true_eq_false, not_false_eq_true] at *
    all_goals omega
  subst_vars
  exact rr_ly jPl jLt jLe (by omega) hc.2
set_option maxRecDepth 20000 in
theorem lf_f_readRun_56 (bt : Nat → Nat) (rlength : Nat) (rplace : Nat) (rbegin : Nat) (rtapeF : Nat → Int32) (k14 : Nat) (k15 : Nat) (x16 : Int32) (w17 : Int64) (n21 : Nat) (y34 : Int32) (y76 : Int32) (y86 : Int32) (w107 : Int64) (y109 : Int32) (w113 : Int64) (w115 : Int64) (iv_rreader_0 : rlength ≤ 940) (iv_rreader_1 : rplace ≤ rlength) (iv_rreader_3 : rbegin ≤ 940) (hTC : TC bt rtapeF) (hbp : rbegin = rplace) (hpl : rplace < rlength) (hal : cAl (bt rplace)) (j18 : k15 ≤ 940) (j19 : k15 ≤ rlength) (jPl : rplace ≤ k15) (jRn : rn bt rlength rplace = rn bt rlength k15) (jDc : k14 = dcn bt rplace (k15 - rplace)) (jNm : ¬ (k14 = (k15 - rplace) ∧ k14 ≤ 3) ∨ x16 = nI (nvn bt rplace (k15 - rplace))) (jLt : ¬ (k14 = 0 ∧ (k15 - rplace) ≤ 7) ∨ w17 = Int64.ofNat (p8 bt rplace (k15 - rplace))) (jLe : k14 ≠ 0 ∨ LET bt rplace (k15 - rplace)) (hm23 : 940 - k15 < n21 + 1) (c24 : k15 < rlength) (e35 : y34 = rtapeF k15) (t36 : bt k15 < 256) (t37 : y34.toInt = ((bt k15 : Nat) : Int) ∨ (128 ≤ bt k15 ∧ y34.toInt = ((bt k15 : Nat) : Int) - 256)) (t42 : ¬ (97 ≤ y34.toInt ∧ y34.toInt ≤ 122)) (e77 : y76 = rtapeF k15) (t78 : bt k15 < 256) (t79 : y76.toInt = ((bt k15 : Nat) : Int) ∨ (128 ≤ bt k15 ∧ y76.toInt = ((bt k15 : Nat) : Int) - 256)) (t82 : 48 ≤ y76.toInt) (t83 : y76.toInt ≤ 57) (e87 : y86 = rtapeF k15) (t88 : bt k15 < 256) (t89 : y86.toInt = ((bt k15 : Nat) : Int) ∨ (128 ≤ bt k15 ∧ y86.toInt = ((bt k15 : Nat) : Int) - 256)) (t94 : ¬ (48 ≤ y86.toInt ∧ y86.toInt ≤ 57)) (e108 : w107 = w17 <<< ((nI 8).toInt64 &&& 63)) (e110 : y109 = rtapeF k15) (t111 : bt k15 < 256) (t112 : y109.toInt = ((bt k15 : Nat) : Int) ∨ (128 ≤ bt k15 ∧ y109.toInt = ((bt k15 : Nat) : Int) - 256)) (e114 : w113 = (y109).toInt64) (e116 : w115 = w107 ||| w113) : k14 ≠ 0 ∨ LET bt rplace ((k15 + 1) - rplace) := by
  have hc : (97 ≤ bt k15 ∧ bt k15 ≤ 122) ∧ (rtapeF k15).toInt = ((bt k15 : Nat) : Int) := by
    have h8 := hTC k15 (by omega)
    have b_x16 := ia_b x16
    have b_y34 := ia_b y34
    have b_y76 := ia_b y76
    have b_y86 := ia_b y86
    have b_y109 := ia_b y109
    have b_w17 := Int64.toInt_lt w17
    have b_w107 := Int64.toInt_lt w107
    have b_w113 := Int64.toInt_lt w113
    have b_w115 := Int64.toInt_lt w115
    try have k_0 := ia_n (nvn bt rplace (k15 - rplace)) (by first | decide | omega)
    try have k_1 := ia_n 8 (by first | decide | omega)
    try simp only [ia_lt, ia_le, ia_eq, ia_m1, ia_0, ia_1, ne_eq, true_and, and_true, false_and, and_false, or_false, false_or, or_true, true_or, not_true_eq_false, not_false_eq_true] at *
    all_goals omega
  exact rr_le jPl jLe (by unfold cLe; exact hc.1)
set_option maxRecDepth 20000 in
theorem lf_f_readRun_57 (bt : Nat → Nat) (rlength : Nat) (rplace : Nat) (rbegin : Nat) (rtapeF : Nat → Int32) (k14 : Nat) (k15 : Nat) (x16 : Int32) (w17 : Int64) (n21 : Nat) (y34 : Int32) (y76 : Int32) (y86 : Int32) (w107 : Int64) (y109 : Int32) (w113 : Int64) (w115 : Int64) (iv_rreader_0 : rlength ≤ 940) (iv_rreader_1 : rplace ≤ rlength) (iv_rreader_3 : rbegin ≤ 940) (hTC : TC bt rtapeF) (hbp : rbegin = rplace) (hpl : rplace < rlength) (hal : cAl (bt rplace)) (j18 : k15 ≤ 940) (j19 : k15 ≤ rlength) (jPl : rplace ≤ k15) (jRn : rn bt rlength rplace = rn bt rlength k15) (jDc : k14 = dcn bt rplace (k15 - rplace)) (jNm : ¬ (k14 = (k15 - rplace) ∧ k14 ≤ 3) ∨ x16 = nI (nvn bt rplace (k15 - rplace))) (jLt : ¬ (k14 = 0 ∧ (k15 - rplace) ≤ 7) ∨ w17 = Int64.ofNat (p8 bt rplace (k15 - rplace))) (jLe : k14 ≠ 0 ∨ LET bt rplace (k15 - rplace)) (hm23 : 940 - k15 < n21 + 1) (c24 : k15 < rlength) (e35 : y34 = rtapeF k15) (t36 : bt k15 < 256) (t37 : y34.toInt = ((bt k15 : Nat) : Int) ∨ (128 ≤ bt k15 ∧ y34.toInt = ((bt k15 : Nat) : Int) - 256)) (t42 : ¬ (97 ≤ y34.toInt ∧ y34.toInt ≤ 122)) (e77 : y76 = rtapeF k15) (t78 : bt k15 < 256) (t79 : y76.toInt = ((bt k15 : Nat) : Int) ∨ (128 ≤ bt k15 ∧ y76.toInt = ((bt k15 : Nat) : Int) - 256)) (t82 : 48 ≤ y76.toInt) (t83 : y76.toInt ≤ 57) (e87 : y86 = rtapeF k15) (t88 : bt k15 < 256) (t89 : y86.toInt = ((bt k15 : Nat) : Int) ∨ (128 ≤ bt k15 ∧ y86.toInt = ((bt k15 : Nat) : Int) - 256)) (t94 : ¬ (48 ≤ y86.toInt ∧ y86.toInt ≤ 57)) (e108 : w107 = w17 <<< ((nI 8).toInt64 &&& 63)) (e110 : y109 = rtapeF k15) (t111 : bt k15 < 256) (t112 : y109.toInt = ((bt k15 : Nat) : Int) ∨ (128 ≤ bt k15 ∧ y109.toInt = ((bt k15 : Nat) : Int) - 256)) (e114 : w113 = (y109).toInt64) (e116 : w115 = w107 ||| w113) : 940 - (k15 + 1) < n21 := by
  have b_x16 := ia_b x16
  have b_y34 := ia_b y34
  have b_y76 := ia_b y76
  have b_y86 := ia_b y86
  have b_y109 := ia_b y109
  have b_w17 := Int64.toInt_lt w17
  have b_w107 := Int64.toInt_lt w107
  have b_w113 := Int64.toInt_lt w113
  have b_w115 := Int64.toInt_lt w115
  try have k_0 := ia_n (nvn bt rplace (k15 - rplace)) (by first | decide | omega)
  try have k_1 := ia_n 8 (by first | decide | omega)
  try simp only [ia_lt, ia_le, ia_eq, ia_m1, ia_0, ia_1, ne_eq, true_and, and_true, false_and, and_false, or_false, false_or, or_true, true_or, not_true_eq_false, not_false_eq_true] at *
  all_goals omega
set_option maxRecDepth 20000 in
theorem lf_f_readRun_58 (bt : Nat → Nat) (rlength : Nat) (rplace : Nat) (rbegin : Nat) (rtapeF : Nat → Int32) (k14 : Nat) (k15 : Nat) (x16 : Int32) (w17 : Int64) (n21 : Nat) (y34 : Int32) (y76 : Int32) (y118 : Int32) (iv_rreader_0 : rlength ≤ 940) (iv_rreader_1 : rplace ≤ rlength) (iv_rreader_3 : rbegin ≤ 940) (hTC : TC bt rtapeF) (hbp : rbegin = rplace) (hpl : rplace < rlength) (hal : cAl (bt rplace)) (j18 : k15 ≤ 940) (j19 : k15 ≤ rlength) (jPl : rplace ≤ k15) (jRn : rn bt rlength rplace = rn bt rlength k15) (jDc : k14 = dcn bt rplace (k15 - rplace)) (jNm : ¬ (k14 = (k15 - rplace) ∧ k14 ≤ 3) ∨ x16 = nI (nvn bt rplace (k15 - rplace))) (jLt : ¬ (k14 = 0 ∧ (k15 - rplace) ≤ 7) ∨ w17 = Int64.ofNat (p8 bt rplace (k15 - rplace))) (jLe : k14 ≠ 0 ∨ LET bt rplace (k15 - rplace)) (hm23 : 940 - k15 < n21 + 1) (c24 : k15 < rlength) (e35 : y34 = rtapeF k15) (t36 : bt k15 < 256) (t37 : y34.toInt = ((bt k15 : Nat) : Int) ∨ (128 ≤ bt k15 ∧ y34.toInt = ((bt k15 : Nat) : Int) - 256)) (t42 : ¬ (97 ≤ y34.toInt ∧ y34.toInt ≤ 122)) (e77 : y76 = rtapeF k15) (t78 : bt k15 < 256) (t79 : y76.toInt = ((bt k15 : Nat) : Int) ∨ (128 ≤ bt k15 ∧ y76.toInt = ((bt k15 : Nat) : Int) - 256)) (t84 : ¬ (48 ≤ y76.toInt ∧ y76.toInt ≤ 57)) (f120 : y118.toInt = ((k15 : Nat) : Int) - ((rbegin : Nat) : Int)) (c121 : nI k14 ≠ 0) (c122 : nI k14 ≠ y118) : k15 = rn bt rlength rplace := by
  have hE : k15 = rn bt rlength rplace := by
    rw [jRn]
    refine (rn_stop (fun h9 => ?_)).symm
    obtain ⟨h8, h9⟩ := h9
    unfold cAl cLe cDi at h9
    have h7 := hTC k15 (by omega)
    have b_x16 := ia_b x16
    have b_y34 := ia_b y34
    have b_y76 := ia_b y76
    have b_y118 := ia_b y118
    have b_w17 := Int64.toInt_lt w17
    try have k_0 := ia_n (nvn bt rplace (k15 - rplace)) (by first | decide | omega)
    try have k_1 := ia_n k14 (by first | decide | omega)
    try simp only [ia_lt, ia_le, ia_eq, ia_m1, ia_0, ia_1, ne_eq, true_and, and_true, false_and, and_false, or_false, false_or, or_true, true_or, not_true_eq_false, not_false_eq_true] at *
    all_goals omega
  exact hE
set_option maxRecDepth 20000 in
theorem lf_f_readRun_59 (bt : Nat → Nat) (rlength : Nat) (rplace : Nat) (rbegin : Nat) (rtapeF : Nat → Int32) (k14 : Nat) (k15 : Nat) (x16 : Int32) (w17 : Int64) (n21 : Nat) (y34 : Int32) (y76 : Int32) (y118 : Int32) (iv_rreader_0 : rlength ≤ 940) (iv_rreader_1 : rplace ≤ rlength) (iv_rreader_3 : rbegin ≤ 940) (hTC : TC bt rtapeF) (hbp : rbegin = rplace) (hpl : rplace < rlength) (hal : cAl (bt rplace)) (j18 : k15 ≤ 940) (j19 : k15 ≤ rlength) (jPl : rplace ≤ k15) (jRn : rn bt rlength rplace = rn bt rlength k15) (jDc : k14 = dcn bt rplace (k15 - rplace)) (jNm : ¬ (k14 = (k15 - rplace) ∧ k14 ≤ 3) ∨ x16 = nI (nvn bt rplace (k15 - rplace))) (jLt : ¬ (k14 = 0 ∧ (k15 - rplace) ≤ 7) ∨ w17 = Int64.ofNat (p8 bt rplace (k15 - rplace))) (jLe : k14 ≠ 0 ∨ LET bt rplace (k15 - rplace)) (hm23 : 940 - k15 < n21 + 1) (c24 : k15 < rlength) (e35 : y34 = rtapeF k15) (t36 : bt k15 < 256) (t37 : y34.toInt = ((bt k15 : Nat) : Int) ∨ (128 ≤ bt k15 ∧ y34.toInt = ((bt k15 : Nat) : Int) - 256)) (t42 : ¬ (97 ≤ y34.toInt ∧ y34.toInt ≤ 122)) (e77 : y76 = rtapeF k15) (t78 : bt k15 < 256) (t79 : y76.toInt = ((bt k15 : Nat) : Int) ∨ (128 ≤ bt k15 ∧ y76.toInt = ((bt k15 : Nat) : Int) - 256)) (t84 : ¬ (48 ≤ y76.toInt ∧ y76.toInt ≤ 57)) (f120 : y118.toInt = ((k15 : Nat) : Int) - ((rbegin : Nat) : Int)) (c121 : nI k14 ≠ 0) (c122 : nI k14 ≠ y118) : rplace < k15 := by
  have hE : k15 = rn bt rlength rplace := by
    rw [jRn]
    refine (rn_stop (fun h9 => ?_)).symm
    obtain ⟨h8, h9⟩ := h9
    unfold cAl cLe cDi at h9
    have h7 := hTC k15 (by omega)
    have b_x16 := ia_b x16
    have b_y34 := ia_b y34
    have b_y76 := ia_b y76
    have b_y118 := ia_b y118
    have b_w17 := Int64.toInt_lt w17
    try have k_0 := ia_n (nvn bt rplace (k15 - rplace)) (by first | decide | omega)
    try have k_1 := ia_n k14 (by first | decide | omega)
    try simp only [ia_lt, ia_le, ia_eq, ia_m1, ia_0, ia_1, ne_eq, true_and, and_true, false_and, and_false, or_false, false_or, or_true, true_or, not_true_eq_false, not_false_eq_true] at *
    all_goals omega
  have h7 := rn_gt hpl hal
  omega
set_option maxRecDepth 20000 in
theorem lf_f_readRun_60 (bt : Nat → Nat) (rlength : Nat) (rplace : Nat) (rbegin : Nat) (rtapeF : Nat → Int32) (k14 : Nat) (k15 : Nat) (x16 : Int32) (w17 : Int64) (n21 : Nat) (y34 : Int32) (y76 : Int32) (y118 : Int32) (iv_rreader_0 : rlength ≤ 940) (iv_rreader_1 : rplace ≤ rlength) (iv_rreader_3 : rbegin ≤ 940) (hTC : TC bt rtapeF) (hbp : rbegin = rplace) (hpl : rplace < rlength) (hal : cAl (bt rplace)) (j18 : k15 ≤ 940) (j19 : k15 ≤ rlength) (jPl : rplace ≤ k15) (jRn : rn bt rlength rplace = rn bt rlength k15) (jDc : k14 = dcn bt rplace (k15 - rplace)) (jNm : ¬ (k14 = (k15 - rplace) ∧ k14 ≤ 3) ∨ x16 = nI (nvn bt rplace (k15 - rplace))) (jLt : ¬ (k14 = 0 ∧ (k15 - rplace) ≤ 7) ∨ w17 = Int64.ofNat (p8 bt rplace (k15 - rplace))) (jLe : k14 ≠ 0 ∨ LET bt rplace (k15 - rplace)) (hm23 : 940 - k15 < n21 + 1) (c24 : k15 < rlength) (e35 : y34 = rtapeF k15) (t36 : bt k15 < 256) (t37 : y34.toInt = ((bt k15 : Nat) : Int) ∨ (128 ≤ bt k15 ∧ y34.toInt = ((bt k15 : Nat) : Int) - 256)) (t42 : ¬ (97 ≤ y34.toInt ∧ y34.toInt ≤ 122)) (e77 : y76 = rtapeF k15) (t78 : bt k15 < 256) (t79 : y76.toInt = ((bt k15 : Nat) : Int) ∨ (128 ≤ bt k15 ∧ y76.toInt = ((bt k15 : Nat) : Int) - 256)) (t84 : ¬ (48 ≤ y76.toInt ∧ y76.toInt ≤ 57)) (f120 : y118.toInt = ((k15 : Nat) : Int) - ((rbegin : Nat) : Int)) (c121 : nI k14 ≠ 0) (c122 : nI k14 ≠ y118) : ((nI 1) = nI 2 ∧ dcn bt rplace (k15 - rplace) = 0 ∧ (k15 - rplace) ≤ 7 ∧ w17 = Int64.ofNat (p8 bt rplace (k15 - rplace)) ∧ LET bt rplace (k15 - rplace)) ∨ ((nI 1) = nI 3 ∧ dcn bt rplace (k15 - rplace) = (k15 - rplace) ∧ (k15 - rplace) ≤ 3 ∧ x16 = nI (nvn bt rplace (k15 - rplace))) ∨ ((nI 1) = nI 1 ∧ ¬ (dcn bt rplace (k15 - rplace) = 0 ∧ (k15 - rplace) ≤ 7) ∧ ¬ (dcn bt rplace (k15 - rplace) = (k15 - rplace) ∧ (k15 - rplace) ≤ 3)) := by
  have q1 : ¬ (k14 = 0 ∧ k15 - rplace ≤ 7) ∧ ¬ (k14 = k15 - rplace ∧ k15 - rplace ≤ 3) := by
    have h5 := dcn_le bt rplace (k15 - rplace)
    have b_x16 := ia_b x16
    have b_y34 := ia_b y34
    have b_y76 := ia_b y76
    have b_y118 := ia_b y118
    have b_w17 := Int64.toInt_lt w17
    try have k_0 := ia_n (nvn bt rplace (k15 - rplace)) (by first | decide | omega)
    try have k_1 := ia_n k14 (by first | decide | omega)
    try have k_2 := ia_n 1 (by first | decide | omega)
    try have k_3 := ia_n 2 (by first | decide | omega)
    try have k_4 := ia_n 3 (by first | decide | omega)
    try simp only [ia_lt, ia_le, ia_eq, ia_m1, ia_0, ia_1, ne_eq, true_and, and_true, false_and, and_false, or_false, false_or, or_true, true_or, not_true_eq_false, not_false_eq_true] at *
    all_goals omega
  rw [← jDc]
  exact Or.inr (Or.inr ⟨rfl, q1⟩)
set_option maxRecDepth 20000 in
theorem lf_f_readRun_61 (bt : Nat → Nat) (rlength : Nat) (rplace : Nat) (rbegin : Nat) (rtapeF : Nat → Int32) (k14 : Nat) (k15 : Nat) (x16 : Int32) (w17 : Int64) (n21 : Nat) (y34 : Int32) (y76 : Int32) (y118 : Int32) (iv_rreader_0 : rlength ≤ 940) (iv_rreader_1 : rplace ≤ rlength) (iv_rreader_3 : rbegin ≤ 940) (hTC : TC bt rtapeF) (hbp : rbegin = rplace) (hpl : rplace < rlength) (hal : cAl (bt rplace)) (j18 : k15 ≤ 940) (j19 : k15 ≤ rlength) (jPl : rplace ≤ k15) (jRn : rn bt rlength rplace = rn bt rlength k15) (jDc : k14 = dcn bt rplace (k15 - rplace)) (jNm : ¬ (k14 = (k15 - rplace) ∧ k14 ≤ 3) ∨ x16 = nI (nvn bt rplace (k15 - rplace))) (jLt : ¬ (k14 = 0 ∧ (k15 - rplace) ≤ 7) ∨ w17 = Int64.ofNat (p8 bt rplace (k15 - rplace))) (jLe : k14 ≠ 0 ∨ LET bt rplace (k15 - rplace)) (hm23 : 940 - k15 < n21 + 1) (c24 : k15 < rlength) (e35 : y34 = rtapeF k15) (t36 : bt k15 < 256) (t37 : y34.toInt = ((bt k15 : Nat) : Int) ∨ (128 ≤ bt k15 ∧ y34.toInt = ((bt k15 : Nat) : Int) - 256)) (t42 : ¬ (97 ≤ y34.toInt ∧ y34.toInt ≤ 122)) (e77 : y76 = rtapeF k15) (t78 : bt k15 < 256) (t79 : y76.toInt = ((bt k15 : Nat) : Int) ∨ (128 ≤ bt k15 ∧ y76.toInt = ((bt k15 : Nat) : Int) - 256)) (t84 : ¬ (48 ≤ y76.toInt ∧ y76.toInt ≤ 57)) (f120 : y118.toInt = ((k15 : Nat) : Int) - ((rbegin : Nat) : Int)) (c121 : nI k14 ≠ 0) (c122 : nI k14 = y118) (c123 : nI 3 < y118) : k15 = rn bt rlength rplace := by
  have hE : k15 = rn bt rlength rplace := by
    rw [jRn]
    refine (rn_stop (fun h9 => ?_)).symm
    obtain ⟨h8, h9⟩ := h9
    unfold cAl cLe cDi at h9
    have h7 := hTC k15 (by omega)
    have b_x16 := ia_b x16
    have b_y34 := ia_b y34
    have b_y76 := ia_b y76
    have b_y118 := ia_b y118
    have b_w17 := Int64.toInt_lt w17
    try have k_0 := ia_n (nvn bt rplace (k15 - rplace)) (by first | decide | omega)
    try have k_1 := ia_n k14 (by first | decide | omega)
    try have k_2 := ia_n 3 (by first | decide | omega)
    try simp only [ia_lt, ia_le, ia_eq, ia_m1, ia_0, ia_1, ne_eq, true_and, and_true, false_and, and_false, or_false, false_or, or_true, true_or, not_true_eq_false, not_false_eq_true] at *
    all_goals omega
  exact hE
set_option maxRecDepth 20000 in
theorem lf_f_readRun_62 (bt : Nat → Nat) (rlength : Nat) (rplace : Nat) (rbegin : Nat) (rtapeF : Nat → Int32) (k14 : Nat) (k15 : Nat) (x16 : Int32) (w17 : Int64) (n21 : Nat) (y34 : Int32) (y76 : Int32) (y118 : Int32) (iv_rreader_0 : rlength ≤ 940) (iv_rreader_1 : rplace ≤ rlength) (iv_rreader_3 : rbegin ≤ 940) (hTC : TC bt rtapeF) (hbp : rbegin = rplace) (hpl : rplace < rlength) (hal : cAl (bt rplace)) (j18 : k15 ≤ 940) (j19 : k15 ≤ rlength) (jPl : rplace ≤ k15) (jRn : rn bt rlength rplace = rn bt rlength k15) (jDc : k14 = dcn bt rplace (k15 - rplace)) (jNm : ¬ (k14 = (k15 - rplace) ∧ k14 ≤ 3) ∨ x16 = nI (nvn bt rplace (k15 - rplace))) (jLt : ¬ (k14 = 0 ∧ (k15 - rplace) ≤ 7) ∨ w17 = Int64.ofNat (p8 bt rplace (k15 - rplace))) (jLe : k14 ≠ 0 ∨ LET bt rplace (k15 - rplace)) (hm23 : 940 - k15 < n21 + 1) (c24 : k15 < rlength) (e35 : y34 = rtapeF k15) (t36 : bt k15 < 256) (t37 : y34.toInt = ((bt k15 : Nat) : Int) ∨ (128 ≤ bt k15 ∧ y34.toInt = ((bt k15 : Nat) : Int) - 256)) (t42 : ¬ (97 ≤ y34.toInt ∧ y34.toInt ≤ 122)) (e77 : y76 = rtapeF k15) (t78 : bt k15 < 256) (t79 : y76.toInt = ((bt k15 : Nat) : Int) ∨ (128 ≤ bt k15 ∧ y76.toInt = ((bt k15 : Nat) : Int) - 256)) (t84 : ¬ (48 ≤ y76.toInt ∧ y76.toInt ≤ 57)) (f120 : y118.toInt = ((k15 : Nat) : Int) - ((rbegin : Nat) : Int)) (c121 : nI k14 ≠ 0) (c122 : nI k14 = y118) (c123 : nI 3 < y118) : rplace < k15 := by
  have hE : k15 = rn bt rlength rplace := by
    rw [jRn]
    refine (rn_stop (fun h9 => ?_)).symm
    obtain ⟨h8, h9⟩ := h9
    unfold cAl cLe cDi at h9
    have h7 := hTC k15 (by omega)
    have b_x16 := ia_b x16
    have b_y34 := ia_b y34
    have b_y76 := ia_b y76
    have b_y118 := ia_b y118
    have b_w17 := Int64.toInt_lt w17
    try have k_0 := ia_n (nvn bt rplace (k15 - rplace)) (by first | decide | omega)
    try have k_1 := ia_n k14 (by first | decide | omega)
    try have k_2 := ia_n 3 (by first | decide | omega)
    try simp only [ia_lt, ia_le, ia_eq, ia_m1, ia_0, ia_1, ne_eq, true_and, and_true, false_and, and_false, or_false, false_or, or_true, true_or, not_true_eq_false, not_false_eq_true] at *
    all_goals omega
  have h7 := rn_gt hpl hal
  omega
set_option maxRecDepth 20000 in
theorem lf_f_readRun_63 (bt : Nat → Nat) (rlength : Nat) (rplace : Nat) (rbegin : Nat) (rtapeF : Nat → Int32) (k14 : Nat) (k15 : Nat) (x16 : Int32) (w17 : Int64) (n21 : Nat) (y34 : Int32) (y76 : Int32) (y118 : Int32) (iv_rreader_0 : rlength ≤ 940) (iv_rreader_1 : rplace ≤ rlength) (iv_rreader_3 : rbegin ≤ 940) (hTC : TC bt rtapeF) (hbp : rbegin = rplace) (hpl : rplace < rlength) (hal : cAl (bt rplace)) (j18 : k15 ≤ 940) (j19 : k15 ≤ rlength) (jPl : rplace ≤ k15) (jRn : rn bt rlength rplace = rn bt rlength k15) (jDc : k14 = dcn bt rplace (k15 - rplace)) (jNm : ¬ (k14 = (k15 - rplace) ∧ k14 ≤ 3) ∨ x16 = nI (nvn bt rplace (k15 - rplace))) (jLt : ¬ (k14 = 0 ∧ (k15 - rplace) ≤ 7) ∨ w17 = Int64.ofNat (p8 bt rplace (k15 - rplace))) (jLe : k14 ≠ 0 ∨ LET bt rplace (k15 - rplace)) (hm23 : 940 - k15 < n21 + 1) (c24 : k15 < rlength) (e35 : y34 = rtapeF k15) (t36 : bt k15 < 256) (t37 : y34.toInt = ((bt k15 : Nat) : Int) ∨ (128 ≤ bt k15 ∧ y34.toInt = ((bt k15 : Nat) : Int) - 256)) (t42 : ¬ (97 ≤ y34.toInt ∧ y34.toInt ≤ 122)) (e77 : y76 = rtapeF k15) (t78 : bt k15 < 256) (t79 : y76.toInt = ((bt k15 : Nat) : Int) ∨ (128 ≤ bt k15 ∧ y76.toInt = ((bt k15 : Nat) : Int) - 256)) (t84 : ¬ (48 ≤ y76.toInt ∧ y76.toInt ≤ 57)) (f120 : y118.toInt = ((k15 : Nat) : Int) - ((rbegin : Nat) : Int)) (c121 : nI k14 ≠ 0) (c122 : nI k14 = y118) (c123 : nI 3 < y118) : ((nI 1) = nI 2 ∧ dcn bt rplace (k15 - rplace) = 0 ∧ (k15 - rplace) ≤ 7 ∧ w17 = Int64.ofNat (p8 bt rplace (k15 - rplace)) ∧ LET bt rplace (k15 - rplace)) ∨ ((nI 1) = nI 3 ∧ dcn bt rplace (k15 - rplace) = (k15 - rplace) ∧ (k15 - rplace) ≤ 3 ∧ x16 = nI (nvn bt rplace (k15 - rplace))) ∨ ((nI 1) = nI 1 ∧ ¬ (dcn bt rplace (k15 - rplace) = 0 ∧ (k15 - rplace) ≤ 7) ∧ ¬ (dcn bt rplace (k15 - rplace) = (k15 - rplace) ∧ (k15 - rplace) ≤ 3)) := by
  have q1 : ¬ (k14 = 0 ∧ k15 - rplace ≤ 7) ∧ ¬ (k14 = k15 - rplace ∧ k15 - rplace ≤ 3) := by
    have h5 := dcn_le bt rplace (k15 - rplace)
    have b_x16 := ia_b x16
    have b_y34 := ia_b y34
    have b_y76 := ia_b y76
    have b_y118 := ia_b y118
    have b_w17 := Int64.toInt_lt w17
    try have k_0 := ia_n (nvn bt rplace (k15 - rplace)) (by first | decide | omega)
    try have k_1 := ia_n k14 (by first | decide | omega)
    try have k_2 := ia_n 3 (by first | decide | omega)
    try have k_3 := ia_n 1 (by first | decide | omega)
    try have k_4 := ia_n 2 (by first | decide | omega)
    try simp only [ia_lt, ia_le, ia_eq, ia_m1, ia_0, ia_1, ne_eq, true_and, and_true, false_and, and_false, or_false, false_or, or_true, true_or, not_true_eq_false, not_false_eq_true] at *
    all_goals omega
  rw [← jDc]
  exact Or.inr (Or.inr ⟨rfl, q1⟩)
set_option maxRecDepth 20000 in
theorem lf_f_readRun_64 (bt : Nat → Nat) (rlength : Nat) (rplace : Nat) (rbegin : Nat) (rtapeF : Nat → Int32) (k14 : Nat) (k15 : Nat) (x16 : Int32) (w17 : Int64) (n21 : Nat) (y34 : Int32) (y76 : Int32) (y118 : Int32) (iv_rreader_0 : rlength ≤ 940) (iv_rreader_1 : rplace ≤ rlength) (iv_rreader_3 : rbegin ≤ 940) (hTC : TC bt rtapeF) (hbp : rbegin = rplace) (hpl : rplace < rlength) (hal : cAl (bt rplace)) (j18 : k15 ≤ 940) (j19 : k15 ≤ rlength) (jPl : rplace ≤ k15) (jRn : rn bt rlength rplace = rn bt rlength k15) (jDc : k14 = dcn bt rplace (k15 - rplace)) (jNm : ¬ (k14 = (k15 - rplace) ∧ k14 ≤ 3) ∨ x16 = nI (nvn bt rplace (k15 - rplace))) (jLt : ¬ (k14 = 0 ∧ (k15 - rplace) ≤ 7) ∨ w17 = Int64.ofNat (p8 bt rplace (k15 - rplace))) (jLe : k14 ≠ 0 ∨ LET bt rplace (k15 - rplace)) (hm23 : 940 - k15 < n21 + 1) (c24 : k15 < rlength) (e35 : y34 = rtapeF k15) (t36 : bt k15 < 256) (t37 : y34.toInt = ((bt k15 : Nat) : Int) ∨ (128 ≤ bt k15 ∧ y34.toInt = ((bt k15 : Nat) : Int) - 256)) (t42 : ¬ (97 ≤ y34.toInt ∧ y34.toInt ≤ 122)) (e77 : y76 = rtapeF k15) (t78 : bt k15 < 256) (t79 : y76.toInt = ((bt k15 : Nat) : Int) ∨ (128 ≤ bt k15 ∧ y76.toInt = ((bt k15 : Nat) : Int) - 256)) (t84 : ¬ (48 ≤ y76.toInt ∧ y76.toInt ≤ 57)) (f120 : y118.toInt = ((k15 : Nat) : Int) - ((rbegin : Nat) : Int)) (c121 : nI k14 ≠ 0) (c122 : nI k14 = y118) (c123 : ¬ nI 3 < y118) : k15 = rn bt rlength rplace := by
  have hE : k15 = rn bt rlength rplace := by
    rw [jRn]
    refine (rn_stop (fun h9 => ?_)).symm
    obtain ⟨h8, h9⟩ := h9
    unfold cAl cLe cDi at h9
    have h7 := hTC k15 (by omega)
    have b_x16 := ia_b x16
    have b_y34 := ia_b y34
    have b_y76 := ia_b y76
    have b_y118 := ia_b y118
    have b_w17 := Int64.toInt_lt w17
    try have k_0 := ia_n (nvn bt rplace (k15 - rplace)) (by first | decide | omega)
    try have k_1 := ia_n k14 (by first | decide | omega)
    try have k_2 := ia_n 3 (by first | decide | omega)
    try simp only [ia_lt, ia_le, ia_eq, ia_m1, ia_0, ia_1, ne_eq, true_and, and_true, false_and, and_false, or_false, false_or, or_true, true_or, not_true_eq_false, not_false_eq_true] at *
    all_goals omega
  exact hE
set_option maxRecDepth 20000 in
theorem lf_f_readRun_65 (bt : Nat → Nat) (rlength : Nat) (rplace : Nat) (rbegin : Nat) (rtapeF : Nat → Int32) (k14 : Nat) (k15 : Nat) (x16 : Int32) (w17 : Int64) (n21 : Nat) (y34 : Int32) (y76 : Int32) (y118 : Int32) (iv_rreader_0 : rlength ≤ 940) (iv_rreader_1 : rplace ≤ rlength) (iv_rreader_3 : rbegin ≤ 940) (hTC : TC bt rtapeF) (hbp : rbegin = rplace) (hpl : rplace < rlength) (hal : cAl (bt rplace)) (j18 : k15 ≤ 940) (j19 : k15 ≤ rlength) (jPl : rplace ≤ k15) (jRn : rn bt rlength rplace = rn bt rlength k15) (jDc : k14 = dcn bt rplace (k15 - rplace)) (jNm : ¬ (k14 = (k15 - rplace) ∧ k14 ≤ 3) ∨ x16 = nI (nvn bt rplace (k15 - rplace))) (jLt : ¬ (k14 = 0 ∧ (k15 - rplace) ≤ 7) ∨ w17 = Int64.ofNat (p8 bt rplace (k15 - rplace))) (jLe : k14 ≠ 0 ∨ LET bt rplace (k15 - rplace)) (hm23 : 940 - k15 < n21 + 1) (c24 : k15 < rlength) (e35 : y34 = rtapeF k15) (t36 : bt k15 < 256) (t37 : y34.toInt = ((bt k15 : Nat) : Int) ∨ (128 ≤ bt k15 ∧ y34.toInt = ((bt k15 : Nat) : Int) - 256)) (t42 : ¬ (97 ≤ y34.toInt ∧ y34.toInt ≤ 122)) (e77 : y76 = rtapeF k15) (t78 : bt k15 < 256) (t79 : y76.toInt = ((bt k15 : Nat) : Int) ∨ (128 ≤ bt k15 ∧ y76.toInt = ((bt k15 : Nat) : Int) - 256)) (t84 : ¬ (48 ≤ y76.toInt ∧ y76.toInt ≤ 57)) (f120 : y118.toInt = ((k15 : Nat) : Int) - ((rbegin : Nat) : Int)) (c121 : nI k14 ≠ 0) (c122 : nI k14 = y118) (c123 : ¬ nI 3 < y118) : rplace < k15 := by
  have hE : k15 = rn bt rlength rplace := by
    rw [jRn]
    refine (rn_stop (fun h9 => ?_)).symm
    obtain ⟨h8, h9⟩ := h9
    unfold cAl cLe cDi at h9
    have h7 := hTC k15 (by omega)
    have b_x16 := ia_b x16
    have b_y34 := ia_b y34
    have b_y76 := ia_b y76
    have b_y118 := ia_b y118
    have b_w17 := Int64.toInt_lt w17
    try have k_0 := ia_n (nvn bt rplace (k15 - rplace)) (by first | decide | omega)
    try have k_1 := ia_n k14 (by first | decide | omega)
    try have k_2 := ia_n 3 (by first | decide | omega)
    try simp only [ia_lt, ia_le, ia_eq, ia_m1, ia_0, ia_1, ne_eq, true_and, and_true, false_and, and_false, or_false, false_or, or_true, true_or, not_true_eq_false, not_false_eq_true] at *
    all_goals omega
  have h7 := rn_gt hpl hal
  omega
set_option maxRecDepth 20000 in
theorem lf_f_readRun_66 (bt : Nat → Nat) (rlength : Nat) (rplace : Nat) (rbegin : Nat) (rtapeF : Nat → Int32) (k14 : Nat) (k15 : Nat) (x16 : Int32) (w17 : Int64) (n21 : Nat) (y34 : Int32) (y76 : Int32) (y118 : Int32) (iv_rreader_0 : rlength ≤ 940) (iv_rreader_1 : rplace ≤ rlength) (iv_rreader_3 : rbegin ≤ 940) (hTC : TC bt rtapeF) (hbp : rbegin = rplace) (hpl : rplace < rlength) (hal : cAl (bt rplace)) (j18 : k15 ≤ 940) (j19 : k15 ≤ rlength) (jPl : rplace ≤ k15) (jRn : rn bt rlength rplace = rn bt rlength k15) (jDc : k14 = dcn bt rplace (k15 - rplace)) (jNm : ¬ (k14 = (k15 - rplace) ∧ k14 ≤ 3) ∨ x16 = nI (nvn bt rplace (k15 - rplace))) (jLt : ¬ (k14 = 0 ∧ (k15 - rplace) ≤ 7) ∨ w17 = Int64.ofNat (p8 bt rplace (k15 - rplace))) (jLe : k14 ≠ 0 ∨ LET bt rplace (k15 - rplace)) (hm23 : 940 - k15 < n21 + 1) (c24 : k15 < rlength) (e35 : y34 = rtapeF k15) (t36 : bt k15 < 256) (t37 : y34.toInt = ((bt k15 : Nat) : Int) ∨ (128 ≤ bt k15 ∧ y34.toInt = ((bt k15 : Nat) : Int) - 256)) (t42 : ¬ (97 ≤ y34.toInt ∧ y34.toInt ≤ 122)) (e77 : y76 = rtapeF k15) (t78 : bt k15 < 256) (t79 : y76.toInt = ((bt k15 : Nat) : Int) ∨ (128 ≤ bt k15 ∧ y76.toInt = ((bt k15 : Nat) : Int) - 256)) (t84 : ¬ (48 ≤ y76.toInt ∧ y76.toInt ≤ 57)) (f120 : y118.toInt = ((k15 : Nat) : Int) - ((rbegin : Nat) : Int)) (c121 : nI k14 ≠ 0) (c122 : nI k14 = y118) (c123 : ¬ nI 3 < y118) : ((nI 3) = nI 2 ∧ dcn bt rplace (k15 - rplace) = 0 ∧ (k15 - rplace) ≤ 7 ∧ w17 = Int64.ofNat (p8 bt rplace (k15 - rplace)) ∧ LET bt rplace (k15 - rplace)) ∨ ((nI 3) = nI 3 ∧ dcn bt rplace (k15 - rplace) = (k15 - rplace) ∧ (k15 - rplace) ≤ 3 ∧ x16 = nI (nvn bt rplace (k15 - rplace))) ∨ ((nI 3) = nI 1 ∧ ¬ (dcn bt rplace (k15 - rplace) = 0 ∧ (k15 - rplace) ≤ 7) ∧ ¬ (dcn bt rplace (k15 - rplace) = (k15 - rplace) ∧ (k15 - rplace) ≤ 3)) := by
  have q1 : k14 = k15 - rplace ∧ k14 ≤ 3 := by
    have h5 := dcn_le bt rplace (k15 - rplace)
    have b_x16 := ia_b x16
    have b_y34 := ia_b y34
    have b_y76 := ia_b y76
    have b_y118 := ia_b y118
    have b_w17 := Int64.toInt_lt w17
    try have k_0 := ia_n (nvn bt rplace (k15 - rplace)) (by first | decide | omega)
    try have k_1 := ia_n k14 (by first | decide | omega)
    try have k_2 := ia_n 3 (by first | decide | omega)
    try have k_3 := ia_n 2 (by first | decide | omega)
    try have k_4 := ia_n 1 (by first | decide | omega)
    try simp only [ia_lt, ia_le, ia_eq, ia_m1, ia_0, ia_1, ne_eq, true_and, and_true, false_and, and_false, or_false, false_or, or_true, true_or, not_true_eq_false, not_false_eq_true] at *
    all_goals omega
  refine Or.inr (Or.inl ⟨rfl, by omega, by omega, jNm.resolve_left (fun h => h q1)⟩)
set_option maxRecDepth 20000 in
theorem lf_f_readRun_67 (bt : Nat → Nat) (rlength : Nat) (rplace : Nat) (rbegin : Nat) (rtapeF : Nat → Int32) (k14 : Nat) (k15 : Nat) (x16 : Int32) (w17 : Int64) (n21 : Nat) (y34 : Int32) (y76 : Int32) (y118 : Int32) (iv_rreader_0 : rlength ≤ 940) (iv_rreader_1 : rplace ≤ rlength) (iv_rreader_3 : rbegin ≤ 940) (hTC : TC bt rtapeF) (hbp : rbegin = rplace) (hpl : rplace < rlength) (hal : cAl (bt rplace)) (j18 : k15 ≤ 940) (j19 : k15 ≤ rlength) (jPl : rplace ≤ k15) (jRn : rn bt rlength rplace = rn bt rlength k15) (jDc : k14 = dcn bt rplace (k15 - rplace)) (jNm : ¬ (k14 = (k15 - rplace) ∧ k14 ≤ 3) ∨ x16 = nI (nvn bt rplace (k15 - rplace))) (jLt : ¬ (k14 = 0 ∧ (k15 - rplace) ≤ 7) ∨ w17 = Int64.ofNat (p8 bt rplace (k15 - rplace))) (jLe : k14 ≠ 0 ∨ LET bt rplace (k15 - rplace)) (hm23 : 940 - k15 < n21 + 1) (c24 : k15 < rlength) (e35 : y34 = rtapeF k15) (t36 : bt k15 < 256) (t37 : y34.toInt = ((bt k15 : Nat) : Int) ∨ (128 ≤ bt k15 ∧ y34.toInt = ((bt k15 : Nat) : Int) - 256)) (t42 : ¬ (97 ≤ y34.toInt ∧ y34.toInt ≤ 122)) (e77 : y76 = rtapeF k15) (t78 : bt k15 < 256) (t79 : y76.toInt = ((bt k15 : Nat) : Int) ∨ (128 ≤ bt k15 ∧ y76.toInt = ((bt k15 : Nat) : Int) - 256)) (t84 : ¬ (48 ≤ y76.toInt ∧ y76.toInt ≤ 57)) (f120 : y118.toInt = ((k15 : Nat) : Int) - ((rbegin : Nat) : Int)) (c121 : nI k14 = 0) (c124 : nI 7 < y118) (c125 : nI k14 ≠ y118) : k15 = rn bt rlength rplace := by
  have hE : k15 = rn bt rlength rplace := by
    rw [jRn]
    refine (rn_stop (fun h9 => ?_)).symm
    obtain ⟨h8, h9⟩ := h9
    unfold cAl cLe cDi at h9
    have h7 := hTC k15 (by omega)
    have b_x16 := ia_b x16
    have b_y34 := ia_b y34
    have b_y76 := ia_b y76
    have b_y118 := ia_b y118
    have b_w17 := Int64.toInt_lt w17
    try have k_0 := ia_n (nvn bt rplace (k15 - rplace)) (by first | decide | omega)
    try have k_1 := ia_n k14 (by first | decide | omega)
    try have k_2 := ia_n 7 (by first | decide | omega)
    try simp only [ia_lt, ia_le, ia_eq, ia_m1, ia_0, ia_1, ne_eq, true_and, and_true, false_and, and_false, or_false, false_or, or_true, true_or, not_true_eq_false, not_false_eq_true] at *
    all_goals omega
  exact hE
set_option maxRecDepth 20000 in
theorem lf_f_readRun_68 (bt : Nat → Nat) (rlength : Nat) (rplace : Nat) (rbegin : Nat) (rtapeF : Nat → Int32) (k14 : Nat) (k15 : Nat) (x16 : Int32) (w17 : Int64) (n21 : Nat) (y34 : Int32) (y76 : Int32) (y118 : Int32) (iv_rreader_0 : rlength ≤ 940) (iv_rreader_1 : rplace ≤ rlength) (iv_rreader_3 : rbegin ≤ 940) (hTC : TC bt rtapeF) (hbp : rbegin = rplace) (hpl : rplace < rlength) (hal : cAl (bt rplace)) (j18 : k15 ≤ 940) (j19 : k15 ≤ rlength) (jPl : rplace ≤ k15) (jRn : rn bt rlength rplace = rn bt rlength k15) (jDc : k14 = dcn bt rplace (k15 - rplace)) (jNm : ¬ (k14 = (k15 - rplace) ∧ k14 ≤ 3) ∨ x16 = nI (nvn bt rplace (k15 - rplace))) (jLt : ¬ (k14 = 0 ∧ (k15 - rplace) ≤ 7) ∨ w17 = Int64.ofNat (p8 bt rplace (k15 - rplace))) (jLe : k14 ≠ 0 ∨ LET bt rplace (k15 - rplace)) (hm23 : 940 - k15 < n21 + 1) (c24 : k15 < rlength) (e35 : y34 = rtapeF k15) (t36 : bt k15 < 256) (t37 : y34.toInt = ((bt k15 : Nat) : Int) ∨ (128 ≤ bt k15 ∧ y34.toInt = ((bt k15 : Nat) : Int) - 256)) (t42 : ¬ (97 ≤ y34.toInt ∧ y34.toInt ≤ 122)) (e77 : y76 = rtapeF k15) (t78 : bt k15 < 256) (t79 : y76.toInt = ((bt k15 : Nat) : Int) ∨ (128 ≤ bt k15 ∧ y76.toInt = ((bt k15 : Nat) : Int) - 256)) (t84 : ¬ (48 ≤ y76.toInt ∧ y76.toInt ≤ 57)) (f120 : y118.toInt = ((k15 : Nat) : Int) - ((rbegin : Nat) : Int)) (c121 : nI k14 = 0) (c124 : nI 7 < y118) (c125 : nI k14 ≠ y118) : rplace < k15 := by
  have hE : k15 = rn bt rlength rplace := by
    rw [jRn]
    refine (rn_stop (fun h9 => ?_)).symm
    obtain ⟨h8, h9⟩ := h9
    unfold cAl cLe cDi at h9
    have h7 := hTC k15 (by omega)
    have b_x16 := ia_b x16
    have b_y34 := ia_b y34
    have b_y76 := ia_b y76
    have b_y118 := ia_b y118
    have b_w17 := Int64.toInt_lt w17
    try have k_0 := ia_n (nvn bt rplace (k15 - rplace)) (by first | decide | omega)
    try have k_1 := ia_n k14 (by first | decide | omega)
    try have k_2 := ia_n 7 (by first | decide | omega)
    try simp only [ia_lt, ia_le, ia_eq, ia_m1, ia_0, ia_1, ne_eq, true_and, and_true, false_and, and_false, or_false, false_or, or_true, true_or, not_true_eq_false, not_false_eq_true] at *
    all_goals omega
  have h7 := rn_gt hpl hal
  omega
set_option maxRecDepth 20000 in
theorem lf_f_readRun_69 (bt : Nat → Nat) (rlength : Nat) (rplace : Nat) (rbegin : Nat) (rtapeF : Nat → Int32) (k14 : Nat) (k15 : Nat) (x16 : Int32) (w17 : Int64) (n21 : Nat) (y34 : Int32) (y76 : Int32) (y118 : Int32) (iv_rreader_0 : rlength ≤ 940) (iv_rreader_1 : rplace ≤ rlength) (iv_rreader_3 : rbegin ≤ 940) (hTC : TC bt rtapeF) (hbp : rbegin = rplace) (hpl : rplace < rlength) (hal : cAl (bt rplace)) (j18 : k15 ≤ 940) (j19 : k15 ≤ rlength) (jPl : rplace ≤ k15) (jRn : rn bt rlength rplace = rn bt rlength k15) (jDc : k14 = dcn bt rplace (k15 - rplace)) (jNm : ¬ (k14 = (k15 - rplace) ∧ k14 ≤ 3) ∨ x16 = nI (nvn bt rplace (k15 - rplace))) (jLt : ¬ (k14 = 0 ∧ (k15 - rplace) ≤ 7) ∨ w17 = Int64.ofNat (p8 bt rplace (k15 - rplace))) (jLe : k14 ≠ 0 ∨ LET bt rplace (k15 - rplace)) (hm23 : 940 - k15 < n21 + 1) (c24 : k15 < rlength) (e35 : y34 = rtapeF k15) (t36 : bt k15 < 256) (t37 : y34.toInt = ((bt k15 : Nat) : Int) ∨ (128 ≤ bt k15 ∧ y34.toInt = ((bt k15 : Nat) : Int) - 256)) (t42 : ¬ (97 ≤ y34.toInt ∧ y34.toInt ≤ 122)) (e77 : y76 = rtapeF k15) (t78 : bt k15 < 256) (t79 : y76.toInt = ((bt k15 : Nat) : Int) ∨ (128 ≤ bt k15 ∧ y76.toInt = ((bt k15 : Nat) : Int) - 256)) (t84 : ¬ (48 ≤ y76.toInt ∧ y76.toInt ≤ 57)) (f120 : y118.toInt = ((k15 : Nat) : Int) - ((rbegin : Nat) : Int)) (c121 : nI k14 = 0) (c124 : nI 7 < y118) (c125 : nI k14 ≠ y118) : ((nI 1) = nI 2 ∧ dcn bt rplace (k15 - rplace) = 0 ∧ (k15 - rplace) ≤ 7 ∧ w17 = Int64.ofNat (p8 bt rplace (k15 - rplace)) ∧ LET bt rplace (k15 - rplace)) ∨ ((nI 1) = nI 3 ∧ dcn bt rplace (k15 - rplace) = (k15 - rplace) ∧ (k15 - rplace) ≤ 3 ∧ x16 = nI (nvn bt rplace (k15 - rplace))) ∨ ((nI 1) = nI 1 ∧ ¬ (dcn bt rplace (k15 - rplace) = 0 ∧ (k15 - rplace) ≤ 7) ∧ ¬ (dcn bt rplace (k15 - rplace) = (k15 - rplace) ∧ (k15 - rplace) ≤ 3)) := by
  have q1 : ¬ (k14 = 0 ∧ k15 - rplace ≤ 7) ∧ ¬ (k14 = k15 - rplace ∧ k15 - rplace ≤ 3) := by
    have h5 := dcn_le bt rplace (k15 - rplace)
    have b_x16 := ia_b x16
    have b_y34 := ia_b y34
    have b_y76 := ia_b y76
    have b_y118 := ia_b y118
    have b_w17 := Int64.toInt_lt w17
    try have k_0 := ia_n (nvn bt rplace (k15 - rplace)) (by first | decide | omega)
    try have k_1 := ia_n k14 (by first | decide | omega)
    try have k_2 := ia_n 7 (by first | decide | omega)
    try have k_3 := ia_n 1 (by first | decide | omega)
    try have k_4 := ia_n 2 (by first | decide | omega)
    try have k_5 := ia_n 3 (by first | decide | omega)
    try simp only [ia_lt, ia_le, ia_eq, ia_m1, ia_0, ia_1, ne_eq, true_and, and_true, false_and, and_false, or_false, false_or, or_true, true_or, not_true_eq_false, not_false_eq_true] at *
    all_goals omega
  rw [← jDc]
  exact Or.inr (Or.inr ⟨rfl, q1⟩)
set_option maxRecDepth 20000 in
theorem lf_f_readRun_70 (bt : Nat → Nat) (rlength : Nat) (rplace : Nat) (rbegin : Nat) (rtapeF : Nat → Int32) (k14 : Nat) (k15 : Nat) (x16 : Int32) (w17 : Int64) (n21 : Nat) (y34 : Int32) (y76 : Int32) (y118 : Int32) (iv_rreader_0 : rlength ≤ 940) (iv_rreader_1 : rplace ≤ rlength) (iv_rreader_3 : rbegin ≤ 940) (hTC : TC bt rtapeF) (hbp : rbegin = rplace) (hpl : rplace < rlength) (hal : cAl (bt rplace)) (j18 : k15 ≤ 940) (j19 : k15 ≤ rlength) (jPl : rplace ≤ k15) (jRn : rn bt rlength rplace = rn bt rlength k15) (jDc : k14 = dcn bt rplace (k15 - rplace)) (jNm : ¬ (k14 = (k15 - rplace) ∧ k14 ≤ 3) ∨ x16 = nI (nvn bt rplace (k15 - rplace))) (jLt : ¬ (k14 = 0 ∧ (k15 - rplace) ≤ 7) ∨ w17 = Int64.ofNat (p8 bt rplace (k15 - rplace))) (jLe : k14 ≠ 0 ∨ LET bt rplace (k15 - rplace)) (hm23 : 940 - k15 < n21 + 1) (c24 : k15 < rlength) (e35 : y34 = rtapeF k15) (t36 : bt k15 < 256) (t37 : y34.toInt = ((bt k15 : Nat) : Int) ∨ (128 ≤ bt k15 ∧ y34.toInt = ((bt k15 : Nat) : Int) - 256)) (t42 : ¬ (97 ≤ y34.toInt ∧ y34.toInt ≤ 122)) (e77 : y76 = rtapeF k15) (t78 : bt k15 < 256) (t79 : y76.toInt = ((bt k15 : Nat) : Int) ∨ (128 ≤ bt k15 ∧ y76.toInt = ((bt k15 : Nat) : Int) - 256)) (t84 : ¬ (48 ≤ y76.toInt ∧ y76.toInt ≤ 57)) (f120 : y118.toInt = ((k15 : Nat) : Int) - ((rbegin : Nat) : Int)) (c121 : nI k14 = 0) (c124 : nI 7 < y118) (c125 : nI k14 = y118) (c126 : nI 3 < y118) : k15 = rn bt rlength rplace := by
  have hE : k15 = rn bt rlength rplace := by
    rw [jRn]
    refine (rn_stop (fun h9 => ?_)).symm
    obtain ⟨h8, h9⟩ := h9
    unfold cAl cLe cDi at h9
    have h7 := hTC k15 (by omega)
    have b_x16 := ia_b x16
    have b_y34 := ia_b y34
    have b_y76 := ia_b y76
    have b_y118 := ia_b y118
    have b_w17 := Int64.toInt_lt w17
    try have k_0 := ia_n (nvn bt rplace (k15 - rplace)) (by first | decide | omega)
    try have k_1 := ia_n k14 (by first | decide | omega)
    try have k_2 := ia_n 7 (by first | decide | omega)
    try have k_3 := ia_n 3 (by first | decide | omega)
    try simp only [ia_lt, ia_le, ia_eq, ia_m1, ia_0, ia_1, ne_eq, true_and, and_true, false_and, and_false, or_false, false_or, or_true, true_or, not_true_eq_false, not_false_eq_true] at *
    all_goals omega
  exact hE
set_option maxRecDepth 20000 in
theorem lf_f_readRun_71 (bt : Nat → Nat) (rlength : Nat) (rplace : Nat) (rbegin : Nat) (rtapeF : Nat → Int32) (k14 : Nat) (k15 : Nat) (x16 : Int32) (w17 : Int64) (n21 : Nat) (y34 : Int32) (y76 : Int32) (y118 : Int32) (iv_rreader_0 : rlength ≤ 940) (iv_rreader_1 : rplace ≤ rlength) (iv_rreader_3 : rbegin ≤ 940) (hTC : TC bt rtapeF) (hbp : rbegin = rplace) (hpl : rplace < rlength) (hal : cAl (bt rplace)) (j18 : k15 ≤ 940) (j19 : k15 ≤ rlength) (jPl : rplace ≤ k15) (jRn : rn bt rlength rplace = rn bt rlength k15) (jDc : k14 = dcn bt rplace (k15 - rplace)) (jNm : ¬ (k14 = (k15 - rplace) ∧ k14 ≤ 3) ∨ x16 = nI (nvn bt rplace (k15 - rplace))) (jLt : ¬ (k14 = 0 ∧ (k15 - rplace) ≤ 7) ∨ w17 = Int64.ofNat (p8 bt rplace (k15 - rplace))) (jLe : k14 ≠ 0 ∨ LET bt rplace (k15 - rplace)) (hm23 : 940 - k15 < n21 + 1) (c24 : k15 < rlength) (e35 : y34 = rtapeF k15) (t36 : bt k15 < 256) (t37 : y34.toInt = ((bt k15 : Nat) : Int) ∨ (128 ≤ bt k15 ∧ y34.toInt = ((bt k15 : Nat) : Int) - 256)) (t42 : ¬ (97 ≤ y34.toInt ∧ y34.toInt ≤ 122)) (e77 : y76 = rtapeF k15) (t78 : bt k15 < 256) (t79 : y76.toInt = ((bt k15 : Nat) : Int) ∨ (128 ≤ bt k15 ∧ y76.toInt = ((bt k15 : Nat) : Int) - 256)) (t84 : ¬ (48 ≤ y76.toInt ∧ y76.toInt ≤ 57)) (f120 : y118.toInt = ((k15 : Nat) : Int) - ((rbegin : Nat) : Int)) (c121 : nI k14 = 0) (c124 : nI 7 < y118) (c125 : nI k14 = y118) (c126 : nI 3 < y118) : rplace < k15 := by
  have hE : k15 = rn bt rlength rplace := by
    rw [jRn]
    refine (rn_stop (fun h9 => ?_)).symm
    obtain ⟨h8, h9⟩ := h9
    unfold cAl cLe cDi at h9
    have h7 := hTC k15 (by omega)
    have b_x16 := ia_b x16
    have b_y34 := ia_b y34
    have b_y76 := ia_b y76
    have b_y118 := ia_b y118
    have b_w17 := Int64.toInt_lt w17
    try have k_0 := ia_n (nvn bt rplace (k15 - rplace)) (by first | decide | omega)
    try have k_1 := ia_n k14 (by first | decide | omega)
    try have k_2 := ia_n 7 (by first | decide | omega)
    try have k_3 := ia_n 3 (by first | decide | omega)
    try simp only [ia_lt, ia_le, ia_eq, ia_m1, ia_0, ia_1, ne_eq, true_and, and_true, false_and, and_false, or_false, false_or, or_true, true_or, not_true_eq_false, not_false_eq_true] at *
    all_goals omega
  have h7 := rn_gt hpl hal
  omega
set_option maxRecDepth 20000 in
theorem lf_f_readRun_72 (bt : Nat → Nat) (rlength : Nat) (rplace : Nat) (rbegin : Nat) (rtapeF : Nat → Int32) (k14 : Nat) (k15 : Nat) (x16 : Int32) (w17 : Int64) (n21 : Nat) (y34 : Int32) (y76 : Int32) (y118 : Int32) (iv_rreader_0 : rlength ≤ 940) (iv_rreader_1 : rplace ≤ rlength) (iv_rreader_3 : rbegin ≤ 940) (hTC : TC bt rtapeF) (hbp : rbegin = rplace) (hpl : rplace < rlength) (hal : cAl (bt rplace)) (j18 : k15 ≤ 940) (j19 : k15 ≤ rlength) (jPl : rplace ≤ k15) (jRn : rn bt rlength rplace = rn bt rlength k15) (jDc : k14 = dcn bt rplace (k15 - rplace)) (jNm : ¬ (k14 = (k15 - rplace) ∧ k14 ≤ 3) ∨ x16 = nI (nvn bt rplace (k15 - rplace))) (jLt : ¬ (k14 = 0 ∧ (k15 - rplace) ≤ 7) ∨ w17 = Int64.ofNat (p8 bt rplace (k15 - rplace))) (jLe : k14 ≠ 0 ∨ LET bt rplace (k15 - rplace)) (hm23 : 940 - k15 < n21 + 1) (c24 : k15 < rlength) (e35 : y34 = rtapeF k15) (t36 : bt k15 < 256) (t37 : y34.toInt = ((bt k15 : Nat) : Int) ∨ (128 ≤ bt k15 ∧ y34.toInt = ((bt k15 : Nat) : Int) - 256)) (t42 : ¬ (97 ≤ y34.toInt ∧ y34.toInt ≤ 122)) (e77 : y76 = rtapeF k15) (t78 : bt k15 < 256) (t79 : y76.toInt = ((bt k15 : Nat) : Int) ∨ (128 ≤ bt k15 ∧ y76.toInt = ((bt k15 : Nat) : Int) - 256)) (t84 : ¬ (48 ≤ y76.toInt ∧ y76.toInt ≤ 57)) (f120 : y118.toInt = ((k15 : Nat) : Int) - ((rbegin : Nat) : Int)) (c121 : nI k14 = 0) (c124 : nI 7 < y118) (c125 : nI k14 = y118) (c126 : nI 3 < y118) : ((nI 1) = nI 2 ∧ dcn bt rplace (k15 - rplace) = 0 ∧ (k15 - rplace) ≤ 7 ∧ w17 = Int64.ofNat (p8 bt rplace (k15 - rplace)) ∧ LET bt rplace (k15 - rplace)) ∨ ((nI 1) = nI 3 ∧ dcn bt rplace (k15 - rplace) = (k15 - rplace) ∧ (k15 - rplace) ≤ 3 ∧ x16 = nI (nvn bt rplace (k15 - rplace))) ∨ ((nI 1) = nI 1 ∧ ¬ (dcn bt rplace (k15 - rplace) = 0 ∧ (k15 - rplace) ≤ 7) ∧ ¬ (dcn bt rplace (k15 - rplace) = (k15 - rplace) ∧ (k15 - rplace) ≤ 3)) := by
  have q1 : ¬ (k14 = 0 ∧ k15 - rplace ≤ 7) ∧ ¬ (k14 = k15 - rplace ∧ k15 - rplace ≤ 3) := by
    have h5 := dcn_le bt rplace (k15 - rplace)
    have b_x16 := ia_b x16
    have b_y34 := ia_b y34
    have b_y76 := ia_b y76
    have b_y118 := ia_b y118
    have b_w17 := Int64.toInt_lt w17
    try have k_0 := ia_n (nvn bt rplace (k15 - rplace)) (by first | decide | omega)
    try have k_1 := ia_n k14 (by first | decide | omega)
    try have k_2 := ia_n 7 (by first | decide | omega)
    try have k_3 := ia_n 3 (by first | decide | omega)
    try have k_4 := ia_n 1 (by first | decide | omega)
    try have k_5 := ia_n 2 (by first | decide | omega)
    try simp only [ia_lt, ia_le, ia_eq, ia_m1, ia_0, ia_1, ne_eq, true_and, and_true, false_and, and_false, or_false, false_or, or_true, true_or, not_true_eq_false, not_false_eq_true] at *
    all_goals omega
  rw [← jDc]
  exact Or.inr (Or.inr ⟨rfl, q1⟩)
set_option maxRecDepth 20000 in
theorem lf_f_readRun_73 (bt : Nat → Nat) (rlength : Nat) (rplace : Nat) (rbegin : Nat) (rtapeF : Nat → Int32) (k14 : Nat) (k15 : Nat) (x16 : Int32) (w17 : Int64) (n21 : Nat) (y34 : Int32) (y76 : Int32) (y118 : Int32) (iv_rreader_0 : rlength ≤ 940) (iv_rreader_1 : rplace ≤ rlength) (iv_rreader_3 : rbegin ≤ 940) (hTC : TC bt rtapeF) (hbp : rbegin = rplace) (hpl : rplace < rlength) (hal : cAl (bt rplace)) (j18 : k15 ≤ 940) (j19 : k15 ≤ rlength) (jPl : rplace ≤ k15) (jRn : rn bt rlength rplace = rn bt rlength k15) (jDc : k14 = dcn bt rplace (k15 - rplace)) (jNm : ¬ (k14 = (k15 - rplace) ∧ k14 ≤ 3) ∨ x16 = nI (nvn bt rplace (k15 - rplace))) (jLt : ¬ (k14 = 0 ∧ (k15 - rplace) ≤ 7) ∨ w17 = Int64.ofNat (p8 bt rplace (k15 - rplace))) (jLe : k14 ≠ 0 ∨ LET bt rplace (k15 - rplace)) (hm23 : 940 - k15 < n21 + 1) (c24 : k15 < rlength) (e35 : y34 = rtapeF k15) (t36 : bt k15 < 256) (t37 : y34.toInt = ((bt k15 : Nat) : Int) ∨ (128 ≤ bt k15 ∧ y34.toInt = ((bt k15 : Nat) : Int) - 256)) (t42 : ¬ (97 ≤ y34.toInt ∧ y34.toInt ≤ 122)) (e77 : y76 = rtapeF k15) (t78 : bt k15 < 256) (t79 : y76.toInt = ((bt k15 : Nat) : Int) ∨ (128 ≤ bt k15 ∧ y76.toInt = ((bt k15 : Nat) : Int) - 256)) (t84 : ¬ (48 ≤ y76.toInt ∧ y76.toInt ≤ 57)) (f120 : y118.toInt = ((k15 : Nat) : Int) - ((rbegin : Nat) : Int)) (c121 : nI k14 = 0) (c124 : nI 7 < y118) (c125 : nI k14 = y118) (c126 : ¬ nI 3 < y118) : k15 = rn bt rlength rplace := by
  have hE : k15 = rn bt rlength rplace := by
    rw [jRn]
    refine (rn_stop (fun h9 => ?_)).symm
    obtain ⟨h8, h9⟩ := h9
    unfold cAl cLe cDi at h9
    have h7 := hTC k15 (by omega)
    have b_x16 := ia_b x16
    have b_y34 := ia_b y34
    have b_y76 := ia_b y76
    have b_y118 := ia_b y118
    have b_w17 := Int64.toInt_lt w17
    try have k_0 := ia_n (nvn bt rplace (k15 - rplace)) (by first | decide | omega)
    try have k_1 := ia_n k14 (by first | decide | omega)
    try have k_2 := ia_n 7 (by first | decide | omega)
    try have k_3 := ia_n 3 (by first | decide | omega)
    try simp only [ia_lt, ia_le, ia_eq, ia_m1, ia_0, ia_1, ne_eq, true_and, and_true, false_and, and_false, or_false, false_or, or_true, true_or, not_true_eq_false, not_false_eq_true] at *
    all_goals omega
  exact hE
set_option maxRecDepth 20000 in
theorem lf_f_readRun_74 (bt : Nat → Nat) (rlength : Nat) (rplace : Nat) (rbegin : Nat) (rtapeF : Nat → Int32) (k14 : Nat) (k15 : Nat) (x16 : Int32) (w17 : Int64) (n21 : Nat) (y34 : Int32) (y76 : Int32) (y118 : Int32) (iv_rreader_0 : rlength ≤ 940) (iv_rreader_1 : rplace ≤ rlength) (iv_rreader_3 : rbegin ≤ 940) (hTC : TC bt rtapeF) (hbp : rbegin = rplace) (hpl : rplace < rlength) (hal : cAl (bt rplace)) (j18 : k15 ≤ 940) (j19 : k15 ≤ rlength) (jPl : rplace ≤ k15) (jRn : rn bt rlength rplace = rn bt rlength k15) (jDc : k14 = dcn bt rplace (k15 - rplace)) (jNm : ¬ (k14 = (k15 - rplace) ∧ k14 ≤ 3) ∨ x16 = nI (nvn bt rplace (k15 - rplace))) (jLt : ¬ (k14 = 0 ∧ (k15 - rplace) ≤ 7) ∨ w17 = Int64.ofNat (p8 bt rplace (k15 - rplace))) (jLe : k14 ≠ 0 ∨ LET bt rplace (k15 - rplace)) (hm23 : 940 - k15 < n21 + 1) (c24 : k15 < rlength) (e35 : y34 = rtapeF k15) (t36 : bt k15 < 256) (t37 : y34.toInt = ((bt k15 : Nat) : Int) ∨ (128 ≤ bt k15 ∧ y34.toInt = ((bt k15 : Nat) : Int) - 256)) (t42 : ¬ (97 ≤ y34.toInt ∧ y34.toInt ≤ 122)) (e77 : y76 = rtapeF k15) (t78 : bt k15 < 256) (t79 : y76.toInt = ((bt k15 : Nat) : Int) ∨ (128 ≤ bt k15 ∧ y76.toInt = ((bt k15 : Nat) : Int) - 256)) (t84 : ¬ (48 ≤ y76.toInt ∧ y76.toInt ≤ 57)) (f120 : y118.toInt = ((k15 : Nat) : Int) - ((rbegin : Nat) : Int)) (c121 : nI k14 = 0) (c124 : nI 7 < y118) (c125 : nI k14 = y118) (c126 : ¬ nI 3 < y118) : rplace < k15 := by
  have hE : k15 = rn bt rlength rplace := by
    rw [jRn]
    refine (rn_stop (fun h9 => ?_)).symm
    obtain ⟨h8, h9⟩ := h9
    unfold cAl cLe cDi at h9
    have h7 := hTC k15 (by omega)
    have b_x16 := ia_b x16
    have b_y34 := ia_b y34
    have b_y76 := ia_b y76
    have b_y118 := ia_b y118
    have b_w17 := Int64.toInt_lt w17
    try have k_0 := ia_n (nvn bt rplace (k15 - rplace)) (by first | decide | omega)
    try have k_1 := ia_n k14 (by first | decide | omega)
    try have k_2 := ia_n 7 (by first | decide | omega)
    try have k_3 := ia_n 3 (by first | decide | omega)
    try simp only [ia_lt, ia_le, ia_eq, ia_m1, ia_0, ia_1, ne_eq, true_and, and_true, false_and, and_false, or_false, false_or, or_true, true_or, not_true_eq_false, not_false_eq_true] at *
    all_goals omega
  have h7 := rn_gt hpl hal
  omega
set_option maxRecDepth 20000 in
theorem lf_f_readRun_75 (bt : Nat → Nat) (rlength : Nat) (rplace : Nat) (rbegin : Nat) (rtapeF : Nat → Int32) (k14 : Nat) (k15 : Nat) (x16 : Int32) (w17 : Int64) (n21 : Nat) (y34 : Int32) (y76 : Int32) (y118 : Int32) (iv_rreader_0 : rlength ≤ 940) (iv_rreader_1 : rplace ≤ rlength) (iv_rreader_3 : rbegin ≤ 940) (hTC : TC bt rtapeF) (hbp : rbegin = rplace) (hpl : rplace < rlength) (hal : cAl (bt rplace)) (j18 : k15 ≤ 940) (j19 : k15 ≤ rlength) (jPl : rplace ≤ k15) (jRn : rn bt rlength rplace = rn bt rlength k15) (jDc : k14 = dcn bt rplace (k15 - rplace)) (jNm : ¬ (k14 = (k15 - rplace) ∧ k14 ≤ 3) ∨ x16 = nI (nvn bt rplace (k15 - rplace))) (jLt : ¬ (k14 = 0 ∧ (k15 - rplace) ≤ 7) ∨ w17 = Int64.ofNat (p8 bt rplace (k15 - rplace))) (jLe : k14 ≠ 0 ∨ LET bt rplace (k15 - rplace)) (hm23 : 940 - k15 < n21 + 1) (c24 : k15 < rlength) (e35 : y34 = rtapeF k15) (t36 : bt k15 < 256) (t37 : y34.toInt = ((bt k15 : Nat) : Int) ∨ (128 ≤ bt k15 ∧ y34.toInt = ((bt k15 : Nat) : Int) - 256)) (t42 : ¬ (97 ≤ y34.toInt ∧ y34.toInt ≤ 122)) (e77 : y76 = rtapeF k15) (t78 : bt k15 < 256) (t79 : y76.toInt = ((bt k15 : Nat) : Int) ∨ (128 ≤ bt k15 ∧ y76.toInt = ((bt k15 : Nat) : Int) - 256)) (t84 : ¬ (48 ≤ y76.toInt ∧ y76.toInt ≤ 57)) (f120 : y118.toInt = ((k15 : Nat) : Int) - ((rbegin : Nat) : Int)) (c121 : nI k14 = 0) (c124 : nI 7 < y118) (c125 : nI k14 = y118) (c126 : ¬ nI 3 < y118) : ((nI 3) = nI 2 ∧ dcn bt rplace (k15 - rplace) = 0 ∧ (k15 - rplace) ≤ 7 ∧ w17 = Int64.ofNat (p8 bt rplace (k15 - rplace)) ∧ LET bt rplace (k15 - rplace)) ∨ ((nI 3) = nI 3 ∧ dcn bt rplace (k15 - rplace) = (k15 - rplace) ∧ (k15 - rplace) ≤ 3 ∧ x16 = nI (nvn bt rplace (k15 - rplace))) ∨ ((nI 3) = nI 1 ∧ ¬ (dcn bt rplace (k15 - rplace) = 0 ∧ (k15 - rplace) ≤ 7) ∧ ¬ (dcn bt rplace (k15 - rplace) = (k15 - rplace) ∧ (k15 - rplace) ≤ 3)) := by
  have q1 : k14 = k15 - rplace ∧ k14 ≤ 3 := by
    have h5 := dcn_le bt rplace (k15 - rplace)
    have b_x16 := ia_b x16
    have b_y34 := ia_b y34
    have b_y76 := ia_b y76
    have b_y118 := ia_b y118
    have b_w17 := Int64.toInt_lt w17
    try have k_0 := ia_n (nvn bt rplace (k15 - rplace)) (by first | decide | omega)
    try have k_1 := ia_n k14 (by first | decide | omega)
    try have k_2 := ia_n 7 (by first | decide | omega)
    try have k_3 := ia_n 3 (by first | decide | omega)
    try have k_4 := ia_n 2 (by first | decide | omega)
    try have k_5 := ia_n 1 (by first | decide | omega)
    try simp only [ia_lt, ia_le, ia_eq, ia_m1, ia_0, ia_1, ne_eq, true_and, and_true, false_and, and_false, or_false, false_or, or_true, true_or, not_true_eq_false, not_false_eq_true] at *
    all_goals omega
  refine Or.inr (Or.inl ⟨rfl, by omega, by omega, jNm.resolve_left (fun h => h q1)⟩)
set_option maxRecDepth 20000 in
theorem lf_f_readRun_76 (bt : Nat → Nat) (rlength : Nat) (rplace : Nat) (rbegin : Nat) (rtapeF : Nat → Int32) (k14 : Nat) (k15 : Nat) (x16 : Int32) (w17 : Int64) (n21 : Nat) (y34 : Int32) (y76 : Int32) (y118 : Int32) (iv_rreader_0 : rlength ≤ 940) (iv_rreader_1 : rplace ≤ rlength) (iv_rreader_3 : rbegin ≤ 940) (hTC : TC bt rtapeF) (hbp : rbegin = rplace) (hpl : rplace < rlength) (hal : cAl (bt rplace)) (j18 : k15 ≤ 940) (j19 : k15 ≤ rlength) (jPl : rplace ≤ k15) (jRn : rn bt rlength rplace = rn bt rlength k15) (jDc : k14 = dcn bt rplace (k15 - rplace)) (jNm : ¬ (k14 = (k15 - rplace) ∧ k14 ≤ 3) ∨ x16 = nI (nvn bt rplace (k15 - rplace))) (jLt : ¬ (k14 = 0 ∧ (k15 - rplace) ≤ 7) ∨ w17 = Int64.ofNat (p8 bt rplace (k15 - rplace))) (jLe : k14 ≠ 0 ∨ LET bt rplace (k15 - rplace)) (hm23 : 940 - k15 < n21 + 1) (c24 : k15 < rlength) (e35 : y34 = rtapeF k15) (t36 : bt k15 < 256) (t37 : y34.toInt = ((bt k15 : Nat) : Int) ∨ (128 ≤ bt k15 ∧ y34.toInt = ((bt k15 : Nat) : Int) - 256)) (t42 : ¬ (97 ≤ y34.toInt ∧ y34.toInt ≤ 122)) (e77 : y76 = rtapeF k15) (t78 : bt k15 < 256) (t79 : y76.toInt = ((bt k15 : Nat) : Int) ∨ (128 ≤ bt k15 ∧ y76.toInt = ((bt k15 : Nat) : Int) - 256)) (t84 : ¬ (48 ≤ y76.toInt ∧ y76.toInt ≤ 57)) (f120 : y118.toInt = ((k15 : Nat) : Int) - ((rbegin : Nat) : Int)) (c121 : nI k14 = 0) (c124 : ¬ nI 7 < y118) : k15 = rn bt rlength rplace := by
  have hE : k15 = rn bt rlength rplace := by
    rw [jRn]
    refine (rn_stop (fun h9 => ?_)).symm
    obtain ⟨h8, h9⟩ := h9
    unfold cAl cLe cDi at h9
    have h7 := hTC k15 (by omega)
    have b_x16 := ia_b x16
    have b_y34 := ia_b y34
    have b_y76 := ia_b y76
    have b_y118 := ia_b y118
    have b_w17 := Int64.toInt_lt w17
    try have k_0 := ia_n (nvn bt rplace (k15 - rplace)) (by first | decide | omega)
    try have k_1 := ia_n k14 (by first | decide | omega)
    try have k_2 := ia_n 7 (by first | decide | omega)
    try simp only [ia_lt, ia_le, ia_eq, ia_m1, ia_0, ia_1, ne_eq, true_and, and_true, false_and, and_false, or_false, false_or, or_true, true_or, not_true_eq_false, not_false_eq_true] at *
    all_goals omega
  exact hE
set_option maxRecDepth 20000 in
theorem lf_f_readRun_77 (bt : Nat → Nat) (rlength : Nat) (rplace : Nat) (rbegin : Nat) (rtapeF : Nat → Int32) (k14 : Nat) (k15 : Nat) (x16 : Int32) (w17 : Int64) (n21 : Nat) (y34 : Int32) (y76 : Int32) (y118 : Int32) (iv_rreader_0 : rlength ≤ 940) (iv_rreader_1 : rplace ≤ rlength) (iv_rreader_3 : rbegin ≤ 940) (hTC : TC bt rtapeF) (hbp : rbegin = rplace) (hpl : rplace < rlength) (hal : cAl (bt rplace)) (j18 : k15 ≤ 940) (j19 : k15 ≤ rlength) (jPl : rplace ≤ k15) (jRn : rn bt rlength rplace = rn bt rlength k15) (jDc : k14 = dcn bt rplace (k15 - rplace)) (jNm : ¬ (k14 = (k15 - rplace) ∧ k14 ≤ 3) ∨ x16 = nI (nvn bt rplace (k15 - rplace))) (jLt : ¬ (k14 = 0 ∧ (k15 - rplace) ≤ 7) ∨ w17 = Int64.ofNat (p8 bt rplace (k15 - rplace))) (jLe : k14 ≠ 0 ∨ LET bt rplace (k15 - rplace)) (hm23 : 940 - k15 < n21 + 1) (c24 : k15 < rlength) (e35 : y34 = rtapeF k15) (t36 : bt k15 < 256) (t37 : y34.toInt = ((bt k15 : Nat) : Int) ∨ (128 ≤ bt k15 ∧ y34.toInt = ((bt k15 : Nat) : Int) - 256)) (t42 : ¬ (97 ≤ y34.toInt ∧ y34.toInt ≤ 122)) (e77 : y76 = rtapeF k15) (t78 : bt k15 < 256) (t79 : y76.toInt = ((bt k15 : Nat) : Int) ∨ (128 ≤ bt k15 ∧ y76.toInt = ((bt k15 : Nat) : Int) - 256)) (t84 : ¬ (48 ≤ y76.toInt ∧ y76.toInt ≤ 57)) (f120 : y118.toInt = ((k15 : Nat) : Int) - ((rbegin : Nat) : Int)) (c121 : nI k14 = 0) (c124 : ¬ nI 7 < y118) : rplace < k15 := by
  have hE : k15 = rn bt rlength rplace := by
    rw [jRn]
    refine (rn_stop (fun h9 => ?_)).symm
    obtain ⟨h8, h9⟩ := h9
    unfold cAl cLe cDi at h9
    have h7 := hTC k15 (by omega)
    have b_x16 := ia_b x16
    have b_y34 := ia_b y34
    have b_y76 := ia_b y76
    have b_y118 := ia_b y118
    have b_w17 := Int64.toInt_lt w17
    try have k_0 := ia_n (nvn bt rplace (k15 - rplace)) (by first | decide | omega)
    try have k_1 := ia_n k14 (by first | decide | omega)
    try have k_2 := ia_n 7 (by first | decide | omega)
    try simp only [ia_lt, ia_le, ia_eq, ia_m1, ia_0, ia_1, ne_eq, true_and, and_true, false_and, and_false, or_false, false_or, or_true, true_or, not_true_eq_false, not_false_eq_true] at *
    all_goals omega
  have h7 := rn_gt hpl hal
  omega
set_option maxRecDepth 20000 in
theorem lf_f_readRun_78 (bt : Nat → Nat) (rlength : Nat) (rplace : Nat) (rbegin : Nat) (rtapeF : Nat → Int32) (k14 : Nat) (k15 : Nat) (x16 : Int32) (w17 : Int64) (n21 : Nat) (y34 : Int32) (y76 : Int32) (y118 : Int32) (iv_rreader_0 : rlength ≤ 940) (iv_rreader_1 : rplace ≤ rlength) (iv_rreader_3 : rbegin ≤ 940) (hTC : TC bt rtapeF) (hbp : rbegin = rplace) (hpl : rplace < rlength) (hal : cAl (bt rplace)) (j18 : k15 ≤ 940) (j19 : k15 ≤ rlength) (jPl : rplace ≤ k15) (jRn : rn bt rlength rplace = rn bt rlength k15) (jDc : k14 = dcn bt rplace (k15 - rplace)) (jNm : ¬ (k14 = (k15 - rplace) ∧ k14 ≤ 3) ∨ x16 = nI (nvn bt rplace (k15 - rplace))) (jLt : ¬ (k14 = 0 ∧ (k15 - rplace) ≤ 7) ∨ w17 = Int64.ofNat (p8 bt rplace (k15 - rplace))) (jLe : k14 ≠ 0 ∨ LET bt rplace (k15 - rplace)) (hm23 : 940 - k15 < n21 + 1) (c24 : k15 < rlength) (e35 : y34 = rtapeF k15) (t36 : bt k15 < 256) (t37 : y34.toInt = ((bt k15 : Nat) : Int) ∨ (128 ≤ bt k15 ∧ y34.toInt = ((bt k15 : Nat) : Int) - 256)) (t42 : ¬ (97 ≤ y34.toInt ∧ y34.toInt ≤ 122)) (e77 : y76 = rtapeF k15) (t78 : bt k15 < 256) (t79 : y76.toInt = ((bt k15 : Nat) : Int) ∨ (128 ≤ bt k15 ∧ y76.toInt = ((bt k15 : Nat) : Int) - 256)) (t84 : ¬ (48 ≤ y76.toInt ∧ y76.toInt ≤ 57)) (f120 : y118.toInt = ((k15 : Nat) : Int) - ((rbegin : Nat) : Int)) (c121 : nI k14 = 0) (c124 : ¬ nI 7 < y118) : ((nI 2) = nI 2 ∧ dcn bt rplace (k15 - rplace) = 0 ∧ (k15 - rplace) ≤ 7 ∧ w17 = Int64.ofNat (p8 bt rplace (k15 - rplace)) ∧ LET bt rplace (k15 - rplace)) ∨ ((nI 2) = nI 3 ∧ dcn bt rplace (k15 - rplace) = (k15 - rplace) ∧ (k15 - rplace) ≤ 3 ∧ x16 = nI (nvn bt rplace (k15 - rplace))) ∨ ((nI 2) = nI 1 ∧ ¬ (dcn bt rplace (k15 - rplace) = 0 ∧ (k15 - rplace) ≤ 7) ∧ ¬ (dcn bt rplace (k15 - rplace) = (k15 - rplace) ∧ (k15 - rplace) ≤ 3)) := by
  have q1 : k14 = 0 ∧ k15 - rplace ≤ 7 := by
    have h5 := dcn_le bt rplace (k15 - rplace)
    have b_x16 := ia_b x16
    have b_y34 := ia_b y34
    have b_y76 := ia_b y76
    have b_y118 := ia_b y118
    have b_w17 := Int64.toInt_lt w17
    try have k_0 := ia_n (nvn bt rplace (k15 - rplace)) (by first | decide | omega)
    try have k_1 := ia_n k14 (by first | decide | omega)
    try have k_2 := ia_n 7 (by first | decide | omega)
    try have k_3 := ia_n 2 (by first | decide | omega)
    try have k_4 := ia_n 3 (by first | decide | omega)
    try have k_5 := ia_n 1 (by first | decide | omega)
    try simp only [ia_lt, ia_le, ia_eq, ia_m1, ia_0, ia_1, ne_eq, true_and, and_true, false_and, and_false, or_false, false_or, or_true, true_or, not_true_eq_false, not_false_eq_true] at *
    all_goals omega
  refine Or.inl ⟨rfl, by omega, q1.2, jLt.resolve_left (fun h => h q1), jLe.resolve_left (fun h => h q1.1)⟩
set_option maxRecDepth 20000 in
theorem lf_f_readRun_79 (bt : Nat → Nat) (rlength : Nat) (rplace : Nat) (rbegin : Nat) (rtapeF : Nat → Int32) (iv_rreader_0 : rlength ≤ 940) (iv_rreader_1 : rplace ≤ rlength) (iv_rreader_3 : rbegin ≤ 940) (hTC : TC bt rtapeF) (hbp : rbegin = rplace) (hpl : rplace < rlength) (hal : cAl (bt rplace)) : rplace ≤ 940 := by
  try simp only [ia_lt, ia_le, ia_eq, ia_m1, ia_0, ia_1, ne_eq, true_and, and_true, false_and, and_false, or_false, false_or, or_true, true_or, not_true_eq_false, not_false_eq_true] at *
  all_goals omega
set_option maxRecDepth 20000 in
theorem lf_f_readRun_80 (bt : Nat → Nat) (rlength : Nat) (rplace : Nat) (rbegin : Nat) (rtapeF : Nat → Int32) (iv_rreader_0 : rlength ≤ 940) (iv_rreader_1 : rplace ≤ rlength) (iv_rreader_3 : rbegin ≤ 940) (hTC : TC bt rtapeF) (hbp : rbegin = rplace) (hpl : rplace < rlength) (hal : cAl (bt rplace)) : rplace ≤ rplace := by
  try simp only [ia_lt, ia_le, ia_eq, ia_m1, ia_0, ia_1, ne_eq, true_and, and_true, false_and, and_false, or_false, false_or, or_true, true_or, not_true_eq_false, not_false_eq_true] at *
  all_goals omega
set_option maxRecDepth 20000 in
theorem lf_f_readRun_81 (bt : Nat → Nat) (rlength : Nat) (rplace : Nat) (rbegin : Nat) (rtapeF : Nat → Int32) (iv_rreader_0 : rlength ≤ 940) (iv_rreader_1 : rplace ≤ rlength) (iv_rreader_3 : rbegin ≤ 940) (hTC : TC bt rtapeF) (hbp : rbegin = rplace) (hpl : rplace < rlength) (hal : cAl (bt rplace)) : rn bt rlength rplace = rn bt rlength rplace := by
  rfl
set_option maxRecDepth 20000 in
theorem lf_f_readRun_82 (bt : Nat → Nat) (rlength : Nat) (rplace : Nat) (rbegin : Nat) (rtapeF : Nat → Int32) (iv_rreader_0 : rlength ≤ 940) (iv_rreader_1 : rplace ≤ rlength) (iv_rreader_3 : rbegin ≤ 940) (hTC : TC bt rtapeF) (hbp : rbegin = rplace) (hpl : rplace < rlength) (hal : cAl (bt rplace)) : 0 = dcn bt rplace (rplace - rplace) := by
  rw [Nat.sub_self]; rfl
set_option maxRecDepth 20000 in
theorem lf_f_readRun_83 (bt : Nat → Nat) (rlength : Nat) (rplace : Nat) (rbegin : Nat) (rtapeF : Nat → Int32) (iv_rreader_0 : rlength ≤ 940) (iv_rreader_1 : rplace ≤ rlength) (iv_rreader_3 : rbegin ≤ 940) (hTC : TC bt rtapeF) (hbp : rbegin = rplace) (hpl : rplace < rlength) (hal : cAl (bt rplace)) : ¬ (0 = (rplace - rplace) ∧ 0 ≤ 3) ∨ (nI 0) = nI (nvn bt rplace (rplace - rplace)) := by
  right; rw [Nat.sub_self]; rfl
set_option maxRecDepth 20000 in
theorem lf_f_readRun_84 (bt : Nat → Nat) (rlength : Nat) (rplace : Nat) (rbegin : Nat) (rtapeF : Nat → Int32) (iv_rreader_0 : rlength ≤ 940) (iv_rreader_1 : rplace ≤ rlength) (iv_rreader_3 : rbegin ≤ 940) (hTC : TC bt rtapeF) (hbp : rbegin = rplace) (hpl : rplace < rlength) (hal : cAl (bt rplace)) : ¬ (0 = 0 ∧ (rplace - rplace) ≤ 7) ∨ 0 = Int64.ofNat (p8 bt rplace (rplace - rplace)) := by
  right; rw [Nat.sub_self]; rfl
set_option maxRecDepth 20000 in
theorem lf_f_readRun_85 (bt : Nat → Nat) (rlength : Nat) (rplace : Nat) (rbegin : Nat) (rtapeF : Nat → Int32) (iv_rreader_0 : rlength ≤ 940) (iv_rreader_1 : rplace ≤ rlength) (iv_rreader_3 : rbegin ≤ 940) (hTC : TC bt rtapeF) (hbp : rbegin = rplace) (hpl : rplace < rlength) (hal : cAl (bt rplace)) : 0 ≠ 0 ∨ LET bt rplace (rplace - rplace) := by
  right; rw [Nat.sub_self]; intro j hj; exact absurd hj (Nat.not_lt_zero j)
set_option maxHeartbeats 4000000 in
set_option maxRecDepth 100000 in
theorem c_f_readRun (l : Launch) (dC : Nat → ClassId) (dI : Nat → Nat → Nat) (ky : Nat → ClassId) (sz : Nat) (bt : Nat → Nat) (reader : Nat) (rtape : Nat) (rlength : Nat) (rmostBytes : Nat) (rplace : Nat) (rkind : Int32) (rbegin : Nat) (rword : Int32) (rnumber : Int32) (rletters : Int64) (rfaultKind : Int32) (rfaultPlace : Int32) (rtapeF : Nat → Int32) (iv_rreader_0 : rlength ≤ 940) (iv_rreader_1 : rplace ≤ rlength) (iv_rreader_2 : rmostBytes ≤ 900) (iv_rreader_3 : rbegin ≤ 940) (hTC : TC bt rtapeF) (hbp : rbegin = rplace) (hpl : rplace < rlength) (hal : cAl (bt rplace)) : Met l yX5_readRun wsX5_readRun ({ frames := 1, cells := 0, slots := 0, locals := 20 }) (PcU dC dI ky [.ref reader] [(reader, .inr (5, [.ref rtape, .int (nI rlength), .int (nI rmostBytes), .int (nI rplace), .int rkind, .int (nI rbegin), .int rword, .int rnumber, .long rletters, .int rfaultKind, .int rfaultPlace])), (rtape, .inl (ky 2, 940, .inl rtapeF))] sz) (va_Qv (fun (u : Nat × Int32 × Int32 × Int64) => match u with | (rplaceG, rkindG, rnumberG, rlettersG) => (rplaceG ≤ rlength) ∧ (rplaceG = rn bt rlength rplace) ∧ (rplace < rplaceG) ∧ ((rkindG = nI 2 ∧ dcn bt rplace (rplaceG - rplace) = 0 ∧ (rplaceG - rplace) ≤ 7 ∧ rlettersG = Int64.ofNat (p8 bt rplace (rplaceG - rplace)) ∧ LET bt rplace (rplaceG - rplace)) ∨ (rkindG = nI 3 ∧ dcn bt rplace (rplaceG - rplace) = (rplaceG - rplace) ∧ (rplaceG - rplace) ≤ 3 ∧ rnumberG = nI (nvn bt rplace (rplaceG - rplace))) ∨ (rkindG = nI 1 ∧ ¬ (dcn bt rplace (rplaceG - rplace) = 0 ∧ (rplaceG - rplace) ≤ 7) ∧ ¬ (dcn bt rplace (rplaceG - rplace) = (rplaceG - rplace) ∧ (rplaceG - rplace) ≤ 3)))) (BU dC dI ky (fun (u : Nat × Int32 × Int32 × Int64) => match u with | (rplaceG, rkindG, rnumberG, rlettersG) => [(reader, .inr (5, [.ref rtape, .int (nI rlength), .int (nI rmostBytes), .int (nI rplaceG), .int rkindG, .int (nI rbegin), .int rword, .int rnumberG, .long rlettersG, .int rfaultKind, .int rfaultPlace])), (rtape, .inl (ky 2, 940, .inl rtapeF))]) (va_A [(reader, .inr (5, [.ref rtape, .int (nI rlength), .int (nI rmostBytes), .int (nI rplace), .int rkind, .int (nI rbegin), .int rword, .int rnumber, .long rletters, .int rfaultKind, .int rfaultPlace])), (rtape, .inl (ky 2, 940, .inl rtapeF))] sz)) (va_A [(reader, .inr (5, [.ref rtape, .int (nI rlength), .int (nI rmostBytes), .int (nI rplace), .int rkind, .int (nI rbegin), .int rword, .int rnumber, .long rletters, .int rfaultKind, .int rfaultPlace])), (rtape, .inl (ky 2, 940, .inl rtapeF))] sz)) 0 0 (va_A [(reader, .inr (5, [.ref rtape, .int (nI rlength), .int (nI rmostBytes), .int (nI rplace), .int rkind, .int (nI rbegin), .int rword, .int rnumber, .long rletters, .int rfaultKind, .int rfaultPlace])), (rtape, .inl (ky 2, 940, .inl rtapeF))] sz) := by
  refine Met.ofW (cc := cX5_readRun) (maxL := 3) (ret := none) (by decide) rfl ?_
  intro p e s m args below meth c s₁ B hml hv
  obtain ⟨rfl, hsz, hP, hK, hD0⟩ := hv
  have hx := B.exec
  have hb := B.bytes
  have hr := B.returns
  have hts := atoms_spec (ws := wsX5_readRun) B.pre
  have hown : s.vm.findClass RX5 = some m.cls := findClass_of_methodNamed B.named
  have hlocks := B.notSynchronized
  have hin5 : ∀ w ∈ u_ws RX5 TX5 11, w ∈ wsX5_readRun := by decide +kernel
  subst hsz
  have hD := hD0.self (sz := s.heap.size)
  generalize hAe : va_A [(reader, .inr (5, [.ref rtape, .int (nI rlength), .int (nI rmostBytes), .int (nI rplace), .int rkind, .int (nI rbegin), .int rword, .int rnumber, .long rletters, .int rfaultKind, .int rfaultPlace])), (rtape, .inl (ky 2, 940, .inl rtapeF))] s.heap.size = A at hD ⊢
  have hA : ∀ q : Nat, s.heap.size ≤ q → A q := fun q h => by rw [← hAe]; exact Or.inr h
  have hS : va_S A s.heap s.heap [] := va_S.rf
  have hl := lv_entry ([.ref reader]) (n := 3) (Nat.le_of_ble_eq_true rfl)
  rw [lg_entry_eq]
  generalize (lg_sl ([.ref reader]) ++ List.replicate (3 - (lg_sl ([.ref reader])).length) Slot.unset).toArray = ls at hl ⊢
  have hl : lv_has ls 3 [(0, .ref reader)] := hl
  refine q_name (fun Q hQ => ?_)
  generalize ([.ref reader] : List Value).toArray = args at hts hQ ⊢
  refine lv_iconst (v := nI 0) hx hb dX5_readRun_0 (by decide) ?_
  refine lv_istore_n (lv' := [(1, .int (nI 0)), (0, .ref reader)]) hx hb dX5_readRun_1 rfl hl (by decide) rfl (fun ls hl => ?_)
  refine lv_aload_n hx hb dX5_readRun_2 rfl (lv_at hl 1 rfl) ?_
  refine lv_lconst (v := 0) hx hb dX5_readRun_3 (by decide) ?_
  refine va_put (D := (dC, dI)) (ci := 5) (v := .long 0) (ty := .long) (C := RX5) (T := TX5) (N := 11) hx hb hts hin5 tyX5 tyX5_ok nmX5 hown hK hP hD hS 0 rfl rfl 8 (by decide) (hts (.fieldLink RX5 72 "PorridgeSea$Reader" "letters" "J") (List.mem_of_getElem? (i := 1) rfl)) (fun _ h9 => h9) rfl (by decide +kernel) rfl rfl (Nat.le_of_ble_eq_true rfl) dX5_readRun_4 (fun H locs hP hD hS => ?_)
  have hP : va_P (dC, dI) vwCl [(reader, .inr (5, [.ref rtape, .int (nI rlength), .int (nI rmostBytes), .int (nI rplace), .int rkind, .int (nI rbegin), .int rword, .int rnumber, .long 0, .int rfaultKind, .int rfaultPlace])), (rtape, .inl (ky 2, 940, .inl rtapeF))] H := hP
  have hD : va_D A [(reader, .inr (5, [.ref rtape, .int (nI rlength), .int (nI rmostBytes), .int (nI rplace), .int rkind, .int (nI rbegin), .int rword, .int rnumber, .long 0, .int rfaultKind, .int rfaultPlace])), (rtape, .inl (ky 2, 940, .inl rtapeF))] := hD
  refine lv_aload_n hx hb dX5_readRun_7 rfl (lv_at hl 1 rfl) ?_
  refine lv_iconst (v := nI 0) hx hb dX5_readRun_8 (by decide) ?_
  refine va_put (D := (dC, dI)) (ci := 5) (v := .int (nI 0)) (ty := .int) (C := RX5) (T := TX5) (N := 11) hx hb hts hin5 tyX5 tyX5_ok nmX5 hown hK hP hD hS 0 rfl rfl 7 (by decide) (hts (.fieldLink RX5 76 "PorridgeSea$Reader" "number" "I") (List.mem_of_getElem? (i := 2) rfl)) (fun _ h9 => h9) rfl (by decide +kernel) rfl rfl (Nat.le_of_ble_eq_true rfl) dX5_readRun_9 (fun H locs hP hD hS => ?_)
  have hP : va_P (dC, dI) vwCl [(reader, .inr (5, [.ref rtape, .int (nI rlength), .int (nI rmostBytes), .int (nI rplace), .int rkind, .int (nI rbegin), .int rword, .int (nI 0), .long 0, .int rfaultKind, .int rfaultPlace])), (rtape, .inl (ky 2, 940, .inl rtapeF))] H := hP
  have hD : va_D A [(reader, .inr (5, [.ref rtape, .int (nI rlength), .int (nI rmostBytes), .int (nI rplace), .int rkind, .int (nI rbegin), .int rword, .int (nI 0), .long 0, .int rfaultKind, .int rfaultPlace])), (rtape, .inl (ky 2, 940, .inl rtapeF))] := hD
  have hL20 : ∀ (n21 : Nat) (k14 : Nat) (k15 : Nat) (x16 : Int32) (w17 : Int64), (k15 ≤ 940) → (k15 ≤ rlength) → (rplace ≤ k15) → (rn bt rlength rplace = rn bt rlength k15) → (k14 = dcn bt rplace (k15 - rplace)) → (¬ (k14 = (k15 - rplace) ∧ k14 ≤ 3) ∨ x16 = nI (nvn bt rplace (k15 - rplace))) → (¬ (k14 = 0 ∧ (k15 - rplace) ≤ 7) ∨ w17 = Int64.ofNat (p8 bt rplace (k15 - rplace))) → (k14 ≠ 0 ∨ LET bt rplace (k15 - rplace)) → 940 - k15 < n21 → ∀ (H : Heap) (locs : List Loc) (ls : Array Slot), va_P (dC, dI) vwCl [(reader, .inr (5, [.ref rtape, .int (nI rlength), .int (nI rmostBytes), .int (nI k15), .int rkind, .int (nI rbegin), .int rword, .int x16, .long w17, .int rfaultKind, .int rfaultPlace])), (rtape, .inl (ky 2, 940, .inl rtapeF))] H → va_D A [(reader, .inr (5, [.ref rtape, .int (nI rlength), .int (nI rmostBytes), .int (nI k15), .int rkind, .int (nI rbegin), .int rword, .int x16, .long w17, .int rfaultKind, .int rfaultPlace])), (rtape, .inl (ky 2, 940, .inl rtapeF))] → va_S A s.heap H locs → lv_has ls 3 [(1, .int (nI k14)), (0, .ref reader)] → W p l e (headSpec wsX5_readRun ({ frames := 1, cells := 0, slots := 0, locals := 20 })).room s m args below meth c H locs 0 0 Q (F0 m 12 ls []) := by
    intro n21
    induction n21 with
    | zero => intro k14 k15 x16 w17 _ _ _ _ _ _ _ _ h9; exact absurd h9 (Nat.not_lt_zero _)
    | succ n21 ih22 =>
      intro k14 k15 x16 w17 j18 j19 jPl jRn jDc jNm jLt jLe hm23 H locs ls hP hD hS hl
      refine lv_aload_n hx hb dX5_readRun_12 rfl (lv_at hl 1 rfl) ?_
      refine va_get (D := (dC, dI)) (ci := 5) (v := .int (nI k15)) (C := RX5) (T := TX5) (N := 11) hx hb hts hin5 hown hK hP 0 rfl rfl 3 (by decide) (hts (.fieldLink RX5 28 "PorridgeSea$Reader" "place" "I") (List.mem_of_getElem? (i := 3) rfl)) (fun _ h9 => h9) rfl dX5_readRun_13 ?_
      refine lv_aload_n hx hb dX5_readRun_16 rfl (lv_at hl 1 rfl) ?_
      refine va_get (D := (dC, dI)) (ci := 5) (v := .int (nI rlength)) (C := RX5) (T := TX5) (N := 11) hx hb hts hin5 hown hK hP 0 rfl rfl 1 (by decide) (hts (.fieldLink RX5 21 "PorridgeSea$Reader" "length" "I") (List.mem_of_getElem? (i := 4) rfl)) (fun _ h9 => h9) rfl dX5_readRun_17 ?_
      refine n_icmp_ge (x := k15) (y := rlength) (tgt := 133) hx hb (by omega) (by omega) dX5_readRun_20 (by decide) (fun c24 => ?_) (fun c24 => ?_)
      · refine lv_aload_n hx hb dX5_readRun_133 rfl (lv_at hl 1 rfl) ?_
        refine va_get (D := (dC, dI)) (ci := 5) (v := .int (nI k15)) (C := RX5) (T := TX5) (N := 11) hx hb hts hin5 hown hK hP 0 rfl rfl 3 (by decide) (hts (.fieldLink RX5 28 "PorridgeSea$Reader" "place" "I") (List.mem_of_getElem? (i := 3) rfl)) (fun _ h9 => h9) rfl dX5_readRun_134 ?_
        refine lv_aload_n hx hb dX5_readRun_137 rfl (lv_at hl 1 rfl) ?_
        refine va_get (D := (dC, dI)) (ci := 5) (v := .int (nI rbegin)) (C := RX5) (T := TX5) (N := 11) hx hb hts hin5 hown hK hP 0 rfl rfl 5 (by decide) (hts (.fieldLink RX5 40 "PorridgeSea$Reader" "begin" "I") (List.mem_of_getElem? (i := 6) rfl)) (fun _ h9 => h9) rfl dX5_readRun_138 ?_
        refine lv_isub hx hb dX5_readRun_141 ?_
        refine lv_topi (fun y25 e26 => ?_)
        have f27 : y25.toInt = ((k15 : Nat) : Int) - ((rbegin : Nat) : Int) := by rw [e26]; exact ia_sub _ _ (by omega) (by omega)
        refine lv_istore_n (lv' := [(2, .int y25), (1, .int (nI k14)), (0, .ref reader)]) hx hb dX5_readRun_142 rfl hl (by decide) rfl (fun ls hl => ?_)
        refine lv_iload_n hx hb dX5_readRun_143 rfl (lv_at hl 1 rfl) ?_
        refine lv_if_ne (tgt := 161) hx hb dX5_readRun_144 (by decide) (fun c28 => ?_) (fun c28 => ?_)
        · refine lv_aload_n hx hb dX5_readRun_161 rfl (lv_at hl 2 rfl) ?_
          refine lv_iload_n hx hb dX5_readRun_162 rfl (lv_at hl 1 rfl) ?_
          refine lv_iload_n hx hb dX5_readRun_163 rfl (lv_at hl 0 rfl) ?_
          refine lv_icmp_ne (tgt := 176) hx hb dX5_readRun_164 (by decide) (fun c29 => ?_) (fun c29 => ?_)
          · refine lv_iconst (v := nI 1) hx hb dX5_readRun_176 (by decide) ?_
            refine va_put (D := (dC, dI)) (ci := 5) (v := .int (nI 1)) (ty := .int) (C := RX5) (T := TX5) (N := 11) hx hb hts hin5 tyX5 tyX5_ok nmX5 hown hK hP hD hS 0 rfl rfl 4 (by decide) (hts (.fieldLink RX5 46 "PorridgeSea$Reader" "kind" "I") (List.mem_of_getElem? (i := 7) rfl)) (fun _ h9 => h9) rfl (by decide +kernel) rfl rfl (Nat.le_of_ble_eq_true rfl) dX5_readRun_177 (fun H locs hP hD hS => ?_)
            have hP : va_P (dC, dI) vwCl [(reader, .inr (5, [.ref rtape, .int (nI rlength), .int (nI rmostBytes), .int (nI k15), .int (nI 1), .int (nI rbegin), .int rword, .int x16, .long w17, .int rfaultKind, .int rfaultPlace])), (rtape, .inl (ky 2, 940, .inl rtapeF))] H := hP
            have hD : va_D A [(reader, .inr (5, [.ref rtape, .int (nI rlength), .int (nI rmostBytes), .int (nI k15), .int (nI 1), .int (nI rbegin), .int rword, .int x16, .long w17, .int rfaultKind, .int rfaultPlace])), (rtape, .inl (ky 2, 940, .inl rtapeF))] := hD
            rw [hQ]
            exact W.vret hx hb hr (fun t9 ht9 hW9 => ⟨⟨(k15, nI 1, x16, w17), rfl, ⟨j19, (lf_f_readRun_1 bt rlength rplace rbegin rtapeF k14 k15 x16 w17 n21 y25 iv_rreader_0 iv_rreader_1 iv_rreader_3 hTC hbp hpl hal j18 j19 jPl jRn jDc jNm jLt jLe hm23 c24 f27 c28 c29), (lf_f_readRun_2 bt rlength rplace rbegin rtapeF k14 k15 x16 w17 n21 y25 iv_rreader_0 iv_rreader_1 iv_rreader_3 hTC hbp hpl hal j18 j19 jPl jRn jDc jNm jLt jLe hm23 c24 f27 c28 c29), (lf_f_readRun_3 bt rlength rplace rbegin rtapeF k14 k15 x16 w17 n21 y25 iv_rreader_0 iv_rreader_1 iv_rreader_3 hTC hbp hpl hal j18 j19 jPl jRn jDc jNm jLt jLe hm23 c24 f27 c28 c29)⟩, by rw [ht9]; exact hP, va_K.moved hW9.alike hK, hD⟩, hS.F ht9⟩) hS.2.2 dX5_readRun_180
          · refine lv_iload_n hx hb dX5_readRun_167 rfl (lv_at hl 0 rfl) ?_
            refine lv_iconst (v := nI 3) hx hb dX5_readRun_168 (by decide) ?_
            refine lv_icmp_gt (tgt := 176) hx hb dX5_readRun_169 (by decide) (fun c30 => ?_) (fun c30 => ?_)
            · refine lv_iconst (v := nI 1) hx hb dX5_readRun_176 (by decide) ?_
              refine va_put (D := (dC, dI)) (ci := 5) (v := .int (nI 1)) (ty := .int) (C := RX5) (T := TX5) (N := 11) hx hb hts hin5 tyX5 tyX5_ok nmX5 hown hK hP hD hS 0 rfl rfl 4 (by decide) (hts (.fieldLink RX5 46 "PorridgeSea$Reader" "kind" "I") (List.mem_of_getElem? (i := 7) rfl)) (fun _ h9 => h9) rfl (by decide +kernel) rfl rfl (Nat.le_of_ble_eq_true rfl) dX5_readRun_177 (fun H locs hP hD hS => ?_)
              have hP : va_P (dC, dI) vwCl [(reader, .inr (5, [.ref rtape, .int (nI rlength), .int (nI rmostBytes), .int (nI k15), .int (nI 1), .int (nI rbegin), .int rword, .int x16, .long w17, .int rfaultKind, .int rfaultPlace])), (rtape, .inl (ky 2, 940, .inl rtapeF))] H := hP
              have hD : va_D A [(reader, .inr (5, [.ref rtape, .int (nI rlength), .int (nI rmostBytes), .int (nI k15), .int (nI 1), .int (nI rbegin), .int rword, .int x16, .long w17, .int rfaultKind, .int rfaultPlace])), (rtape, .inl (ky 2, 940, .inl rtapeF))] := hD
              rw [hQ]
              exact W.vret hx hb hr (fun t9 ht9 hW9 => ⟨⟨(k15, nI 1, x16, w17), rfl, ⟨j19, (lf_f_readRun_4 bt rlength rplace rbegin rtapeF k14 k15 x16 w17 n21 y25 iv_rreader_0 iv_rreader_1 iv_rreader_3 hTC hbp hpl hal j18 j19 jPl jRn jDc jNm jLt jLe hm23 c24 f27 c28 c29 c30), (lf_f_readRun_5 bt rlength rplace rbegin rtapeF k14 k15 x16 w17 n21 y25 iv_rreader_0 iv_rreader_1 iv_rreader_3 hTC hbp hpl hal j18 j19 jPl jRn jDc jNm jLt jLe hm23 c24 f27 c28 c29 c30), (lf_f_readRun_6 bt rlength rplace rbegin rtapeF k14 k15 x16 w17 n21 y25 iv_rreader_0 iv_rreader_1 iv_rreader_3 hTC hbp hpl hal j18 j19 jPl jRn jDc jNm jLt jLe hm23 c24 f27 c28 c29 c30)⟩, by rw [ht9]; exact hP, va_K.moved hW9.alike hK, hD⟩, hS.F ht9⟩) hS.2.2 dX5_readRun_180
            · refine lv_iconst (v := nI 3) hx hb dX5_readRun_172 (by decide) ?_
              refine lv_goto (tgt := 177) hx hb dX5_readRun_173 (by decide) ?_
              refine va_put (D := (dC, dI)) (ci := 5) (v := .int (nI 3)) (ty := .int) (C := RX5) (T := TX5) (N := 11) hx hb hts hin5 tyX5 tyX5_ok nmX5 hown hK hP hD hS 0 rfl rfl 4 (by decide) (hts (.fieldLink RX5 46 "PorridgeSea$Reader" "kind" "I") (List.mem_of_getElem? (i := 7) rfl)) (fun _ h9 => h9) rfl (by decide +kernel) rfl rfl (Nat.le_of_ble_eq_true rfl) dX5_readRun_177 (fun H locs hP hD hS => ?_)
              have hP : va_P (dC, dI) vwCl [(reader, .inr (5, [.ref rtape, .int (nI rlength), .int (nI rmostBytes), .int (nI k15), .int (nI 3), .int (nI rbegin), .int rword, .int x16, .long w17, .int rfaultKind, .int rfaultPlace])), (rtape, .inl (ky 2, 940, .inl rtapeF))] H := hP
              have hD : va_D A [(reader, .inr (5, [.ref rtape, .int (nI rlength), .int (nI rmostBytes), .int (nI k15), .int (nI 3), .int (nI rbegin), .int rword, .int x16, .long w17, .int rfaultKind, .int rfaultPlace])), (rtape, .inl (ky 2, 940, .inl rtapeF))] := hD
              rw [hQ]
              exact W.vret hx hb hr (fun t9 ht9 hW9 => ⟨⟨(k15, nI 3, x16, w17), rfl, ⟨j19, (lf_f_readRun_7 bt rlength rplace rbegin rtapeF k14 k15 x16 w17 n21 y25 iv_rreader_0 iv_rreader_1 iv_rreader_3 hTC hbp hpl hal j18 j19 jPl jRn jDc jNm jLt jLe hm23 c24 f27 c28 c29 c30), (lf_f_readRun_8 bt rlength rplace rbegin rtapeF k14 k15 x16 w17 n21 y25 iv_rreader_0 iv_rreader_1 iv_rreader_3 hTC hbp hpl hal j18 j19 jPl jRn jDc jNm jLt jLe hm23 c24 f27 c28 c29 c30), (lf_f_readRun_9 bt rlength rplace rbegin rtapeF k14 k15 x16 w17 n21 y25 iv_rreader_0 iv_rreader_1 iv_rreader_3 hTC hbp hpl hal j18 j19 jPl jRn jDc jNm jLt jLe hm23 c24 f27 c28 c29 c30)⟩, by rw [ht9]; exact hP, va_K.moved hW9.alike hK, hD⟩, hS.F ht9⟩) hS.2.2 dX5_readRun_180
        · refine lv_iload_n hx hb dX5_readRun_147 rfl (lv_at hl 0 rfl) ?_
          refine lv_bipush (v := nI 7) hx hb dX5_readRun_148 (by decide) ?_
          refine lv_icmp_gt (tgt := 161) hx hb dX5_readRun_150 (by decide) (fun c31 => ?_) (fun c31 => ?_)
          · refine lv_aload_n hx hb dX5_readRun_161 rfl (lv_at hl 2 rfl) ?_
            refine lv_iload_n hx hb dX5_readRun_162 rfl (lv_at hl 1 rfl) ?_
            refine lv_iload_n hx hb dX5_readRun_163 rfl (lv_at hl 0 rfl) ?_
            refine lv_icmp_ne (tgt := 176) hx hb dX5_readRun_164 (by decide) (fun c32 => ?_) (fun c32 => ?_)
            · refine lv_iconst (v := nI 1) hx hb dX5_readRun_176 (by decide) ?_
              refine va_put (D := (dC, dI)) (ci := 5) (v := .int (nI 1)) (ty := .int) (C := RX5) (T := TX5) (N := 11) hx hb hts hin5 tyX5 tyX5_ok nmX5 hown hK hP hD hS 0 rfl rfl 4 (by decide) (hts (.fieldLink RX5 46 "PorridgeSea$Reader" "kind" "I") (List.mem_of_getElem? (i := 7) rfl)) (fun _ h9 => h9) rfl (by decide +kernel) rfl rfl (Nat.le_of_ble_eq_true rfl) dX5_readRun_177 (fun H locs hP hD hS => ?_)
              have hP : va_P (dC, dI) vwCl [(reader, .inr (5, [.ref rtape, .int (nI rlength), .int (nI rmostBytes), .int (nI k15), .int (nI 1), .int (nI rbegin), .int rword, .int x16, .long w17, .int rfaultKind, .int rfaultPlace])), (rtape, .inl (ky 2, 940, .inl rtapeF))] H := hP
              have hD : va_D A [(reader, .inr (5, [.ref rtape, .int (nI rlength), .int (nI rmostBytes), .int (nI k15), .int (nI 1), .int (nI rbegin), .int rword, .int x16, .long w17, .int rfaultKind, .int rfaultPlace])), (rtape, .inl (ky 2, 940, .inl rtapeF))] := hD
              rw [hQ]
              exact W.vret hx hb hr (fun t9 ht9 hW9 => ⟨⟨(k15, nI 1, x16, w17), rfl, ⟨j19, (lf_f_readRun_10 bt rlength rplace rbegin rtapeF k14 k15 x16 w17 n21 y25 iv_rreader_0 iv_rreader_1 iv_rreader_3 hTC hbp hpl hal j18 j19 jPl jRn jDc jNm jLt jLe hm23 c24 f27 c28 c31 c32), (lf_f_readRun_11 bt rlength rplace rbegin rtapeF k14 k15 x16 w17 n21 y25 iv_rreader_0 iv_rreader_1 iv_rreader_3 hTC hbp hpl hal j18 j19 jPl jRn jDc jNm jLt jLe hm23 c24 f27 c28 c31 c32), (lf_f_readRun_12 bt rlength rplace rbegin rtapeF k14 k15 x16 w17 n21 y25 iv_rreader_0 iv_rreader_1 iv_rreader_3 hTC hbp hpl hal j18 j19 jPl jRn jDc jNm jLt jLe hm23 c24 f27 c28 c31 c32)⟩, by rw [ht9]; exact hP, va_K.moved hW9.alike hK, hD⟩, hS.F ht9⟩) hS.2.2 dX5_readRun_180
            · refine lv_iload_n hx hb dX5_readRun_167 rfl (lv_at hl 0 rfl) ?_
              refine lv_iconst (v := nI 3) hx hb dX5_readRun_168 (by decide) ?_
              refine lv_icmp_gt (tgt := 176) hx hb dX5_readRun_169 (by decide) (fun c33 => ?_) (fun c33 => ?_)
              · refine lv_iconst (v := nI 1) hx hb dX5_readRun_176 (by decide) ?_
                refine va_put (D := (dC, dI)) (ci := 5) (v := .int (nI 1)) (ty := .int) (C := RX5) (T := TX5) (N := 11) hx hb hts hin5 tyX5 tyX5_ok nmX5 hown hK hP hD hS 0 rfl rfl 4 (by decide) (hts (.fieldLink RX5 46 "PorridgeSea$Reader" "kind" "I") (List.mem_of_getElem? (i := 7) rfl)) (fun _ h9 => h9) rfl (by decide +kernel) rfl rfl (Nat.le_of_ble_eq_true rfl) dX5_readRun_177 (fun H locs hP hD hS => ?_)
                have hP : va_P (dC, dI) vwCl [(reader, .inr (5, [.ref rtape, .int (nI rlength), .int (nI rmostBytes), .int (nI k15), .int (nI 1), .int (nI rbegin), .int rword, .int x16, .long w17, .int rfaultKind, .int rfaultPlace])), (rtape, .inl (ky 2, 940, .inl rtapeF))] H := hP
                have hD : va_D A [(reader, .inr (5, [.ref rtape, .int (nI rlength), .int (nI rmostBytes), .int (nI k15), .int (nI 1), .int (nI rbegin), .int rword, .int x16, .long w17, .int rfaultKind, .int rfaultPlace])), (rtape, .inl (ky 2, 940, .inl rtapeF))] := hD
                rw [hQ]
                exact W.vret hx hb hr (fun t9 ht9 hW9 => ⟨⟨(k15, nI 1, x16, w17), rfl, ⟨j19, (lf_f_readRun_13 bt rlength rplace rbegin rtapeF k14 k15 x16 w17 n21 y25 iv_rreader_0 iv_rreader_1 iv_rreader_3 hTC hbp hpl hal j18 j19 jPl jRn jDc jNm jLt jLe hm23 c24 f27 c28 c31 c32 c33), (lf_f_readRun_14 bt rlength rplace rbegin rtapeF k14 k15 x16 w17 n21 y25 iv_rreader_0 iv_rreader_1 iv_rreader_3 hTC hbp hpl hal j18 j19 jPl jRn jDc jNm jLt jLe hm23 c24 f27 c28 c31 c32 c33), (lf_f_readRun_15 bt rlength rplace rbegin rtapeF k14 k15 x16 w17 n21 y25 iv_rreader_0 iv_rreader_1 iv_rreader_3 hTC hbp hpl hal j18 j19 jPl jRn jDc jNm jLt jLe hm23 c24 f27 c28 c31 c32 c33)⟩, by rw [ht9]; exact hP, va_K.moved hW9.alike hK, hD⟩, hS.F ht9⟩) hS.2.2 dX5_readRun_180
              · refine lv_iconst (v := nI 3) hx hb dX5_readRun_172 (by decide) ?_
                refine lv_goto (tgt := 177) hx hb dX5_readRun_173 (by decide) ?_
                refine va_put (D := (dC, dI)) (ci := 5) (v := .int (nI 3)) (ty := .int) (C := RX5) (T := TX5) (N := 11) hx hb hts hin5 tyX5 tyX5_ok nmX5 hown hK hP hD hS 0 rfl rfl 4 (by decide) (hts (.fieldLink RX5 46 "PorridgeSea$Reader" "kind" "I") (List.mem_of_getElem? (i := 7) rfl)) (fun _ h9 => h9) rfl (by decide +kernel) rfl rfl (Nat.le_of_ble_eq_true rfl) dX5_readRun_177 (fun H locs hP hD hS => ?_)
                have hP : va_P (dC, dI) vwCl [(reader, .inr (5, [.ref rtape, .int (nI rlength), .int (nI rmostBytes), .int (nI k15), .int (nI 3), .int (nI rbegin), .int rword, .int x16, .long w17, .int rfaultKind, .int rfaultPlace])), (rtape, .inl (ky 2, 940, .inl rtapeF))] H := hP
                have hD : va_D A [(reader, .inr (5, [.ref rtape, .int (nI rlength), .int (nI rmostBytes), .int (nI k15), .int (nI 3), .int (nI rbegin), .int rword, .int x16, .long w17, .int rfaultKind, .int rfaultPlace])), (rtape, .inl (ky 2, 940, .inl rtapeF))] := hD
                rw [hQ]
                exact W.vret hx hb hr (fun t9 ht9 hW9 => ⟨⟨(k15, nI 3, x16, w17), rfl, ⟨j19, (lf_f_readRun_16 bt rlength rplace rbegin rtapeF k14 k15 x16 w17 n21 y25 iv_rreader_0 iv_rreader_1 iv_rreader_3 hTC hbp hpl hal j18 j19 jPl jRn jDc jNm jLt jLe hm23 c24 f27 c28 c31 c32 c33), (lf_f_readRun_17 bt rlength rplace rbegin rtapeF k14 k15 x16 w17 n21 y25 iv_rreader_0 iv_rreader_1 iv_rreader_3 hTC hbp hpl hal j18 j19 jPl jRn jDc jNm jLt jLe hm23 c24 f27 c28 c31 c32 c33), (lf_f_readRun_18 bt rlength rplace rbegin rtapeF k14 k15 x16 w17 n21 y25 iv_rreader_0 iv_rreader_1 iv_rreader_3 hTC hbp hpl hal j18 j19 jPl jRn jDc jNm jLt jLe hm23 c24 f27 c28 c31 c32 c33)⟩, by rw [ht9]; exact hP, va_K.moved hW9.alike hK, hD⟩, hS.F ht9⟩) hS.2.2 dX5_readRun_180
          · refine lv_aload_n hx hb dX5_readRun_153 rfl (lv_at hl 2 rfl) ?_
            refine lv_iconst (v := nI 2) hx hb dX5_readRun_154 (by decide) ?_
            refine va_put (D := (dC, dI)) (ci := 5) (v := .int (nI 2)) (ty := .int) (C := RX5) (T := TX5) (N := 11) hx hb hts hin5 tyX5 tyX5_ok nmX5 hown hK hP hD hS 0 rfl rfl 4 (by decide) (hts (.fieldLink RX5 46 "PorridgeSea$Reader" "kind" "I") (List.mem_of_getElem? (i := 7) rfl)) (fun _ h9 => h9) rfl (by decide +kernel) rfl rfl (Nat.le_of_ble_eq_true rfl) dX5_readRun_155 (fun H locs hP hD hS => ?_)
            have hP : va_P (dC, dI) vwCl [(reader, .inr (5, [.ref rtape, .int (nI rlength), .int (nI rmostBytes), .int (nI k15), .int (nI 2), .int (nI rbegin), .int rword, .int x16, .long w17, .int rfaultKind, .int rfaultPlace])), (rtape, .inl (ky 2, 940, .inl rtapeF))] H := hP
            have hD : va_D A [(reader, .inr (5, [.ref rtape, .int (nI rlength), .int (nI rmostBytes), .int (nI k15), .int (nI 2), .int (nI rbegin), .int rword, .int x16, .long w17, .int rfaultKind, .int rfaultPlace])), (rtape, .inl (ky 2, 940, .inl rtapeF))] := hD
            refine lv_goto (tgt := 180) hx hb dX5_readRun_158 (by decide) ?_
            rw [hQ]
            exact W.vret hx hb hr (fun t9 ht9 hW9 => ⟨⟨(k15, nI 2, x16, w17), rfl, ⟨j19, (lf_f_readRun_19 bt rlength rplace rbegin rtapeF k14 k15 x16 w17 n21 y25 iv_rreader_0 iv_rreader_1 iv_rreader_3 hTC hbp hpl hal j18 j19 jPl jRn jDc jNm jLt jLe hm23 c24 f27 c28 c31), (lf_f_readRun_20 bt rlength rplace rbegin rtapeF k14 k15 x16 w17 n21 y25 iv_rreader_0 iv_rreader_1 iv_rreader_3 hTC hbp hpl hal j18 j19 jPl jRn jDc jNm jLt jLe hm23 c24 f27 c28 c31), (lf_f_readRun_21 bt rlength rplace rbegin rtapeF k14 k15 x16 w17 n21 y25 iv_rreader_0 iv_rreader_1 iv_rreader_3 hTC hbp hpl hal j18 j19 jPl jRn jDc jNm jLt jLe hm23 c24 f27 c28 c31)⟩, by rw [ht9]; exact hP, va_K.moved hW9.alike hK, hD⟩, hS.F ht9⟩) hS.2.2 dX5_readRun_180
      · refine lv_aload_n hx hb dX5_readRun_23 rfl (lv_at hl 1 rfl) ?_
        refine va_get (D := (dC, dI)) (ci := 5) (v := .ref rtape) (C := RX5) (T := TX5) (N := 11) hx hb hts hin5 hown hK hP 0 rfl rfl 0 (by decide) (hts (.fieldLink RX5 9 "PorridgeSea$Reader" "tape" "[B") (List.mem_of_getElem? (i := 5) rfl)) (fun _ h9 => h9) rfl dX5_readRun_24 ?_
        refine lv_aload_n hx hb dX5_readRun_27 rfl (lv_at hl 1 rfl) ?_
        refine va_get (D := (dC, dI)) (ci := 5) (v := .int (nI k15)) (C := RX5) (T := TX5) (N := 11) hx hb hts hin5 hown hK hP 0 rfl rfl 3 (by decide) (hts (.fieldLink RX5 28 "PorridgeSea$Reader" "place" "I") (List.mem_of_getElem? (i := 3) rfl)) (fun _ h9 => h9) rfl dX5_readRun_28 ?_
        obtain ⟨y34, e35⟩ : ∃ z9, z9 = rtapeF k15 := ⟨_, rfl⟩
        refine r_bald hx hb hK hP 1 rfl k15 (by omega) (by decide) y34 e35.symm dX5_readRun_31 ?_
        obtain ⟨t36, t37⟩ : bt k15 < 256 ∧ (y34.toInt = ((bt k15 : Nat) : Int) ∨ (128 ≤ bt k15 ∧ y34.toInt = ((bt k15 : Nat) : Int) - 256)) := by rw [e35]; exact hTC k15 (by omega)
        refine vp_callSi (W.runS (As := [.int y34]) (rest := []) ⟨hx, hb, hml, hown, hts⟩ (c_f_isLetter l dC dI ky y34) (va_cwS 1 hts gX5_readRun_X5_isLetter rfl rfl rfl (by decide +kernel) ⟨(Nat.le_of_ble_eq_true rfl), (Nat.le_of_ble_eq_true rfl)⟩) (pre_PS hK hP [] rfl) rfl rfl hl.1 rfl (lv_room (Nat.le_of_ble_eq_true rfl)) dX5_readRun_32 ⟨(Nat.le_of_ble_eq_true rfl), (Nat.le_of_ble_eq_true rfl)⟩) (fun r38 p39 => ?_)
        rcases p39 with ⟨rfl, t40, t41⟩ | ⟨rfl, t42⟩
        · refine lv_if_ne (tgt := 53) hx hb dX5_readRun_35 (by decide) (fun c43 => ?_) (fun c43 => absurd c43 (by decide))
          refine lv_aload_n hx hb dX5_readRun_53 rfl (lv_at hl 1 rfl) ?_
          refine va_get (D := (dC, dI)) (ci := 5) (v := .ref rtape) (C := RX5) (T := TX5) (N := 11) hx hb hts hin5 hown hK hP 0 rfl rfl 0 (by decide) (hts (.fieldLink RX5 9 "PorridgeSea$Reader" "tape" "[B") (List.mem_of_getElem? (i := 5) rfl)) (fun _ h9 => h9) rfl dX5_readRun_54 ?_
          refine lv_aload_n hx hb dX5_readRun_57 rfl (lv_at hl 1 rfl) ?_
          refine va_get (D := (dC, dI)) (ci := 5) (v := .int (nI k15)) (C := RX5) (T := TX5) (N := 11) hx hb hts hin5 hown hK hP 0 rfl rfl 3 (by decide) (hts (.fieldLink RX5 28 "PorridgeSea$Reader" "place" "I") (List.mem_of_getElem? (i := 3) rfl)) (fun _ h9 => h9) rfl dX5_readRun_58 ?_
          obtain ⟨y44, e45⟩ : ∃ z9, z9 = rtapeF k15 := ⟨_, rfl⟩
          refine r_bald hx hb hK hP 1 rfl k15 (by omega) (by decide) y44 e45.symm dX5_readRun_61 ?_
          obtain ⟨t46, t47⟩ : bt k15 < 256 ∧ (y44.toInt = ((bt k15 : Nat) : Int) ∨ (128 ≤ bt k15 ∧ y44.toInt = ((bt k15 : Nat) : Int) - 256)) := by rw [e45]; exact hTC k15 (by omega)
          refine vp_callSi (W.runS (As := [.int y44]) (rest := []) ⟨hx, hb, hml, hown, hts⟩ (c_f_isDigit l dC dI ky y44) (va_cwS 1 hts gX5_readRun_X5_isDigit rfl rfl rfl (by decide +kernel) ⟨(Nat.le_of_ble_eq_true rfl), (Nat.le_of_ble_eq_true rfl)⟩) (pre_PS hK hP [] rfl) rfl rfl hl.1 rfl (lv_room (Nat.le_of_ble_eq_true rfl)) dX5_readRun_62 ⟨(Nat.le_of_ble_eq_true rfl), (Nat.le_of_ble_eq_true rfl)⟩) (fun r48 p49 => ?_)
          rcases p49 with ⟨rfl, t50, t51⟩ | ⟨rfl, t52⟩
          · refine lv_if_eq (tgt := 98) hx hb dX5_readRun_65 (by decide) (fun c53 => absurd c53 (by decide)) (fun c53 => ?_)
            refine lv_iinc (v := nI (k14 + 1)) (lv' := [(1, .int (nI (k14 + 1))), (0, .ref reader)]) hx hb dX5_readRun_68 hl (k := 0) rfl (show nI k14 + nI 1 = nI (k14 + 1) from nI_add _ _) (by decide) rfl (fun ls hl => ?_)
            refine lv_aload_n hx hb dX5_readRun_71 rfl (lv_at hl 1 rfl) ?_
            refine lv_bipush (v := nI 10) hx hb dX5_readRun_72 (by decide) ?_
            refine lv_aload_n hx hb dX5_readRun_74 rfl (lv_at hl 1 rfl) ?_
            refine va_get (D := (dC, dI)) (ci := 5) (v := .int x16) (C := RX5) (T := TX5) (N := 11) hx hb hts hin5 hown hK hP 0 rfl rfl 7 (by decide) (hts (.fieldLink RX5 76 "PorridgeSea$Reader" "number" "I") (List.mem_of_getElem? (i := 2) rfl)) (fun _ h9 => h9) rfl dX5_readRun_75 ?_
            refine lv_imul hx hb dX5_readRun_78 ?_
            refine lv_topi (fun y54 e55 => ?_)
            refine lv_aload_n hx hb dX5_readRun_79 rfl (lv_at hl 1 rfl) ?_
            refine va_get (D := (dC, dI)) (ci := 5) (v := .ref rtape) (C := RX5) (T := TX5) (N := 11) hx hb hts hin5 hown hK hP 0 rfl rfl 0 (by decide) (hts (.fieldLink RX5 9 "PorridgeSea$Reader" "tape" "[B") (List.mem_of_getElem? (i := 5) rfl)) (fun _ h9 => h9) rfl dX5_readRun_80 ?_
            refine lv_aload_n hx hb dX5_readRun_83 rfl (lv_at hl 1 rfl) ?_
            refine va_get (D := (dC, dI)) (ci := 5) (v := .int (nI k15)) (C := RX5) (T := TX5) (N := 11) hx hb hts hin5 hown hK hP 0 rfl rfl 3 (by decide) (hts (.fieldLink RX5 28 "PorridgeSea$Reader" "place" "I") (List.mem_of_getElem? (i := 3) rfl)) (fun _ h9 => h9) rfl dX5_readRun_84 ?_
            obtain ⟨y56, e57⟩ : ∃ z9, z9 = rtapeF k15 := ⟨_, rfl⟩
            refine r_bald hx hb hK hP 1 rfl k15 (by omega) (by decide) y56 e57.symm dX5_readRun_87 ?_
            obtain ⟨t58, t59⟩ : bt k15 < 256 ∧ (y56.toInt = ((bt k15 : Nat) : Int) ∨ (128 ≤ bt k15 ∧ y56.toInt = ((bt k15 : Nat) : Int) - 256)) := by rw [e57]; exact hTC k15 (by omega)
            refine lv_iadd hx hb dX5_readRun_88 ?_
            refine lv_topi (fun y60 e61 => ?_)
            refine lv_bipush (v := nI 48) hx hb dX5_readRun_89 (by decide) ?_
            refine lv_isub hx hb dX5_readRun_91 ?_
            refine lv_topi (fun y62 e63 => ?_)
            refine va_put (D := (dC, dI)) (ci := 5) (v := .int y62) (ty := .int) (C := RX5) (T := TX5) (N := 11) hx hb hts hin5 tyX5 tyX5_ok nmX5 hown hK hP hD hS 0 rfl rfl 7 (by decide) (hts (.fieldLink RX5 76 "PorridgeSea$Reader" "number" "I") (List.mem_of_getElem? (i := 2) rfl)) (fun _ h9 => h9) rfl (by decide +kernel) rfl rfl (Nat.le_of_ble_eq_true rfl) dX5_readRun_92 (fun H locs hP hD hS => ?_)
            have hP : va_P (dC, dI) vwCl [(reader, .inr (5, [.ref rtape, .int (nI rlength), .int (nI rmostBytes), .int (nI k15), .int rkind, .int (nI rbegin), .int rword, .int y62, .long w17, .int rfaultKind, .int rfaultPlace])), (rtape, .inl (ky 2, 940, .inl rtapeF))] H := hP
            have hD : va_D A [(reader, .inr (5, [.ref rtape, .int (nI rlength), .int (nI rmostBytes), .int (nI k15), .int rkind, .int (nI rbegin), .int rword, .int y62, .long w17, .int rfaultKind, .int rfaultPlace])), (rtape, .inl (ky 2, 940, .inl rtapeF))] := hD
            refine lv_goto (tgt := 120) hx hb dX5_readRun_95 (by decide) ?_
            refine lv_aload_n hx hb dX5_readRun_120 rfl (lv_at hl 1 rfl) ?_
            refine lv_dup hx hb dX5_readRun_121 rfl ?_
            refine va_get (D := (dC, dI)) (ci := 5) (v := .int (nI k15)) (C := RX5) (T := TX5) (N := 11) hx hb hts hin5 hown hK hP 0 rfl rfl 3 (by decide) (hts (.fieldLink RX5 28 "PorridgeSea$Reader" "place" "I") (List.mem_of_getElem? (i := 3) rfl)) (fun _ h9 => h9) rfl dX5_readRun_122 ?_
            refine lv_iconst (v := nI 1) hx hb dX5_readRun_125 (by decide) ?_
            refine lv_iadd hx hb dX5_readRun_126 ?_
            refine r_ti (nI (k15 + 1)) (nI_add _ _) ?_
            refine va_put (D := (dC, dI)) (ci := 5) (v := .int (nI (k15 + 1))) (ty := .int) (C := RX5) (T := TX5) (N := 11) hx hb hts hin5 tyX5 tyX5_ok nmX5 hown hK hP hD hS 0 rfl rfl 3 (by decide) (hts (.fieldLink RX5 28 "PorridgeSea$Reader" "place" "I") (List.mem_of_getElem? (i := 3) rfl)) (fun _ h9 => h9) rfl (by decide +kernel) rfl rfl (Nat.le_of_ble_eq_true rfl) dX5_readRun_127 (fun H locs hP hD hS => ?_)
            have hP : va_P (dC, dI) vwCl [(reader, .inr (5, [.ref rtape, .int (nI rlength), .int (nI rmostBytes), .int (nI (k15 + 1)), .int rkind, .int (nI rbegin), .int rword, .int y62, .long w17, .int rfaultKind, .int rfaultPlace])), (rtape, .inl (ky 2, 940, .inl rtapeF))] H := hP
            have hD : va_D A [(reader, .inr (5, [.ref rtape, .int (nI rlength), .int (nI rmostBytes), .int (nI (k15 + 1)), .int rkind, .int (nI rbegin), .int rword, .int y62, .long w17, .int rfaultKind, .int rfaultPlace])), (rtape, .inl (ky 2, 940, .inl rtapeF))] := hD
            refine lv_goto (tgt := 12) hx hb dX5_readRun_130 (by decide) ?_
            exact ih22 (k14 + 1) (k15 + 1) y62 w17 (lf_f_readRun_22 bt rlength rplace rbegin rtapeF k14 k15 x16 w17 n21 y34 y44 y54 y56 y60 y62 iv_rreader_0 iv_rreader_1 iv_rreader_3 hTC hbp hpl hal j18 j19 jPl jRn jDc jNm jLt jLe hm23 c24 e35 t36 t37 t40 t41 e45 t46 t47 t50 t51 e55 e57 t58 t59 e61 e63) (lf_f_readRun_23 bt rlength rplace rbegin rtapeF k14 k15 x16 w17 n21 y34 y44 y54 y56 y60 y62 iv_rreader_0 iv_rreader_1 iv_rreader_3 hTC hbp hpl hal j18 j19 jPl jRn jDc jNm jLt jLe hm23 c24 e35 t36 t37 t40 t41 e45 t46 t47 t50 t51 e55 e57 t58 t59 e61 e63) (lf_f_readRun_24 bt rlength rplace rbegin rtapeF k14 k15 x16 w17 n21 y34 y44 y54 y56 y60 y62 iv_rreader_0 iv_rreader_1 iv_rreader_3 hTC hbp hpl hal j18 j19 jPl jRn jDc jNm jLt jLe hm23 c24 e35 t36 t37 t40 t41 e45 t46 t47 t50 t51 e55 e57 t58 t59 e61 e63) (lf_f_readRun_25 bt rlength rplace rbegin rtapeF k14 k15 x16 w17 n21 y34 y44 y54 y56 y60 y62 iv_rreader_0 iv_rreader_1 iv_rreader_3 hTC hbp hpl hal j18 j19 jPl jRn jDc jNm jLt jLe hm23 c24 e35 t36 t37 t40 t41 e45 t46 t47 t50 t51 e55 e57 t58 t59 e61 e63) (lf_f_readRun_26 bt rlength rplace rbegin rtapeF k14 k15 x16 w17 n21 y34 y44 y54 y56 y60 y62 iv_rreader_0 iv_rreader_1 iv_rreader_3 hTC hbp hpl hal j18 j19 jPl jRn jDc jNm jLt jLe hm23 c24 e35 t36 t37 t40 t41 e45 t46 t47 t50 t51 e55 e57 t58 t59 e61 e63) (lf_f_readRun_27 bt rlength rplace rbegin rtapeF k14 k15 x16 w17 n21 y34 y44 y54 y56 y60 y62 iv_rreader_0 iv_rreader_1 iv_rreader_3 hTC hbp hpl hal j18 j19 jPl jRn jDc jNm jLt jLe hm23 c24 e35 t36 t37 t40 t41 e45 t46 t47 t50 t51 e55 e57 t58 t59 e61 e63) (lf_f_readRun_28 bt rlength rplace rbegin rtapeF k14 k15 x16 w17 n21 y34 y44 y54 y56 y60 y62 iv_rreader_0 iv_rreader_1 iv_rreader_3 hTC hbp hpl hal j18 j19 jPl jRn jDc jNm jLt jLe hm23 c24 e35 t36 t37 t40 t41 e45 t46 t47 t50 t51 e55 e57 t58 t59 e61 e63) (lf_f_readRun_29 bt rlength rplace rbegin rtapeF k14 k15 x16 w17 n21 y34 y44 y54 y56 y60 y62 iv_rreader_0 iv_rreader_1 iv_rreader_3 hTC hbp hpl hal j18 j19 jPl jRn jDc jNm jLt jLe hm23 c24 e35 t36 t37 t40 t41 e45 t46 t47 t50 t51 e55 e57 t58 t59 e61 e63) (lf_f_readRun_30 bt rlength rplace rbegin rtapeF k14 k15 x16 w17 n21 y34 y44 y54 y56 y60 y62 iv_rreader_0 iv_rreader_1 iv_rreader_3 hTC hbp hpl hal j18 j19 jPl jRn jDc jNm jLt jLe hm23 c24 e35 t36 t37 t40 t41 e45 t46 t47 t50 t51 e55 e57 t58 t59 e61 e63) _ _ _ hP hD hS (lv_sub hl [0, 1] rfl)
          · refine lv_if_eq (tgt := 98) hx hb dX5_readRun_65 (by decide) (fun c64 => ?_) (fun c64 => absurd (by decide) c64)
            refine lv_aload_n hx hb dX5_readRun_98 rfl (lv_at hl 1 rfl) ?_
            refine lv_aload_n hx hb dX5_readRun_99 rfl (lv_at hl 1 rfl) ?_
            refine va_get (D := (dC, dI)) (ci := 5) (v := .long w17) (C := RX5) (T := TX5) (N := 11) hx hb hts hin5 hown hK hP 0 rfl rfl 8 (by decide) (hts (.fieldLink RX5 72 "PorridgeSea$Reader" "letters" "J") (List.mem_of_getElem? (i := 1) rfl)) (fun _ h9 => h9) rfl dX5_readRun_100 ?_
            refine lv_bipush (v := nI 8) hx hb dX5_readRun_103 (by decide) ?_
            obtain ⟨w65, e66⟩ : ∃ z9 : Int64, z9 = w17 <<< ((nI 8).toInt64 &&& 63) := ⟨_, rfl⟩
            refine lv_lshl (v := w65) hx hb dX5_readRun_105 e66.symm ?_
            refine lv_aload_n hx hb dX5_readRun_106 rfl (lv_at hl 1 rfl) ?_
            refine va_get (D := (dC, dI)) (ci := 5) (v := .ref rtape) (C := RX5) (T := TX5) (N := 11) hx hb hts hin5 hown hK hP 0 rfl rfl 0 (by decide) (hts (.fieldLink RX5 9 "PorridgeSea$Reader" "tape" "[B") (List.mem_of_getElem? (i := 5) rfl)) (fun _ h9 => h9) rfl dX5_readRun_107 ?_
            refine lv_aload_n hx hb dX5_readRun_110 rfl (lv_at hl 1 rfl) ?_
            refine va_get (D := (dC, dI)) (ci := 5) (v := .int (nI k15)) (C := RX5) (T := TX5) (N := 11) hx hb hts hin5 hown hK hP 0 rfl rfl 3 (by decide) (hts (.fieldLink RX5 28 "PorridgeSea$Reader" "place" "I") (List.mem_of_getElem? (i := 3) rfl)) (fun _ h9 => h9) rfl dX5_readRun_111 ?_
            obtain ⟨y67, e68⟩ : ∃ z9, z9 = rtapeF k15 := ⟨_, rfl⟩
            refine r_bald hx hb hK hP 1 rfl k15 (by omega) (by decide) y67 e68.symm dX5_readRun_114 ?_
            obtain ⟨t69, t70⟩ : bt k15 < 256 ∧ (y67.toInt = ((bt k15 : Nat) : Int) ∨ (128 ≤ bt k15 ∧ y67.toInt = ((bt k15 : Nat) : Int) - 256)) := by rw [e68]; exact hTC k15 (by omega)
            obtain ⟨w71, e72⟩ : ∃ z9 : Int64, z9 = (y67).toInt64 := ⟨_, rfl⟩
            refine lv_i2l (v := w71) hx hb dX5_readRun_115 e72.symm ?_
            refine lv_lor hx hb dX5_readRun_116 ?_
            refine lv_topl (fun w73 e74 => ?_)
            refine va_put (D := (dC, dI)) (ci := 5) (v := .long w73) (ty := .long) (C := RX5) (T := TX5) (N := 11) hx hb hts hin5 tyX5 tyX5_ok nmX5 hown hK hP hD hS 0 rfl rfl 8 (by decide) (hts (.fieldLink RX5 72 "PorridgeSea$Reader" "letters" "J") (List.mem_of_getElem? (i := 1) rfl)) (fun _ h9 => h9) rfl (by decide +kernel) rfl rfl (Nat.le_of_ble_eq_true rfl) dX5_readRun_117 (fun H locs hP hD hS => ?_)
            have hP : va_P (dC, dI) vwCl [(reader, .inr (5, [.ref rtape, .int (nI rlength), .int (nI rmostBytes), .int (nI k15), .int rkind, .int (nI rbegin), .int rword, .int x16, .long w73, .int rfaultKind, .int rfaultPlace])), (rtape, .inl (ky 2, 940, .inl rtapeF))] H := hP
            have hD : va_D A [(reader, .inr (5, [.ref rtape, .int (nI rlength), .int (nI rmostBytes), .int (nI k15), .int rkind, .int (nI rbegin), .int rword, .int x16, .long w73, .int rfaultKind, .int rfaultPlace])), (rtape, .inl (ky 2, 940, .inl rtapeF))] := hD
            refine lv_aload_n hx hb dX5_readRun_120 rfl (lv_at hl 1 rfl) ?_
            refine lv_dup hx hb dX5_readRun_121 rfl ?_
            refine va_get (D := (dC, dI)) (ci := 5) (v := .int (nI k15)) (C := RX5) (T := TX5) (N := 11) hx hb hts hin5 hown hK hP 0 rfl rfl 3 (by decide) (hts (.fieldLink RX5 28 "PorridgeSea$Reader" "place" "I") (List.mem_of_getElem? (i := 3) rfl)) (fun _ h9 => h9) rfl dX5_readRun_122 ?_
            refine lv_iconst (v := nI 1) hx hb dX5_readRun_125 (by decide) ?_
            refine lv_iadd hx hb dX5_readRun_126 ?_
            refine r_ti (nI (k15 + 1)) (nI_add _ _) ?_
            refine va_put (D := (dC, dI)) (ci := 5) (v := .int (nI (k15 + 1))) (ty := .int) (C := RX5) (T := TX5) (N := 11) hx hb hts hin5 tyX5 tyX5_ok nmX5 hown hK hP hD hS 0 rfl rfl 3 (by decide) (hts (.fieldLink RX5 28 "PorridgeSea$Reader" "place" "I") (List.mem_of_getElem? (i := 3) rfl)) (fun _ h9 => h9) rfl (by decide +kernel) rfl rfl (Nat.le_of_ble_eq_true rfl) dX5_readRun_127 (fun H locs hP hD hS => ?_)
            have hP : va_P (dC, dI) vwCl [(reader, .inr (5, [.ref rtape, .int (nI rlength), .int (nI rmostBytes), .int (nI (k15 + 1)), .int rkind, .int (nI rbegin), .int rword, .int x16, .long w73, .int rfaultKind, .int rfaultPlace])), (rtape, .inl (ky 2, 940, .inl rtapeF))] H := hP
            have hD : va_D A [(reader, .inr (5, [.ref rtape, .int (nI rlength), .int (nI rmostBytes), .int (nI (k15 + 1)), .int rkind, .int (nI rbegin), .int rword, .int x16, .long w73, .int rfaultKind, .int rfaultPlace])), (rtape, .inl (ky 2, 940, .inl rtapeF))] := hD
            refine lv_goto (tgt := 12) hx hb dX5_readRun_130 (by decide) ?_
            exact ih22 k14 (k15 + 1) x16 w73 (lf_f_readRun_31 bt rlength rplace rbegin rtapeF k14 k15 x16 w17 n21 y34 y44 w65 y67 w71 w73 iv_rreader_0 iv_rreader_1 iv_rreader_3 hTC hbp hpl hal j18 j19 jPl jRn jDc jNm jLt jLe hm23 c24 e35 t36 t37 t40 t41 e45 t46 t47 t52 e66 e68 t69 t70 e72 e74) (lf_f_readRun_32 bt rlength rplace rbegin rtapeF k14 k15 x16 w17 n21 y34 y44 w65 y67 w71 w73 iv_rreader_0 iv_rreader_1 iv_rreader_3 hTC hbp hpl hal j18 j19 jPl jRn jDc jNm jLt jLe hm23 c24 e35 t36 t37 t40 t41 e45 t46 t47 t52 e66 e68 t69 t70 e72 e74) (lf_f_readRun_33 bt rlength rplace rbegin rtapeF k14 k15 x16 w17 n21 y34 y44 w65 y67 w71 w73 iv_rreader_0 iv_rreader_1 iv_rreader_3 hTC hbp hpl hal j18 j19 jPl jRn jDc jNm jLt jLe hm23 c24 e35 t36 t37 t40 t41 e45 t46 t47 t52 e66 e68 t69 t70 e72 e74) (lf_f_readRun_34 bt rlength rplace rbegin rtapeF k14 k15 x16 w17 n21 y34 y44 w65 y67 w71 w73 iv_rreader_0 iv_rreader_1 iv_rreader_3 hTC hbp hpl hal j18 j19 jPl jRn jDc jNm jLt jLe hm23 c24 e35 t36 t37 t40 t41 e45 t46 t47 t52 e66 e68 t69 t70 e72 e74) (lf_f_readRun_35 bt rlength rplace rbegin rtapeF k14 k15 x16 w17 n21 y34 y44 w65 y67 w71 w73 iv_rreader_0 iv_rreader_1 iv_rreader_3 hTC hbp hpl hal j18 j19 jPl jRn jDc jNm jLt jLe hm23 c24 e35 t36 t37 t40 t41 e45 t46 t47 t52 e66 e68 t69 t70 e72 e74) (lf_f_readRun_36 bt rlength rplace rbegin rtapeF k14 k15 x16 w17 n21 y34 y44 w65 y67 w71 w73 iv_rreader_0 iv_rreader_1 iv_rreader_3 hTC hbp hpl hal j18 j19 jPl jRn jDc jNm jLt jLe hm23 c24 e35 t36 t37 t40 t41 e45 t46 t47 t52 e66 e68 t69 t70 e72 e74) (lf_f_readRun_37 bt rlength rplace rbegin rtapeF k14 k15 x16 w17 n21 y34 y44 w65 y67 w71 w73 iv_rreader_0 iv_rreader_1 iv_rreader_3 hTC hbp hpl hal j18 j19 jPl jRn jDc jNm jLt jLe hm23 c24 e35 t36 t37 t40 t41 e45 t46 t47 t52 e66 e68 t69 t70 e72 e74) (lf_f_readRun_38 bt rlength rplace rbegin rtapeF k14 k15 x16 w17 n21 y34 y44 w65 y67 w71 w73 iv_rreader_0 iv_rreader_1 iv_rreader_3 hTC hbp hpl hal j18 j19 jPl jRn jDc jNm jLt jLe hm23 c24 e35 t36 t37 t40 t41 e45 t46 t47 t52 e66 e68 t69 t70 e72 e74) (lf_f_readRun_39 bt rlength rplace rbegin rtapeF k14 k15 x16 w17 n21 y34 y44 w65 y67 w71 w73 iv_rreader_0 iv_rreader_1 iv_rreader_3 hTC hbp hpl hal j18 j19 jPl jRn jDc jNm jLt jLe hm23 c24 e35 t36 t37 t40 t41 e45 t46 t47 t52 e66 e68 t69 t70 e72 e74) _ _ _ hP hD hS (lv_sub hl [0, 1] rfl)
        · refine lv_if_ne (tgt := 53) hx hb dX5_readRun_35 (by decide) (fun c75 => absurd c75 (by decide)) (fun c75 => ?_)
          refine lv_aload_n hx hb dX5_readRun_38 rfl (lv_at hl 1 rfl) ?_
          refine va_get (D := (dC, dI)) (ci := 5) (v := .ref rtape) (C := RX5) (T := TX5) (N := 11) hx hb hts hin5 hown hK hP 0 rfl rfl 0 (by decide) (hts (.fieldLink RX5 9 "PorridgeSea$Reader" "tape" "[B") (List.mem_of_getElem? (i := 5) rfl)) (fun _ h9 => h9) rfl dX5_readRun_39 ?_
          refine lv_aload_n hx hb dX5_readRun_42 rfl (lv_at hl 1 rfl) ?_
          refine va_get (D := (dC, dI)) (ci := 5) (v := .int (nI k15)) (C := RX5) (T := TX5) (N := 11) hx hb hts hin5 hown hK hP 0 rfl rfl 3 (by decide) (hts (.fieldLink RX5 28 "PorridgeSea$Reader" "place" "I") (List.mem_of_getElem? (i := 3) rfl)) (fun _ h9 => h9) rfl dX5_readRun_43 ?_
          obtain ⟨y76, e77⟩ : ∃ z9, z9 = rtapeF k15 := ⟨_, rfl⟩
          refine r_bald hx hb hK hP 1 rfl k15 (by omega) (by decide) y76 e77.symm dX5_readRun_46 ?_
          obtain ⟨t78, t79⟩ : bt k15 < 256 ∧ (y76.toInt = ((bt k15 : Nat) : Int) ∨ (128 ≤ bt k15 ∧ y76.toInt = ((bt k15 : Nat) : Int) - 256)) := by rw [e77]; exact hTC k15 (by omega)
          refine vp_callSi (W.runS (As := [.int y76]) (rest := []) ⟨hx, hb, hml, hown, hts⟩ (c_f_isDigit l dC dI ky y76) (va_cwS 1 hts gX5_readRun_X5_isDigit rfl rfl rfl (by decide +kernel) ⟨(Nat.le_of_ble_eq_true rfl), (Nat.le_of_ble_eq_true rfl)⟩) (pre_PS hK hP [] rfl) rfl rfl hl.1 rfl (lv_room (Nat.le_of_ble_eq_true rfl)) dX5_readRun_47 ⟨(Nat.le_of_ble_eq_true rfl), (Nat.le_of_ble_eq_true rfl)⟩) (fun r80 p81 => ?_)
          rcases p81 with ⟨rfl, t82, t83⟩ | ⟨rfl, t84⟩
          · refine lv_if_eq (tgt := 133) hx hb dX5_readRun_50 (by decide) (fun c85 => absurd c85 (by decide)) (fun c85 => ?_)
            refine lv_aload_n hx hb dX5_readRun_53 rfl (lv_at hl 1 rfl) ?_
            refine va_get (D := (dC, dI)) (ci := 5) (v := .ref rtape) (C := RX5) (T := TX5) (N := 11) hx hb hts hin5 hown hK hP 0 rfl rfl 0 (by decide) (hts (.fieldLink RX5 9 "PorridgeSea$Reader" "tape" "[B") (List.mem_of_getElem? (i := 5) rfl)) (fun _ h9 => h9) rfl dX5_readRun_54 ?_
            refine lv_aload_n hx hb dX5_readRun_57 rfl (lv_at hl 1 rfl) ?_
            refine va_get (D := (dC, dI)) (ci := 5) (v := .int (nI k15)) (C := RX5) (T := TX5) (N := 11) hx hb hts hin5 hown hK hP 0 rfl rfl 3 (by decide) (hts (.fieldLink RX5 28 "PorridgeSea$Reader" "place" "I") (List.mem_of_getElem? (i := 3) rfl)) (fun _ h9 => h9) rfl dX5_readRun_58 ?_
            obtain ⟨y86, e87⟩ : ∃ z9, z9 = rtapeF k15 := ⟨_, rfl⟩
            refine r_bald hx hb hK hP 1 rfl k15 (by omega) (by decide) y86 e87.symm dX5_readRun_61 ?_
            obtain ⟨t88, t89⟩ : bt k15 < 256 ∧ (y86.toInt = ((bt k15 : Nat) : Int) ∨ (128 ≤ bt k15 ∧ y86.toInt = ((bt k15 : Nat) : Int) - 256)) := by rw [e87]; exact hTC k15 (by omega)
            refine vp_callSi (W.runS (As := [.int y86]) (rest := []) ⟨hx, hb, hml, hown, hts⟩ (c_f_isDigit l dC dI ky y86) (va_cwS 1 hts gX5_readRun_X5_isDigit rfl rfl rfl (by decide +kernel) ⟨(Nat.le_of_ble_eq_true rfl), (Nat.le_of_ble_eq_true rfl)⟩) (pre_PS hK hP [] rfl) rfl rfl hl.1 rfl (lv_room (Nat.le_of_ble_eq_true rfl)) dX5_readRun_62 ⟨(Nat.le_of_ble_eq_true rfl), (Nat.le_of_ble_eq_true rfl)⟩) (fun r90 p91 => ?_)
            rcases p91 with ⟨rfl, t92, t93⟩ | ⟨rfl, t94⟩
            · refine lv_if_eq (tgt := 98) hx hb dX5_readRun_65 (by decide) (fun c95 => absurd c95 (by decide)) (fun c95 => ?_)
              refine lv_iinc (v := nI (k14 + 1)) (lv' := [(1, .int (nI (k14 + 1))), (0, .ref reader)]) hx hb dX5_readRun_68 hl (k := 0) rfl (show nI k14 + nI 1 = nI (k14 + 1) from nI_add _ _) (by decide) rfl (fun ls hl => ?_)
              refine lv_aload_n hx hb dX5_readRun_71 rfl (lv_at hl 1 rfl) ?_
              refine lv_bipush (v := nI 10) hx hb dX5_readRun_72 (by decide) ?_
              refine lv_aload_n hx hb dX5_readRun_74 rfl (lv_at hl 1 rfl) ?_
              refine va_get (D := (dC, dI)) (ci := 5) (v := .int x16) (C := RX5) (T := TX5) (N := 11) hx hb hts hin5 hown hK hP 0 rfl rfl 7 (by decide) (hts (.fieldLink RX5 76 "PorridgeSea$Reader" "number" "I") (List.mem_of_getElem? (i := 2) rfl)) (fun _ h9 => h9) rfl dX5_readRun_75 ?_
              refine lv_imul hx hb dX5_readRun_78 ?_
              refine lv_topi (fun y96 e97 => ?_)
              refine lv_aload_n hx hb dX5_readRun_79 rfl (lv_at hl 1 rfl) ?_
              refine va_get (D := (dC, dI)) (ci := 5) (v := .ref rtape) (C := RX5) (T := TX5) (N := 11) hx hb hts hin5 hown hK hP 0 rfl rfl 0 (by decide) (hts (.fieldLink RX5 9 "PorridgeSea$Reader" "tape" "[B") (List.mem_of_getElem? (i := 5) rfl)) (fun _ h9 => h9) rfl dX5_readRun_80 ?_
              refine lv_aload_n hx hb dX5_readRun_83 rfl (lv_at hl 1 rfl) ?_
              refine va_get (D := (dC, dI)) (ci := 5) (v := .int (nI k15)) (C := RX5) (T := TX5) (N := 11) hx hb hts hin5 hown hK hP 0 rfl rfl 3 (by decide) (hts (.fieldLink RX5 28 "PorridgeSea$Reader" "place" "I") (List.mem_of_getElem? (i := 3) rfl)) (fun _ h9 => h9) rfl dX5_readRun_84 ?_
              obtain ⟨y98, e99⟩ : ∃ z9, z9 = rtapeF k15 := ⟨_, rfl⟩
              refine r_bald hx hb hK hP 1 rfl k15 (by omega) (by decide) y98 e99.symm dX5_readRun_87 ?_
              obtain ⟨t100, t101⟩ : bt k15 < 256 ∧ (y98.toInt = ((bt k15 : Nat) : Int) ∨ (128 ≤ bt k15 ∧ y98.toInt = ((bt k15 : Nat) : Int) - 256)) := by rw [e99]; exact hTC k15 (by omega)
              refine lv_iadd hx hb dX5_readRun_88 ?_
              refine lv_topi (fun y102 e103 => ?_)
              refine lv_bipush (v := nI 48) hx hb dX5_readRun_89 (by decide) ?_
              refine lv_isub hx hb dX5_readRun_91 ?_
              refine lv_topi (fun y104 e105 => ?_)
              refine va_put (D := (dC, dI)) (ci := 5) (v := .int y104) (ty := .int) (C := RX5) (T := TX5) (N := 11) hx hb hts hin5 tyX5 tyX5_ok nmX5 hown hK hP hD hS 0 rfl rfl 7 (by decide) (hts (.fieldLink RX5 76 "PorridgeSea$Reader" "number" "I") (List.mem_of_getElem? (i := 2) rfl)) (fun _ h9 => h9) rfl (by decide +kernel) rfl rfl (Nat.le_of_ble_eq_true rfl) dX5_readRun_92 (fun H locs hP hD hS => ?_)
              have hP : va_P (dC, dI) vwCl [(reader, .inr (5, [.ref rtape, .int (nI rlength), .int (nI rmostBytes), .int (nI k15), .int rkind, .int (nI rbegin), .int rword, .int y104, .long w17, .int rfaultKind, .int rfaultPlace])), (rtape, .inl (ky 2, 940, .inl rtapeF))] H := hP
              have hD : va_D A [(reader, .inr (5, [.ref rtape, .int (nI rlength), .int (nI rmostBytes), .int (nI k15), .int rkind, .int (nI rbegin), .int rword, .int y104, .long w17, .int rfaultKind, .int rfaultPlace])), (rtape, .inl (ky 2, 940, .inl rtapeF))] := hD
              refine lv_goto (tgt := 120) hx hb dX5_readRun_95 (by decide) ?_
              refine lv_aload_n hx hb dX5_readRun_120 rfl (lv_at hl 1 rfl) ?_
              refine lv_dup hx hb dX5_readRun_121 rfl ?_
              refine va_get (D := (dC, dI)) (ci := 5) (v := .int (nI k15)) (C := RX5) (T := TX5) (N := 11) hx hb hts hin5 hown hK hP 0 rfl rfl 3 (by decide) (hts (.fieldLink RX5 28 "PorridgeSea$Reader" "place" "I") (List.mem_of_getElem? (i := 3) rfl)) (fun _ h9 => h9) rfl dX5_readRun_122 ?_
              refine lv_iconst (v := nI 1) hx hb dX5_readRun_125 (by decide) ?_
              refine lv_iadd hx hb dX5_readRun_126 ?_
              refine r_ti (nI (k15 + 1)) (nI_add _ _) ?_
              refine va_put (D := (dC, dI)) (ci := 5) (v := .int (nI (k15 + 1))) (ty := .int) (C := RX5) (T := TX5) (N := 11) hx hb hts hin5 tyX5 tyX5_ok nmX5 hown hK hP hD hS 0 rfl rfl 3 (by decide) (hts (.fieldLink RX5 28 "PorridgeSea$Reader" "place" "I") (List.mem_of_getElem? (i := 3) rfl)) (fun _ h9 => h9) rfl (by decide +kernel) rfl rfl (Nat.le_of_ble_eq_true rfl) dX5_readRun_127 (fun H locs hP hD hS => ?_)
              have hP : va_P (dC, dI) vwCl [(reader, .inr (5, [.ref rtape, .int (nI rlength), .int (nI rmostBytes), .int (nI (k15 + 1)), .int rkind, .int (nI rbegin), .int rword, .int y104, .long w17, .int rfaultKind, .int rfaultPlace])), (rtape, .inl (ky 2, 940, .inl rtapeF))] H := hP
              have hD : va_D A [(reader, .inr (5, [.ref rtape, .int (nI rlength), .int (nI rmostBytes), .int (nI (k15 + 1)), .int rkind, .int (nI rbegin), .int rword, .int y104, .long w17, .int rfaultKind, .int rfaultPlace])), (rtape, .inl (ky 2, 940, .inl rtapeF))] := hD
              refine lv_goto (tgt := 12) hx hb dX5_readRun_130 (by decide) ?_
              exact ih22 (k14 + 1) (k15 + 1) y104 w17 (lf_f_readRun_40 bt rlength rplace rbegin rtapeF k14 k15 x16 w17 n21 y34 y76 y86 y96 y98 y102 y104 iv_rreader_0 iv_rreader_1 iv_rreader_3 hTC hbp hpl hal j18 j19 jPl jRn jDc jNm jLt jLe hm23 c24 e35 t36 t37 t42 e77 t78 t79 t82 t83 e87 t88 t89 t92 t93 e97 e99 t100 t101 e103 e105) (lf_f_readRun_41 bt rlength rplace rbegin rtapeF k14 k15 x16 w17 n21 y34 y76 y86 y96 y98 y102 y104 iv_rreader_0 iv_rreader_1 iv_rreader_3 hTC hbp hpl hal j18 j19 jPl jRn jDc jNm jLt jLe hm23 c24 e35 t36 t37 t42 e77 t78 t79 t82 t83 e87 t88 t89 t92 t93 e97 e99 t100 t101 e103 e105) (lf_f_readRun_42 bt rlength rplace rbegin rtapeF k14 k15 x16 w17 n21 y34 y76 y86 y96 y98 y102 y104 iv_rreader_0 iv_rreader_1 iv_rreader_3 hTC hbp hpl hal j18 j19 jPl jRn jDc jNm jLt jLe hm23 c24 e35 t36 t37 t42 e77 t78 t79 t82 t83 e87 t88 t89 t92 t93 e97 e99 t100 t101 e103 e105) (lf_f_readRun_43 bt rlength rplace rbegin rtapeF k14 k15 x16 w17 n21 y34 y76 y86 y96 y98 y102 y104 iv_rreader_0 iv_rreader_1 iv_rreader_3 hTC hbp hpl hal j18 j19 jPl jRn jDc jNm jLt jLe hm23 c24 e35 t36 t37 t42 e77 t78 t79 t82 t83 e87 t88 t89 t92 t93 e97 e99 t100 t101 e103 e105) (lf_f_readRun_44 bt rlength rplace rbegin rtapeF k14 k15 x16 w17 n21 y34 y76 y86 y96 y98 y102 y104 iv_rreader_0 iv_rreader_1 iv_rreader_3 hTC hbp hpl hal j18 j19 jPl jRn jDc jNm jLt jLe hm23 c24 e35 t36 t37 t42 e77 t78 t79 t82 t83 e87 t88 t89 t92 t93 e97 e99 t100 t101 e103 e105) (lf_f_readRun_45 bt rlength rplace rbegin rtapeF k14 k15 x16 w17 n21 y34 y76 y86 y96 y98 y102 y104 iv_rreader_0 iv_rreader_1 iv_rreader_3 hTC hbp hpl hal j18 j19 jPl jRn jDc jNm jLt jLe hm23 c24 e35 t36 t37 t42 e77 t78 t79 t82 t83 e87 t88 t89 t92 t93 e97 e99 t100 t101 e103 e105) (lf_f_readRun_46 bt rlength rplace rbegin rtapeF k14 k15 x16 w17 n21 y34 y76 y86 y96 y98 y102 y104 iv_rreader_0 iv_rreader_1 iv_rreader_3 hTC hbp hpl hal j18 j19 jPl jRn jDc jNm jLt jLe hm23 c24 e35 t36 t37 t42 e77 t78 t79 t82 t83 e87 t88 t89 t92 t93 e97 e99 t100 t101 e103 e105) (lf_f_readRun_47 bt rlength rplace rbegin rtapeF k14 k15 x16 w17 n21 y34 y76 y86 y96 y98 y102 y104 iv_rreader_0 iv_rreader_1 iv_rreader_3 hTC hbp hpl hal j18 j19 jPl jRn jDc jNm jLt jLe hm23 c24 e35 t36 t37 t42 e77 t78 t79 t82 t83 e87 t88 t89 t92 t93 e97 e99 t100 t101 e103 e105) (lf_f_readRun_48 bt rlength rplace rbegin rtapeF k14 k15 x16 w17 n21 y34 y76 y86 y96 y98 y102 y104 iv_rreader_0 iv_rreader_1 iv_rreader_3 hTC hbp hpl hal j18 j19 jPl jRn jDc jNm jLt jLe hm23 c24 e35 t36 t37 t42 e77 t78 t79 t82 t83 e87 t88 t89 t92 t93 e97 e99 t100 t101 e103 e105) _ _ _ hP hD hS (lv_sub hl [0, 1] rfl)
            · refine lv_if_eq (tgt := 98) hx hb dX5_readRun_65 (by decide) (fun c106 => ?_) (fun c106 => absurd (by decide) c106)
              refine lv_aload_n hx hb dX5_readRun_98 rfl (lv_at hl 1 rfl) ?_
              refine lv_aload_n hx hb dX5_readRun_99 rfl (lv_at hl 1 rfl) ?_
              refine va_get (D := (dC, dI)) (ci := 5) (v := .long w17) (C := RX5) (T := TX5) (N := 11) hx hb hts hin5 hown hK hP 0 rfl rfl 8 (by decide) (hts (.fieldLink RX5 72 "PorridgeSea$Reader" "letters" "J") (List.mem_of_getElem? (i := 1) rfl)) (fun _ h9 => h9) rfl dX5_readRun_100 ?_
              refine lv_bipush (v := nI 8) hx hb dX5_readRun_103 (by decide) ?_
              obtain ⟨w107, e108⟩ : ∃ z9 : Int64, z9 = w17 <<< ((nI 8).toInt64 &&& 63) := ⟨_, rfl⟩
              refine lv_lshl (v := w107) hx hb dX5_readRun_105 e108.symm ?_
              refine lv_aload_n hx hb dX5_readRun_106 rfl (lv_at hl 1 rfl) ?_
              refine va_get (D := (dC, dI)) (ci := 5) (v := .ref rtape) (C := RX5) (T := TX5) (N := 11) hx hb hts hin5 hown hK hP 0 rfl rfl 0 (by decide) (hts (.fieldLink RX5 9 "PorridgeSea$Reader" "tape" "[B") (List.mem_of_getElem? (i := 5) rfl)) (fun _ h9 => h9) rfl dX5_readRun_107 ?_
              refine lv_aload_n hx hb dX5_readRun_110 rfl (lv_at hl 1 rfl) ?_
              refine va_get (D := (dC, dI)) (ci := 5) (v := .int (nI k15)) (C := RX5) (T := TX5) (N := 11) hx hb hts hin5 hown hK hP 0 rfl rfl 3 (by decide) (hts (.fieldLink RX5 28 "PorridgeSea$Reader" "place" "I") (List.mem_of_getElem? (i := 3) rfl)) (fun _ h9 => h9) rfl dX5_readRun_111 ?_
              obtain ⟨y109, e110⟩ : ∃ z9, z9 = rtapeF k15 := ⟨_, rfl⟩
              refine r_bald hx hb hK hP 1 rfl k15 (by omega) (by decide) y109 e110.symm dX5_readRun_114 ?_
              obtain ⟨t111, t112⟩ : bt k15 < 256 ∧ (y109.toInt = ((bt k15 : Nat) : Int) ∨ (128 ≤ bt k15 ∧ y109.toInt = ((bt k15 : Nat) : Int) - 256)) := by rw [e110]; exact hTC k15 (by omega)
              obtain ⟨w113, e114⟩ : ∃ z9 : Int64, z9 = (y109).toInt64 := ⟨_, rfl⟩
              refine lv_i2l (v := w113) hx hb dX5_readRun_115 e114.symm ?_
              refine lv_lor hx hb dX5_readRun_116 ?_
              refine lv_topl (fun w115 e116 => ?_)
              refine va_put (D := (dC, dI)) (ci := 5) (v := .long w115) (ty := .long) (C := RX5) (T := TX5) (N := 11) hx hb hts hin5 tyX5 tyX5_ok nmX5 hown hK hP hD hS 0 rfl rfl 8 (by decide) (hts (.fieldLink RX5 72 "PorridgeSea$Reader" "letters" "J") (List.mem_of_getElem? (i := 1) rfl)) (fun _ h9 => h9) rfl (by decide +kernel) rfl rfl (Nat.le_of_ble_eq_true rfl) dX5_readRun_117 (fun H locs hP hD hS => ?_)
              have hP : va_P (dC, dI) vwCl [(reader, .inr (5, [.ref rtape, .int (nI rlength), .int (nI rmostBytes), .int (nI k15), .int rkind, .int (nI rbegin), .int rword, .int x16, .long w115, .int rfaultKind, .int rfaultPlace])), (rtape, .inl (ky 2, 940, .inl rtapeF))] H := hP
              have hD : va_D A [(reader, .inr (5, [.ref rtape, .int (nI rlength), .int (nI rmostBytes), .int (nI k15), .int rkind, .int (nI rbegin), .int rword, .int x16, .long w115, .int rfaultKind, .int rfaultPlace])), (rtape, .inl (ky 2, 940, .inl rtapeF))] := hD
              refine lv_aload_n hx hb dX5_readRun_120 rfl (lv_at hl 1 rfl) ?_
              refine lv_dup hx hb dX5_readRun_121 rfl ?_
              refine va_get (D := (dC, dI)) (ci := 5) (v := .int (nI k15)) (C := RX5) (T := TX5) (N := 11) hx hb hts hin5 hown hK hP 0 rfl rfl 3 (by decide) (hts (.fieldLink RX5 28 "PorridgeSea$Reader" "place" "I") (List.mem_of_getElem? (i := 3) rfl)) (fun _ h9 => h9) rfl dX5_readRun_122 ?_
              refine lv_iconst (v := nI 1) hx hb dX5_readRun_125 (by decide) ?_
              refine lv_iadd hx hb dX5_readRun_126 ?_
              refine r_ti (nI (k15 + 1)) (nI_add _ _) ?_
              refine va_put (D := (dC, dI)) (ci := 5) (v := .int (nI (k15 + 1))) (ty := .int) (C := RX5) (T := TX5) (N := 11) hx hb hts hin5 tyX5 tyX5_ok nmX5 hown hK hP hD hS 0 rfl rfl 3 (by decide) (hts (.fieldLink RX5 28 "PorridgeSea$Reader" "place" "I") (List.mem_of_getElem? (i := 3) rfl)) (fun _ h9 => h9) rfl (by decide +kernel) rfl rfl (Nat.le_of_ble_eq_true rfl) dX5_readRun_127 (fun H locs hP hD hS => ?_)
              have hP : va_P (dC, dI) vwCl [(reader, .inr (5, [.ref rtape, .int (nI rlength), .int (nI rmostBytes), .int (nI (k15 + 1)), .int rkind, .int (nI rbegin), .int rword, .int x16, .long w115, .int rfaultKind, .int rfaultPlace])), (rtape, .inl (ky 2, 940, .inl rtapeF))] H := hP
              have hD : va_D A [(reader, .inr (5, [.ref rtape, .int (nI rlength), .int (nI rmostBytes), .int (nI (k15 + 1)), .int rkind, .int (nI rbegin), .int rword, .int x16, .long w115, .int rfaultKind, .int rfaultPlace])), (rtape, .inl (ky 2, 940, .inl rtapeF))] := hD
              refine lv_goto (tgt := 12) hx hb dX5_readRun_130 (by decide) ?_
              exact ih22 k14 (k15 + 1) x16 w115 (lf_f_readRun_49 bt rlength rplace rbegin rtapeF k14 k15 x16 w17 n21 y34 y76 y86 w107 y109 w113 w115 iv_rreader_0 iv_rreader_1 iv_rreader_3 hTC hbp hpl hal j18 j19 jPl jRn jDc jNm jLt jLe hm23 c24 e35 t36 t37 t42 e77 t78 t79 t82 t83 e87 t88 t89 t94 e108 e110 t111 t112 e114 e116) (lf_f_readRun_50 bt rlength rplace rbegin rtapeF k14 k15 x16 w17 n21 y34 y76 y86 w107 y109 w113 w115 iv_rreader_0 iv_rreader_1 iv_rreader_3 hTC hbp hpl hal j18 j19 jPl jRn jDc jNm jLt jLe hm23 c24 e35 t36 t37 t42 e77 t78 t79 t82 t83 e87 t88 t89 t94 e108 e110 t111 t112 e114 e116) (lf_f_readRun_51 bt rlength rplace rbegin rtapeF k14 k15 x16 w17 n21 y34 y76 y86 w107 y109 w113 w115 iv_rreader_0 iv_rreader_1 iv_rreader_3 hTC hbp hpl hal j18 j19 jPl jRn jDc jNm jLt jLe hm23 c24 e35 t36 t37 t42 e77 t78 t79 t82 t83 e87 t88 t89 t94 e108 e110 t111 t112 e114 e116) (lf_f_readRun_52 bt rlength rplace rbegin rtapeF k14 k15 x16 w17 n21 y34 y76 y86 w107 y109 w113 w115 iv_rreader_0 iv_rreader_1 iv_rreader_3 hTC hbp hpl hal j18 j19 jPl jRn jDc jNm jLt jLe hm23 c24 e35 t36 t37 t42 e77 t78 t79 t82 t83 e87 t88 t89 t94 e108 e110 t111 t112 e114 e116) (lf_f_readRun_53 bt rlength rplace rbegin rtapeF k14 k15 x16 w17 n21 y34 y76 y86 w107 y109 w113 w115 iv_rreader_0 iv_rreader_1 iv_rreader_3 hTC hbp hpl hal j18 j19 jPl jRn jDc jNm jLt jLe hm23 c24 e35 t36 t37 t42 e77 t78 t79 t82 t83 e87 t88 t89 t94 e108 e110 t111 t112 e114 e116) (lf_f_readRun_54 bt rlength rplace rbegin rtapeF k14 k15 x16 w17 n21 y34 y76 y86 w107 y109 w113 w115 iv_rreader_0 iv_rreader_1 iv_rreader_3 hTC hbp hpl hal j18 j19 jPl jRn jDc jNm jLt jLe hm23 c24 e35 t36 t37 t42 e77 t78 t79 t82 t83 e87 t88 t89 t94 e108 e110 t111 t112 e114 e116) (lf_f_readRun_55 bt rlength rplace rbegin rtapeF k14 k15 x16 w17 n21 y34 y76 y86 w107 y109 w113 w115 iv_rreader_0 iv_rreader_1 iv_rreader_3 hTC hbp hpl hal j18 j19 jPl jRn jDc jNm jLt jLe hm23 c24 e35 t36 t37 t42 e77 t78 t79 t82 t83 e87 t88 t89 t94 e108 e110 t111 t112 e114 e116) (lf_f_readRun_56 bt rlength rplace rbegin rtapeF k14 k15 x16 w17 n21 y34 y76 y86 w107 y109 w113 w115 iv_rreader_0 iv_rreader_1 iv_rreader_3 hTC hbp hpl hal j18 j19 jPl jRn jDc jNm jLt jLe hm23 c24 e35 t36 t37 t42 e77 t78 t79 t82 t83 e87 t88 t89 t94 e108 e110 t111 t112 e114 e116) (lf_f_readRun_57 bt rlength rplace rbegin rtapeF k14 k15 x16 w17 n21 y34 y76 y86 w107 y109 w113 w115 iv_rreader_0 iv_rreader_1 iv_rreader_3 hTC hbp hpl hal j18 j19 jPl jRn jDc jNm jLt jLe hm23 c24 e35 t36 t37 t42 e77 t78 t79 t82 t83 e87 t88 t89 t94 e108 e110 t111 t112 e114 e116) _ _ _ hP hD hS (lv_sub hl [0, 1] rfl)
          · refine lv_if_eq (tgt := 133) hx hb dX5_readRun_50 (by decide) (fun c117 => ?_) (fun c117 => absurd (by decide) c117)
            refine lv_aload_n hx hb dX5_readRun_133 rfl (lv_at hl 1 rfl) ?_
            refine va_get (D := (dC, dI)) (ci := 5) (v := .int (nI k15)) (C := RX5) (T := TX5) (N := 11) hx hb hts hin5 hown hK hP 0 rfl rfl 3 (by decide) (hts (.fieldLink RX5 28 "PorridgeSea$Reader" "place" "I") (List.mem_of_getElem? (i := 3) rfl)) (fun _ h9 => h9) rfl dX5_readRun_134 ?_
            refine lv_aload_n hx hb dX5_readRun_137 rfl (lv_at hl 1 rfl) ?_
            refine va_get (D := (dC, dI)) (ci := 5) (v := .int (nI rbegin)) (C := RX5) (T := TX5) (N := 11) hx hb hts hin5 hown hK hP 0 rfl rfl 5 (by decide) (hts (.fieldLink RX5 40 "PorridgeSea$Reader" "begin" "I") (List.mem_of_getElem? (i := 6) rfl)) (fun _ h9 => h9) rfl dX5_readRun_138 ?_
            refine lv_isub hx hb dX5_readRun_141 ?_
            refine lv_topi (fun y118 e119 => ?_)
            have f120 : y118.toInt = ((k15 : Nat) : Int) - ((rbegin : Nat) : Int) := by rw [e119]; exact ia_sub _ _ (by omega) (by omega)
            refine lv_istore_n (lv' := [(2, .int y118), (1, .int (nI k14)), (0, .ref reader)]) hx hb dX5_readRun_142 rfl hl (by decide) rfl (fun ls hl => ?_)
            refine lv_iload_n hx hb dX5_readRun_143 rfl (lv_at hl 1 rfl) ?_
            refine lv_if_ne (tgt := 161) hx hb dX5_readRun_144 (by decide) (fun c121 => ?_) (fun c121 => ?_)
            · refine lv_aload_n hx hb dX5_readRun_161 rfl (lv_at hl 2 rfl) ?_
              refine lv_iload_n hx hb dX5_readRun_162 rfl (lv_at hl 1 rfl) ?_
              refine lv_iload_n hx hb dX5_readRun_163 rfl (lv_at hl 0 rfl) ?_
              refine lv_icmp_ne (tgt := 176) hx hb dX5_readRun_164 (by decide) (fun c122 => ?_) (fun c122 => ?_)
              · refine lv_iconst (v := nI 1) hx hb dX5_readRun_176 (by decide) ?_
                refine va_put (D := (dC, dI)) (ci := 5) (v := .int (nI 1)) (ty := .int) (C := RX5) (T := TX5) (N := 11) hx hb hts hin5 tyX5 tyX5_ok nmX5 hown hK hP hD hS 0 rfl rfl 4 (by decide) (hts (.fieldLink RX5 46 "PorridgeSea$Reader" "kind" "I") (List.mem_of_getElem? (i := 7) rfl)) (fun _ h9 => h9) rfl (by decide +kernel) rfl rfl (Nat.le_of_ble_eq_true rfl) dX5_readRun_177 (fun H locs hP hD hS => ?_)
                have hP : va_P (dC, dI) vwCl [(reader, .inr (5, [.ref rtape, .int (nI rlength), .int (nI rmostBytes), .int (nI k15), .int (nI 1), .int (nI rbegin), .int rword, .int x16, .long w17, .int rfaultKind, .int rfaultPlace])), (rtape, .inl (ky 2, 940, .inl rtapeF))] H := hP
                have hD : va_D A [(reader, .inr (5, [.ref rtape, .int (nI rlength), .int (nI rmostBytes), .int (nI k15), .int (nI 1), .int (nI rbegin), .int rword, .int x16, .long w17, .int rfaultKind, .int rfaultPlace])), (rtape, .inl (ky 2, 940, .inl rtapeF))] := hD
                rw [hQ]
                exact W.vret hx hb hr (fun t9 ht9 hW9 => ⟨⟨(k15, nI 1, x16, w17), rfl, ⟨j19, (lf_f_readRun_58 bt rlength rplace rbegin rtapeF k14 k15 x16 w17 n21 y34 y76 y118 iv_rreader_0 iv_rreader_1 iv_rreader_3 hTC hbp hpl hal j18 j19 jPl jRn jDc jNm jLt jLe hm23 c24 e35 t36 t37 t42 e77 t78 t79 t84 f120 c121 c122), (lf_f_readRun_59 bt rlength rplace rbegin rtapeF k14 k15 x16 w17 n21 y34 y76 y118 iv_rreader_0 iv_rreader_1 iv_rreader_3 hTC hbp hpl hal j18 j19 jPl jRn jDc jNm jLt jLe hm23 c24 e35 t36 t37 t42 e77 t78 t79 t84 f120 c121 c122), (lf_f_readRun_60 bt rlength rplace rbegin rtapeF k14 k15 x16 w17 n21 y34 y76 y118 iv_rreader_0 iv_rreader_1 iv_rreader_3 hTC hbp hpl hal j18 j19 jPl jRn jDc jNm jLt jLe hm23 c24 e35 t36 t37 t42 e77 t78 t79 t84 f120 c121 c122)⟩, by rw [ht9]; exact hP, va_K.moved hW9.alike hK, hD⟩, hS.F ht9⟩) hS.2.2 dX5_readRun_180
              · refine lv_iload_n hx hb dX5_readRun_167 rfl (lv_at hl 0 rfl) ?_
                refine lv_iconst (v := nI 3) hx hb dX5_readRun_168 (by decide) ?_
                refine lv_icmp_gt (tgt := 176) hx hb dX5_readRun_169 (by decide) (fun c123 => ?_) (fun c123 => ?_)
                · refine lv_iconst (v := nI 1) hx hb dX5_readRun_176 (by decide) ?_
                  refine va_put (D := (dC, dI)) (ci := 5) (v := .int (nI 1)) (ty := .int) (C := RX5) (T := TX5) (N := 11) hx hb hts hin5 tyX5 tyX5_ok nmX5 hown hK hP hD hS 0 rfl rfl 4 (by decide) (hts (.fieldLink RX5 46 "PorridgeSea$Reader" "kind" "I") (List.mem_of_getElem? (i := 7) rfl)) (fun _ h9 => h9) rfl (by decide +kernel) rfl rfl (Nat.le_of_ble_eq_true rfl) dX5_readRun_177 (fun H locs hP hD hS => ?_)
                  have hP : va_P (dC, dI) vwCl [(reader, .inr (5, [.ref rtape, .int (nI rlength), .int (nI rmostBytes), .int (nI k15), .int (nI 1), .int (nI rbegin), .int rword, .int x16, .long w17, .int rfaultKind, .int rfaultPlace])), (rtape, .inl (ky 2, 940, .inl rtapeF))] H := hP
                  have hD : va_D A [(reader, .inr (5, [.ref rtape, .int (nI rlength), .int (nI rmostBytes), .int (nI k15), .int (nI 1), .int (nI rbegin), .int rword, .int x16, .long w17, .int rfaultKind, .int rfaultPlace])), (rtape, .inl (ky 2, 940, .inl rtapeF))] := hD
                  rw [hQ]
                  exact W.vret hx hb hr (fun t9 ht9 hW9 => ⟨⟨(k15, nI 1, x16, w17), rfl, ⟨j19, (lf_f_readRun_61 bt rlength rplace rbegin rtapeF k14 k15 x16 w17 n21 y34 y76 y118 iv_rreader_0 iv_rreader_1 iv_rreader_3 hTC hbp hpl hal j18 j19 jPl jRn jDc jNm jLt jLe hm23 c24 e35 t36 t37 t42 e77 t78 t79 t84 f120 c121 c122 c123), (lf_f_readRun_62 bt rlength rplace rbegin rtapeF k14 k15 x16 w17 n21 y34 y76 y118 iv_rreader_0 iv_rreader_1 iv_rreader_3 hTC hbp hpl hal j18 j19 jPl jRn jDc jNm jLt jLe hm23 c24 e35 t36 t37 t42 e77 t78 t79 t84 f120 c121 c122 c123), (lf_f_readRun_63 bt rlength rplace rbegin rtapeF k14 k15 x16 w17 n21 y34 y76 y118 iv_rreader_0 iv_rreader_1 iv_rreader_3 hTC hbp hpl hal j18 j19 jPl jRn jDc jNm jLt jLe hm23 c24 e35 t36 t37 t42 e77 t78 t79 t84 f120 c121 c122 c123)⟩, by rw [ht9]; exact hP, va_K.moved hW9.alike hK, hD⟩, hS.F ht9⟩) hS.2.2 dX5_readRun_180
                · refine lv_iconst (v := nI 3) hx hb dX5_readRun_172 (by decide) ?_
                  refine lv_goto (tgt := 177) hx hb dX5_readRun_173 (by decide) ?_
                  refine va_put (D := (dC, dI)) (ci := 5) (v := .int (nI 3)) (ty := .int) (C := RX5) (T := TX5) (N := 11) hx hb hts hin5 tyX5 tyX5_ok nmX5 hown hK hP hD hS 0 rfl rfl 4 (by decide) (hts (.fieldLink RX5 46 "PorridgeSea$Reader" "kind" "I") (List.mem_of_getElem? (i := 7) rfl)) (fun _ h9 => h9) rfl (by decide +kernel) rfl rfl (Nat.le_of_ble_eq_true rfl) dX5_readRun_177 (fun H locs hP hD hS => ?_)
                  have hP : va_P (dC, dI) vwCl [(reader, .inr (5, [.ref rtape, .int (nI rlength), .int (nI rmostBytes), .int (nI k15), .int (nI 3), .int (nI rbegin), .int rword, .int x16, .long w17, .int rfaultKind, .int rfaultPlace])), (rtape, .inl (ky 2, 940, .inl rtapeF))] H := hP
                  have hD : va_D A [(reader, .inr (5, [.ref rtape, .int (nI rlength), .int (nI rmostBytes), .int (nI k15), .int (nI 3), .int (nI rbegin), .int rword, .int x16, .long w17, .int rfaultKind, .int rfaultPlace])), (rtape, .inl (ky 2, 940, .inl rtapeF))] := hD
                  rw [hQ]
                  exact W.vret hx hb hr (fun t9 ht9 hW9 => ⟨⟨(k15, nI 3, x16, w17), rfl, ⟨j19, (lf_f_readRun_64 bt rlength rplace rbegin rtapeF k14 k15 x16 w17 n21 y34 y76 y118 iv_rreader_0 iv_rreader_1 iv_rreader_3 hTC hbp hpl hal j18 j19 jPl jRn jDc jNm jLt jLe hm23 c24 e35 t36 t37 t42 e77 t78 t79 t84 f120 c121 c122 c123), (lf_f_readRun_65 bt rlength rplace rbegin rtapeF k14 k15 x16 w17 n21 y34 y76 y118 iv_rreader_0 iv_rreader_1 iv_rreader_3 hTC hbp hpl hal j18 j19 jPl jRn jDc jNm jLt jLe hm23 c24 e35 t36 t37 t42 e77 t78 t79 t84 f120 c121 c122 c123), (lf_f_readRun_66 bt rlength rplace rbegin rtapeF k14 k15 x16 w17 n21 y34 y76 y118 iv_rreader_0 iv_rreader_1 iv_rreader_3 hTC hbp hpl hal j18 j19 jPl jRn jDc jNm jLt jLe hm23 c24 e35 t36 t37 t42 e77 t78 t79 t84 f120 c121 c122 c123)⟩, by rw [ht9]; exact hP, va_K.moved hW9.alike hK, hD⟩, hS.F ht9⟩) hS.2.2 dX5_readRun_180
            · refine lv_iload_n hx hb dX5_readRun_147 rfl (lv_at hl 0 rfl) ?_
              refine lv_bipush (v := nI 7) hx hb dX5_readRun_148 (by decide) ?_
              refine lv_icmp_gt (tgt := 161) hx hb dX5_readRun_150 (by decide) (fun c124 => ?_) (fun c124 => ?_)
              · refine lv_aload_n hx hb dX5_readRun_161 rfl (lv_at hl 2 rfl) ?_
                refine lv_iload_n hx hb dX5_readRun_162 rfl (lv_at hl 1 rfl) ?_
                refine lv_iload_n hx hb dX5_readRun_163 rfl (lv_at hl 0 rfl) ?_
                refine lv_icmp_ne (tgt := 176) hx hb dX5_readRun_164 (by decide) (fun c125 => ?_) (fun c125 => ?_)
                · refine lv_iconst (v := nI 1) hx hb dX5_readRun_176 (by decide) ?_
                  refine va_put (D := (dC, dI)) (ci := 5) (v := .int (nI 1)) (ty := .int) (C := RX5) (T := TX5) (N := 11) hx hb hts hin5 tyX5 tyX5_ok nmX5 hown hK hP hD hS 0 rfl rfl 4 (by decide) (hts (.fieldLink RX5 46 "PorridgeSea$Reader" "kind" "I") (List.mem_of_getElem? (i := 7) rfl)) (fun _ h9 => h9) rfl (by decide +kernel) rfl rfl (Nat.le_of_ble_eq_true rfl) dX5_readRun_177 (fun H locs hP hD hS => ?_)
                  have hP : va_P (dC, dI) vwCl [(reader, .inr (5, [.ref rtape, .int (nI rlength), .int (nI rmostBytes), .int (nI k15), .int (nI 1), .int (nI rbegin), .int rword, .int x16, .long w17, .int rfaultKind, .int rfaultPlace])), (rtape, .inl (ky 2, 940, .inl rtapeF))] H := hP
                  have hD : va_D A [(reader, .inr (5, [.ref rtape, .int (nI rlength), .int (nI rmostBytes), .int (nI k15), .int (nI 1), .int (nI rbegin), .int rword, .int x16, .long w17, .int rfaultKind, .int rfaultPlace])), (rtape, .inl (ky 2, 940, .inl rtapeF))] := hD
                  rw [hQ]
                  exact W.vret hx hb hr (fun t9 ht9 hW9 => ⟨⟨(k15, nI 1, x16, w17), rfl, ⟨j19, (lf_f_readRun_67 bt rlength rplace rbegin rtapeF k14 k15 x16 w17 n21 y34 y76 y118 iv_rreader_0 iv_rreader_1 iv_rreader_3 hTC hbp hpl hal j18 j19 jPl jRn jDc jNm jLt jLe hm23 c24 e35 t36 t37 t42 e77 t78 t79 t84 f120 c121 c124 c125), (lf_f_readRun_68 bt rlength rplace rbegin rtapeF k14 k15 x16 w17 n21 y34 y76 y118 iv_rreader_0 iv_rreader_1 iv_rreader_3 hTC hbp hpl hal j18 j19 jPl jRn jDc jNm jLt jLe hm23 c24 e35 t36 t37 t42 e77 t78 t79 t84 f120 c121 c124 c125), (lf_f_readRun_69 bt rlength rplace rbegin rtapeF k14 k15 x16 w17 n21 y34 y76 y118 iv_rreader_0 iv_rreader_1 iv_rreader_3 hTC hbp hpl hal j18 j19 jPl jRn jDc jNm jLt jLe hm23 c24 e35 t36 t37 t42 e77 t78 t79 t84 f120 c121 c124 c125)⟩, by rw [ht9]; exact hP, va_K.moved hW9.alike hK, hD⟩, hS.F ht9⟩) hS.2.2 dX5_readRun_180
                · refine lv_iload_n hx hb dX5_readRun_167 rfl (lv_at hl 0 rfl) ?_
                  refine lv_iconst (v := nI 3) hx hb dX5_readRun_168 (by decide) ?_
                  refine lv_icmp_gt (tgt := 176) hx hb dX5_readRun_169 (by decide) (fun c126 => ?_) (fun c126 => ?_)
                  · refine lv_iconst (v := nI 1) hx hb dX5_readRun_176 (by decide) ?_
                    refine va_put (D := (dC, dI)) (ci := 5) (v := .int (nI 1)) (ty := .int) (C := RX5) (T := TX5) (N := 11) hx hb hts hin5 tyX5 tyX5_ok nmX5 hown hK hP hD hS 0 rfl rfl 4 (by decide) (hts (.fieldLink RX5 46 "PorridgeSea$Reader" "kind" "I") (List.mem_of_getElem? (i := 7) rfl)) (fun _ h9 => h9) rfl (by decide +kernel) rfl rfl (Nat.le_of_ble_eq_true rfl) dX5_readRun_177 (fun H locs hP hD hS => ?_)
                    have hP : va_P (dC, dI) vwCl [(reader, .inr (5, [.ref rtape, .int (nI rlength), .int (nI rmostBytes), .int (nI k15), .int (nI 1), .int (nI rbegin), .int rword, .int x16, .long w17, .int rfaultKind, .int rfaultPlace])), (rtape, .inl (ky 2, 940, .inl rtapeF))] H := hP
                    have hD : va_D A [(reader, .inr (5, [.ref rtape, .int (nI rlength), .int (nI rmostBytes), .int (nI k15), .int (nI 1), .int (nI rbegin), .int rword, .int x16, .long w17, .int rfaultKind, .int rfaultPlace])), (rtape, .inl (ky 2, 940, .inl rtapeF))] := hD
                    rw [hQ]
                    exact W.vret hx hb hr (fun t9 ht9 hW9 => ⟨⟨(k15, nI 1, x16, w17), rfl, ⟨j19, (lf_f_readRun_70 bt rlength rplace rbegin rtapeF k14 k15 x16 w17 n21 y34 y76 y118 iv_rreader_0 iv_rreader_1 iv_rreader_3 hTC hbp hpl hal j18 j19 jPl jRn jDc jNm jLt jLe hm23 c24 e35 t36 t37 t42 e77 t78 t79 t84 f120 c121 c124 c125 c126), (lf_f_readRun_71 bt rlength rplace rbegin rtapeF k14 k15 x16 w17 n21 y34 y76 y118 iv_rreader_0 iv_rreader_1 iv_rreader_3 hTC hbp hpl hal j18 j19 jPl jRn jDc jNm jLt jLe hm23 c24 e35 t36 t37 t42 e77 t78 t79 t84 f120 c121 c124 c125 c126), (lf_f_readRun_72 bt rlength rplace rbegin rtapeF k14 k15 x16 w17 n21 y34 y76 y118 iv_rreader_0 iv_rreader_1 iv_rreader_3 hTC hbp hpl hal j18 j19 jPl jRn jDc jNm jLt jLe hm23 c24 e35 t36 t37 t42 e77 t78 t79 t84 f120 c121 c124 c125 c126)⟩, by rw [ht9]; exact hP, va_K.moved hW9.alike hK, hD⟩, hS.F ht9⟩) hS.2.2 dX5_readRun_180
                  · refine lv_iconst (v := nI 3) hx hb dX5_readRun_172 (by decide) ?_
                    refine lv_goto (tgt := 177) hx hb dX5_readRun_173 (by decide) ?_
                    refine va_put (D := (dC, dI)) (ci := 5) (v := .int (nI 3)) (ty := .int) (C := RX5) (T := TX5) (N := 11) hx hb hts hin5 tyX5 tyX5_ok nmX5 hown hK hP hD hS 0 rfl rfl 4 (by decide) (hts (.fieldLink RX5 46 "PorridgeSea$Reader" "kind" "I") (List.mem_of_getElem? (i := 7) rfl)) (fun _ h9 => h9) rfl (by decide +kernel) rfl rfl (Nat.le_of_ble_eq_true rfl) dX5_readRun_177 (fun H locs hP hD hS => ?_)
                    have hP : va_P (dC, dI) vwCl [(reader, .inr (5, [.ref rtape, .int (nI rlength), .int (nI rmostBytes), .int (nI k15), .int (nI 3), .int (nI rbegin), .int rword, .int x16, .long w17, .int rfaultKind, .int rfaultPlace])), (rtape, .inl (ky 2, 940, .inl rtapeF))] H := hP
                    have hD : va_D A [(reader, .inr (5, [.ref rtape, .int (nI rlength), .int (nI rmostBytes), .int (nI k15), .int (nI 3), .int (nI rbegin), .int rword, .int x16, .long w17, .int rfaultKind, .int rfaultPlace])), (rtape, .inl (ky 2, 940, .inl rtapeF))] := hD
                    rw [hQ]
                    exact W.vret hx hb hr (fun t9 ht9 hW9 => ⟨⟨(k15, nI 3, x16, w17), rfl, ⟨j19, (lf_f_readRun_73 bt rlength rplace rbegin rtapeF k14 k15 x16 w17 n21 y34 y76 y118 iv_rreader_0 iv_rreader_1 iv_rreader_3 hTC hbp hpl hal j18 j19 jPl jRn jDc jNm jLt jLe hm23 c24 e35 t36 t37 t42 e77 t78 t79 t84 f120 c121 c124 c125 c126), (lf_f_readRun_74 bt rlength rplace rbegin rtapeF k14 k15 x16 w17 n21 y34 y76 y118 iv_rreader_0 iv_rreader_1 iv_rreader_3 hTC hbp hpl hal j18 j19 jPl jRn jDc jNm jLt jLe hm23 c24 e35 t36 t37 t42 e77 t78 t79 t84 f120 c121 c124 c125 c126), (lf_f_readRun_75 bt rlength rplace rbegin rtapeF k14 k15 x16 w17 n21 y34 y76 y118 iv_rreader_0 iv_rreader_1 iv_rreader_3 hTC hbp hpl hal j18 j19 jPl jRn jDc jNm jLt jLe hm23 c24 e35 t36 t37 t42 e77 t78 t79 t84 f120 c121 c124 c125 c126)⟩, by rw [ht9]; exact hP, va_K.moved hW9.alike hK, hD⟩, hS.F ht9⟩) hS.2.2 dX5_readRun_180
              · refine lv_aload_n hx hb dX5_readRun_153 rfl (lv_at hl 2 rfl) ?_
                refine lv_iconst (v := nI 2) hx hb dX5_readRun_154 (by decide) ?_
                refine va_put (D := (dC, dI)) (ci := 5) (v := .int (nI 2)) (ty := .int) (C := RX5) (T := TX5) (N := 11) hx hb hts hin5 tyX5 tyX5_ok nmX5 hown hK hP hD hS 0 rfl rfl 4 (by decide) (hts (.fieldLink RX5 46 "PorridgeSea$Reader" "kind" "I") (List.mem_of_getElem? (i := 7) rfl)) (fun _ h9 => h9) rfl (by decide +kernel) rfl rfl (Nat.le_of_ble_eq_true rfl) dX5_readRun_155 (fun H locs hP hD hS => ?_)
                have hP : va_P (dC, dI) vwCl [(reader, .inr (5, [.ref rtape, .int (nI rlength), .int (nI rmostBytes), .int (nI k15), .int (nI 2), .int (nI rbegin), .int rword, .int x16, .long w17, .int rfaultKind, .int rfaultPlace])), (rtape, .inl (ky 2, 940, .inl rtapeF))] H := hP
                have hD : va_D A [(reader, .inr (5, [.ref rtape, .int (nI rlength), .int (nI rmostBytes), .int (nI k15), .int (nI 2), .int (nI rbegin), .int rword, .int x16, .long w17, .int rfaultKind, .int rfaultPlace])), (rtape, .inl (ky 2, 940, .inl rtapeF))] := hD
                refine lv_goto (tgt := 180) hx hb dX5_readRun_158 (by decide) ?_
                rw [hQ]
                exact W.vret hx hb hr (fun t9 ht9 hW9 => ⟨⟨(k15, nI 2, x16, w17), rfl, ⟨j19, (lf_f_readRun_76 bt rlength rplace rbegin rtapeF k14 k15 x16 w17 n21 y34 y76 y118 iv_rreader_0 iv_rreader_1 iv_rreader_3 hTC hbp hpl hal j18 j19 jPl jRn jDc jNm jLt jLe hm23 c24 e35 t36 t37 t42 e77 t78 t79 t84 f120 c121 c124), (lf_f_readRun_77 bt rlength rplace rbegin rtapeF k14 k15 x16 w17 n21 y34 y76 y118 iv_rreader_0 iv_rreader_1 iv_rreader_3 hTC hbp hpl hal j18 j19 jPl jRn jDc jNm jLt jLe hm23 c24 e35 t36 t37 t42 e77 t78 t79 t84 f120 c121 c124), (lf_f_readRun_78 bt rlength rplace rbegin rtapeF k14 k15 x16 w17 n21 y34 y76 y118 iv_rreader_0 iv_rreader_1 iv_rreader_3 hTC hbp hpl hal j18 j19 jPl jRn jDc jNm jLt jLe hm23 c24 e35 t36 t37 t42 e77 t78 t79 t84 f120 c121 c124)⟩, by rw [ht9]; exact hP, va_K.moved hW9.alike hK, hD⟩, hS.F ht9⟩) hS.2.2 dX5_readRun_180
  exact hL20 ((940 - rplace) + 1) 0 rplace (nI 0) 0 (lf_f_readRun_79 bt rlength rplace rbegin rtapeF iv_rreader_0 iv_rreader_1 iv_rreader_3 hTC hbp hpl hal) iv_rreader_1 (lf_f_readRun_80 bt rlength rplace rbegin rtapeF iv_rreader_0 iv_rreader_1 iv_rreader_3 hTC hbp hpl hal) (lf_f_readRun_81 bt rlength rplace rbegin rtapeF iv_rreader_0 iv_rreader_1 iv_rreader_3 hTC hbp hpl hal) (lf_f_readRun_82 bt rlength rplace rbegin rtapeF iv_rreader_0 iv_rreader_1 iv_rreader_3 hTC hbp hpl hal) (lf_f_readRun_83 bt rlength rplace rbegin rtapeF iv_rreader_0 iv_rreader_1 iv_rreader_3 hTC hbp hpl hal) (lf_f_readRun_84 bt rlength rplace rbegin rtapeF iv_rreader_0 iv_rreader_1 iv_rreader_3 hTC hbp hpl hal) (lf_f_readRun_85 bt rlength rplace rbegin rtapeF iv_rreader_0 iv_rreader_1 iv_rreader_3 hTC hbp hpl hal) (Nat.lt_succ_self _) _ _ _ hP hD hS (lv_sub hl [0, 1] rfl)
