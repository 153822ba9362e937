section BookSpec
/-- one of some WORDS that follow each other -/
def pOne (B : Nat → Nat) (n m lo hi p : Nat) : Except (Nat × Nat) Nat :=
  if lo ≤ tW B n m p ∧ tW B n m p ≤ hi then .ok (tW B n m p - lo) else .error (1, tF B n m p)
/-- three readings, one behind the other -/
def p3 (B : Nat → Nat) (n m : Nat) (f g h : Nat → Except (Nat × Nat) Nat) (p : Nat) : Except (Nat × Nat) Nat :=
  match f p with
  | .error e => .error e
  | .ok _ => match g (tT B n m p) with
    | .error e => .error e
    | .ok _ => match h (tT B n m (tT B n m p)) with
      | .error e => .error e
      | .ok _ => .ok (tT B n m (tT B n m (tT B n m p)))
def p1 (B : Nat → Nat) (n m : Nat) (f : Nat → Except (Nat × Nat) Nat) (p : Nat) : Except (Nat × Nat) Nat :=
  match f p with
  | .error e => .error e
  | .ok _ => .ok (tT B n m p)
/-- what stands behind a LINE's first WORD w -/
def bRest (B : Nat → Nat) (n m w p : Nat) : Except (Nat × Nat) Nat :=
  if w = 7 then p3 B n m (pOne B n m 8 9) (pNum B n m 0 5) (pOne B n m 10 11) p
  else if w = 31 then p1 B n m (pOne B n m 12 15) p
  else if w = 18 then p1 B n m (pNum B n m 1 20) p
  else if w = 19 then p1 B n m (pNum B n m 1 60) p
  else p3 B n m (pNum B n m 0 5) (pNum B n m 0 5) (pNum B n m 1 9) p
abbrev bSort (w : Nat) : Prop := w = 7 ∨ w = 31 ∨ w = 16 ∨ w = 17 ∨ w = 18 ∨ w = 19
def bEnd (B : Nat → Nat) (n m : Nat) (x : Except (Nat × Nat) Nat) : Except (Nat × Nat) Nat :=
  match x with
  | .error e => .error e
  | .ok q => if tK B n m q = 59 then .ok (tT B n m q) else .error (1, tF B n m q)
/-- the LINE that begins at p, k of them ahead of it -/
def bLine (B : Nat → Nat) (n m : Nat) (ν : Nat → Nat) (L p k : Nat) : Except (Nat × Nat) Nat :=
  if ¬ bSort (tW B n m p) then .error (1, tF B n m p)
  else if tW B n m p = 31 ∧ ¬ isFd ν 6 L (tC B n p) then .error (3, tF B n m p)
  else if 40 ≤ k then .error (4, tF B n m p)
  else bEnd B n m (bRest B n m (tW B n m p) (tT B n m p))
def bLoop (B : Nat → Nat) (n m : Nat) (ν : Nat → Nat) (L : Nat) : Nat → Nat → Nat → Except (Nat × Nat) Nat
  | 0, _, _ => .error (0, 0)
  | f + 1, p, k => if tK B n m p = 0 then .ok k else
    match bLine B n m ν L p k with
    | .error e => .error e
    | .ok q => bLoop B n m ν L f q (k + 1)
/-- a BOOK -/
def pBook (B : Nat → Nat) (n : Nat) (ν : Nat → Nat) (L : Nat) : Except (Nat × Nat) Nat := bLoop B n 400 ν L 41 0 0
section BookRows
variable {B : Nat → Nat} {n m p k L lo hi v u x : Nat} {ν : Nat → Nat} {e : Nat × Nat} {f g h : Nat → Except (Nat × Nat) Nat}
theorem one_o (h1 : lo ≤ tW B n m p) (h2 : tW B n m p ≤ hi) : pOne B n m lo hi p = .ok (tW B n m p - lo) := if_pos ⟨h1, h2⟩
theorem one_e (h1 : ¬ (lo ≤ tW B n m p ∧ tW B n m p ≤ hi)) : pOne B n m lo hi p = .error (1, tF B n m p) := if_neg h1
theorem p1_o (h1 : f p = .ok v) : p1 B n m f p = .ok (tT B n m p) := by unfold p1; rw [h1]
theorem p1_e (h1 : f p = .error e) : p1 B n m f p = .error e := by unfold p1; rw [h1]
theorem p3_o (h1 : f p = .ok v) (h2 : g (tT B n m p) = .ok u) (h3 : h (tT B n m (tT B n m p)) = .ok x) : p3 B n m f g h p = .ok (tT B n m (tT B n m (tT B n m p))) := by unfold p3; rw [h1]; dsimp only; rw [h2]; dsimp only; rw [h3]
theorem p3_1 (h1 : f p = .error e) : p3 B n m f g h p = .error e := by unfold p3; rw [h1]
theorem p3_2 (h1 : f p = .ok v) (h2 : g (tT B n m p) = .error e) : p3 B n m f g h p = .error e := by unfold p3; rw [h1]; dsimp only; rw [h2]
theorem p3_3 (h1 : f p = .ok v) (h2 : g (tT B n m p) = .ok u) (h3 : h (tT B n m (tT B n m p)) = .error e) : p3 B n m f g h p = .error e := by unfold p3; rw [h1]; dsimp only; rw [h2]; dsimp only; rw [h3]
theorem br_7 : bRest B n m 7 p = p3 B n m (pOne B n m 8 9) (pNum B n m 0 5) (pOne B n m 10 11) p := if_pos rfl
theorem br_31 : bRest B n m 31 p = p1 B n m (pOne B n m 12 15) p := by unfold bRest; rw [if_neg (by decide), if_pos rfl]
theorem br_18 : bRest B n m 18 p = p1 B n m (pNum B n m 1 20) p := by unfold bRest; rw [if_neg (by decide), if_neg (by decide), if_pos rfl]
theorem br_19 : bRest B n m 19 p = p1 B n m (pNum B n m 1 60) p := by unfold bRest; rw [if_neg (by decide), if_neg (by decide), if_neg (by decide), if_pos rfl]
theorem br_16 : bRest B n m 16 p = p3 B n m (pNum B n m 0 5) (pNum B n m 0 5) (pNum B n m 1 9) p := by unfold bRest; rw [if_neg (by decide), if_neg (by decide), if_neg (by decide), if_neg (by decide)]
theorem br_17 : bRest B n m 17 p = p3 B n m (pNum B n m 0 5) (pNum B n m 0 5) (pNum B n m 1 9) p := by unfold bRest; rw [if_neg (by decide), if_neg (by decide), if_neg (by decide), if_neg (by decide)]
theorem bE_e {y : Except (Nat × Nat) Nat} (h1 : isO y = false) : bEnd B n m y = .error (erA y, erB y) := by
  cases y with
  | error e => rfl
  | ok v => exact Bool.noConfusion h1
theorem bE_s {y : Except (Nat × Nat) Nat} (h1 : isO y = true) (h2 : ¬ tK B n m (okV y) = 59) : bEnd B n m y = .error (1, tF B n m (okV y)) := by
  cases y with
  | error e => exact Bool.noConfusion h1
  | ok v => exact if_neg h2
theorem bE_o {y : Except (Nat × Nat) Nat} (h1 : isO y = true) (h2 : tK B n m (okV y) = 59) : bEnd B n m y = .ok (tT B n m (okV y)) := by
  cases y with
  | error e => exact Bool.noConfusion h1
  | ok v => exact if_pos h2
theorem bL_1 (h1 : ¬ bSort (tW B n m p)) : bLine B n m ν L p k = .error (1, tF B n m p) := if_pos h1
theorem bL_3 (h1 : tW B n m p = 31) (h2 : ¬ isFd ν 6 L (tC B n p)) : bLine B n m ν L p k = .error (3, tF B n m p) := by
  unfold bLine
  rw [if_neg (fun z => z (Or.inr (Or.inl h1))), if_pos ⟨h1, h2⟩]
theorem bL_4 (h1 : bSort (tW B n m p)) (h2 : tW B n m p = 31 → isFd ν 6 L (tC B n p)) (h3 : 40 ≤ k) : bLine B n m ν L p k = .error (4, tF B n m p) := by
  unfold bLine
  rw [if_neg (fun z => z h1), if_neg (fun z => z.2 (h2 z.1)), if_pos h3]
theorem bL_o (h1 : bSort (tW B n m p)) (h2 : tW B n m p = 31 → isFd ν 6 L (tC B n p)) (h3 : ¬ 40 ≤ k) : bLine B n m ν L p k = bEnd B n m (bRest B n m (tW B n m p) (tT B n m p)) := by
  unfold bLine
  rw [if_neg (fun z => z h1), if_neg (fun z => z.2 (h2 z.1)), if_neg h3]
theorem bP_end (h1 : tK B n m p = 0) (h2 : k ≤ 40) : bLoop B n m ν L (41 - k) p k = .ok k := by
  rw [show 41 - k = (40 - k) + 1 by omega, bLoop, if_pos h1]
theorem bP_err (h1 : ¬ tK B n m p = 0) (h2 : k ≤ 40) (h3 : isO (bLine B n m ν L p k) = false) : bLoop B n m ν L (41 - k) p k = .error (erA (bLine B n m ν L p k), erB (bLine B n m ν L p k)) := by
  rw [show 41 - k = (40 - k) + 1 by omega, bLoop, if_neg h1]
  cases h4 : bLine B n m ν L p k with
  | error e => rfl
  | ok v => rw [h4] at h3; exact Bool.noConfusion h3
theorem bP_step (h1 : ¬ tK B n m p = 0) (h2 : k ≤ 40) (h3 : isO (bLine B n m ν L p k) = true) : bLoop B n m ν L (41 - k) p k = bLoop B n m ν L (41 - (k + 1)) (okV (bLine B n m ν L p k)) (k + 1) := by
  rw [show 41 - k = (40 - k) + 1 by omega, bLoop, if_neg h1, show 41 - (k + 1) = 40 - k by omega]
  cases h4 : bLine B n m ν L p k with
  | error e => rw [h4] at h3; exact Bool.noConfusion h3
  | ok v => rfl
theorem bL_k (h1 : bSort (tW B n m p)) : tK B n m p = 2 := tW_2 (k := tW B n m p) rfl (by omega)
/-- the reference's boats -/
def NKb (ν : Nat → Nat) (L : Nat) (f : Nat → Int32) (g : Nat → Int64) : Prop := f 3 = nI L ∧ L ≤ 6 ∧ NLm ν 6 L g
end BookRows
end BookSpec
theorem bE_k {B : Nat → Nat} {n m q : Nat} (h : tK B n m q = 59) : bEnd B n m (.ok q) = .ok (tT B n m q) := if_pos h
theorem bE_n {B : Nat → Nat} {n m q : Nat} (h : ¬ tK B n m q = 59) : bEnd B n m (.ok q) = .error (1, tF B n m q) := if_neg h
theorem br_1716 {B : Nat → Nat} {n m p : Nat} : bRest B n m 17 p = bRest B n m 16 p := by rw [br_17, br_16]
set_option maxRecDepth 20000 in
theorem lf_f_takeWord8_1 (bt : Nat → Nat) (rlength : Nat) (rmostBytes : Nat) (rplace : Nat) (rkind : Int32) (rbegin : Nat) (rword : Int32) (rnumber : Int32) (rletters : Int64) (rtapeF : Nat → Int32) (gp : Nat) (rfaultKindG_5 : Int32) (rfaultPlaceG_6 : Int32) (iv_rreader_0 : rlength ≤ 940) (iv_rreader_1 : rplace ≤ rlength) (iv_rreader_2 : rmostBytes ≤ 900) (iv_rreader_3 : rbegin ≤ 940) (hTC : TC bt rtapeF) (hRT : RT bt rlength rmostBytes gp rkind rbegin rplace rword rnumber rletters) (c1 : rword < nI 8) (p8 : rfaultKindG_5 = (nI 1)) (p9 : rfaultPlaceG_6 = nI rbegin) : isO (pOne bt rlength rmostBytes 8 9 gp) = false ∧ rfaultKindG_5 = nI (erA (pOne bt rlength rmostBytes 8 9 gp)) ∧ rfaultPlaceG_6 = nI (erB (pOne bt rlength rmostBytes 8 9 gp)) := by
  have w3 := RT_w3 hRT
  have ns : ¬ (8 ≤ tW bt rlength rmostBytes gp ∧ tW bt rlength rmostBytes gp ≤ 9) := by
    intro z
    have b_rkind := ia_b rkind
    have b_rword := ia_b rword
    have b_rnumber := ia_b rnumber
    have b_rfaultKindG_5 := ia_b rfaultKindG_5
    have b_rfaultPlaceG_6 := ia_b rfaultPlaceG_6
    have b_rletters := Int64.toInt_lt rletters
    try have k_0 := ia_n 8 (by first | decide | omega)
    try have k_1 := ia_n 1 (by first | decide | omega)
    try have k_2 := ia_n rbegin (by first | decide | omega)
    try have k_3 := ia_n (erA (pOne bt rlength rmostBytes 8 9 gp)) (by first | decide | omega)
    try have k_4 := ia_n (erB (pOne bt rlength rmostBytes 8 9 gp)) (by first | decide | omega)
    try simp only [ia_lt, ia_le, ia_eq, ia_m1, ia_0, ia_1, ne_eq, true_and, and_true, false_and, and_false, or_false, false_or, or_true, true_or, not_true_eq_false, not_false_eq_true] at *
    all_goals omega
  rw [one_e ns]
  exact ⟨rfl, ‹_›, (Eq.trans (by assumption : _ = nI rbegin) (congrArg nI hRT.2.1))⟩
set_option maxRecDepth 20000 in
theorem lf_f_takeWord8_2 (bt : Nat → Nat) (rlength : Nat) (rmostBytes : Nat) (rplace : Nat) (rkind : Int32) (rbegin : Nat) (rword : Int32) (rnumber : Int32) (rletters : Int64) (rtapeF : Nat → Int32) (gp : Nat) (iv_rreader_0 : rlength ≤ 940) (iv_rreader_1 : rplace ≤ rlength) (iv_rreader_2 : rmostBytes ≤ 900) (iv_rreader_3 : rbegin ≤ 940) (hTC : TC bt rtapeF) (hRT : RT bt rlength rmostBytes gp rkind rbegin rplace rword rnumber rletters) (c1 : ¬ rword < nI 8) (c10 : rword ≤ nI 9) : 0 ≤ rword.toInt ∧ rword.toInt < ((10 : Nat) : Int) := by
  have b_rkind := ia_b rkind
  have b_rword := ia_b rword
  have b_rnumber := ia_b rnumber
  have b_rletters := Int64.toInt_lt rletters
  try have k_0 := ia_n 8 (by first | decide | omega)
  try have k_1 := ia_n 9 (by first | decide | omega)
  try simp only [ia_lt, ia_le, ia_eq, ia_m1, ia_0, ia_1, ne_eq, true_and, and_true, false_and, and_false, or_false, false_or, or_true, true_or, not_true_eq_false, not_false_eq_true] at *
  all_goals omega
set_option maxRecDepth 20000 in
theorem lf_f_takeWord8_3 (bt : Nat → Nat) (rlength : Nat) (rmostBytes : Nat) (rplace : Nat) (rkind : Int32) (rbegin : Nat) (rword : Int32) (rnumber : Int32) (rletters : Int64) (rtapeF : Nat → Int32) (gp : Nat) (n11 : Nat) (iv_rreader_0 : rlength ≤ 940) (iv_rreader_1 : rplace ≤ rlength) (iv_rreader_2 : rmostBytes ≤ 900) (iv_rreader_3 : rbegin ≤ 940) (hTC : TC bt rtapeF) (hRT : RT bt rlength rmostBytes gp rkind rbegin rplace rword rnumber rletters) (c1 : ¬ rword < nI 8) (c10 : rword ≤ nI 9) (h12 : n11 < 10) (e13 : rword = nI n11) : 8 ≤ n11 := by
  have b_rkind := ia_b rkind
  have b_rword := ia_b rword
  have b_rnumber := ia_b rnumber
  have b_rletters := Int64.toInt_lt rletters
  try have k_0 := ia_n 8 (by first | decide | omega)
  try have k_1 := ia_n 9 (by first | decide | omega)
  try have k_2 := ia_n n11 (by first | decide | omega)
  try simp only [ia_lt, ia_le, ia_eq, ia_m1, ia_0, ia_1, ne_eq, true_and, and_true, false_and, and_false, or_false, false_or, or_true, true_or, not_true_eq_false, not_false_eq_true] at *
  all_goals omega
set_option maxRecDepth 20000 in
theorem lf_f_takeWord8_4 (bt : Nat → Nat) (rlength : Nat) (rmostBytes : Nat) (rplace : Nat) (rkind : Int32) (rbegin : Nat) (rword : Int32) (rnumber : Int32) (rletters : Int64) (rtapeF : Nat → Int32) (gp : Nat) (n11 : Nat) (iv_rreader_0 : rlength ≤ 940) (iv_rreader_1 : rplace ≤ rlength) (iv_rreader_2 : rmostBytes ≤ 900) (iv_rreader_3 : rbegin ≤ 940) (hTC : TC bt rtapeF) (hRT : RT bt rlength rmostBytes gp rkind rbegin rplace rword rnumber rletters) (c1 : ¬ rword < nI 8) (c10 : rword ≤ nI 9) (h12 : n11 < 10) (e13 : rword = nI n11) (f14 : 8 ≤ n11) : 8 ≤ n11 := by
  have b_rkind := ia_b rkind
  have b_rword := ia_b rword
  have b_rnumber := ia_b rnumber
  have b_rletters := Int64.toInt_lt rletters
  try have k_0 := ia_n 8 (by first | decide | omega)
  try have k_1 := ia_n 9 (by first | decide | omega)
  try have k_2 := ia_n n11 (by first | decide | omega)
  try simp only [ia_lt, ia_le, ia_eq, ia_m1, ia_0, ia_1, ne_eq, true_and, and_true, false_and, and_false, or_false, false_or, or_true, true_or, not_true_eq_false, not_false_eq_true] at *
  all_goals omega
set_option maxRecDepth 20000 in
theorem lf_f_takeWord8_5 (bt : Nat → Nat) (rlength : Nat) (rmostBytes : Nat) (rplace : Nat) (rkind : Int32) (rbegin : Nat) (rword : Int32) (rnumber : Int32) (rletters : Int64) (rfaultKind : Int32) (rfaultPlace : Int32) (rtapeF : Nat → Int32) (gp : Nat) (n11 : Nat) (rplaceG_17 : Nat) (rkindG_18 : Int32) (rbeginG_19 : Nat) (rwordG_20 : Int32) (rnumberG_21 : Int32) (rlettersG_22 : Int64) (iv_rreader_0 : rlength ≤ 940) (iv_rreader_1 : rplace ≤ rlength) (iv_rreader_2 : rmostBytes ≤ 900) (iv_rreader_3 : rbegin ≤ 940) (hTC : TC bt rtapeF) (hRT : RT bt rlength rmostBytes gp rkind rbegin rplace rword rnumber rletters) (c1 : ¬ rword < nI 8) (c10 : rword ≤ nI 9) (h12 : n11 < 10) (e13 : rword = nI n11) (f14 : 8 ≤ n11) (p23 : rplaceG_17 ≤ rlength) (p24 : rbeginG_19 ≤ 940) (p25 : RT bt rlength rmostBytes (tT bt rlength rmostBytes gp) rkindG_18 rbeginG_19 rplaceG_17 rwordG_20 rnumberG_21 rlettersG_22) : (n11 - 8) < 8 ∧ isO (pOne bt rlength rmostBytes 8 9 gp) = true ∧ RT bt rlength rmostBytes (tT bt rlength rmostBytes gp) rkindG_18 rbeginG_19 rplaceG_17 rwordG_20 rnumberG_21 rlettersG_22 ∧ rfaultKind = rfaultKind ∧ rfaultPlace = rfaultPlace := by
  have w3 := RT_w3 hRT
  have ys : 8 ≤ tW bt rlength rmostBytes gp ∧ tW bt rlength rmostBytes gp ≤ 9 := by
    have b_rkind := ia_b rkind
    have b_rword := ia_b rword
    have b_rnumber := ia_b rnumber
    have b_rfaultKind := ia_b rfaultKind
    have b_rfaultPlace := ia_b rfaultPlace
    have b_rkindG_18 := ia_b rkindG_18
    have b_rwordG_20 := ia_b rwordG_20
    have b_rnumberG_21 := ia_b rnumberG_21
    have b_rletters := Int64.toInt_lt rletters
    have b_rlettersG_22 := Int64.toInt_lt rlettersG_22
    try have k_0 := ia_n 8 (by first | decide | omega)
    try have k_1 := ia_n 9 (by first | decide | omega)
    try have k_2 := ia_n n11 (by first | decide | omega)
    try simp only [ia_lt, ia_le, ia_eq, ia_m1, ia_0, ia_1, ne_eq, true_and, and_true, false_and, and_false, or_false, false_or, or_true, true_or, not_true_eq_false, not_false_eq_true] at *
    all_goals omega
  rw [one_o ys.1 ys.2]
  exact ⟨by omega, rfl, ‹_›, (by first | rfl | assumption | (subst_vars; rfl) | (subst_vars; assumption)), (by first | rfl | assumption | (subst_vars; rfl) | (subst_vars; assumption))⟩
set_option maxRecDepth 20000 in
theorem lf_f_takeWord8_6 (bt : Nat → Nat) (rlength : Nat) (rmostBytes : Nat) (rplace : Nat) (rkind : Int32) (rbegin : Nat) (rword : Int32) (rnumber : Int32) (rletters : Int64) (rtapeF : Nat → Int32) (gp : Nat) (rfaultKindG_29 : Int32) (rfaultPlaceG_30 : Int32) (iv_rreader_0 : rlength ≤ 940) (iv_rreader_1 : rplace ≤ rlength) (iv_rreader_2 : rmostBytes ≤ 900) (iv_rreader_3 : rbegin ≤ 940) (hTC : TC bt rtapeF) (hRT : RT bt rlength rmostBytes gp rkind rbegin rplace rword rnumber rletters) (c1 : ¬ rword < nI 8) (c10 : ¬ rword ≤ nI 9) (p32 : rfaultKindG_29 = (nI 1)) (p33 : rfaultPlaceG_30 = nI rbegin) : isO (pOne bt rlength rmostBytes 8 9 gp) = false ∧ rfaultKindG_29 = nI (erA (pOne bt rlength rmostBytes 8 9 gp)) ∧ rfaultPlaceG_30 = nI (erB (pOne bt rlength rmostBytes 8 9 gp)) := by
  have w3 := RT_w3 hRT
  have ns : ¬ (8 ≤ tW bt rlength rmostBytes gp ∧ tW bt rlength rmostBytes gp ≤ 9) := by
    intro z
    have b_rkind := ia_b rkind
    have b_rword := ia_b rword
    have b_rnumber := ia_b rnumber
    have b_rfaultKindG_29 := ia_b rfaultKindG_29
    have b_rfaultPlaceG_30 := ia_b rfaultPlaceG_30
    have b_rletters := Int64.toInt_lt rletters
    try have k_0 := ia_n 8 (by first | decide | omega)
    try have k_1 := ia_n 9 (by first | decide | omega)
    try have k_2 := ia_n 1 (by first | decide | omega)
    try have k_3 := ia_n rbegin (by first | decide | omega)
    try have k_4 := ia_n (erA (pOne bt rlength rmostBytes 8 9 gp)) (by first | decide | omega)
    try have k_5 := ia_n (erB (pOne bt rlength rmostBytes 8 9 gp)) (by first | decide | omega)
    try simp only [ia_lt, ia_le, ia_eq, ia_m1, ia_0, ia_1, ne_eq, true_and, and_true, false_and, and_false, or_false, false_or, or_true, true_or, not_true_eq_false, not_false_eq_true] at *
    all_goals omega
  rw [one_e ns]
  exact ⟨rfl, ‹_›, (Eq.trans (by assumption : _ = nI rbegin) (congrArg nI hRT.2.1))⟩
set_option maxHeartbeats 4000000 in
set_option maxRecDepth 100000 in
theorem c_f_takeWord8 (l : Launch) (dC : Nat → ClassId) (dI : Nat → Nat → Nat) (ky : Nat → ClassId) (sz : Nat) (adK : Nat → Nat) (adV : Nat → Nat) (bt : Nat → Nat) (reader : Nat) (rtape : Nat) (rlength : Nat) (rmostBytes : Nat) (rplace : Nat) (rkind : Int32) (rbegin : Nat) (rword : Int32) (rnumber : Int32) (rletters : Int64) (rfaultKind : Int32) (rfaultPlace : Int32) (rtapeF : Nat → Int32) (gp : Nat) (iv_rreader_0 : rlength ≤ 940) (iv_rreader_1 : rplace ≤ rlength) (iv_rreader_2 : rmostBytes ≤ 900) (iv_rreader_3 : rbegin ≤ 940) (hTC : TC bt rtapeF) (hRT : RT bt rlength rmostBytes gp rkind rbegin rplace rword rnumber rletters) : Met l yX5_takeWord wsX5_takeWord ({ frames := 6, cells := 0, slots := 0, locals := 131 }) (PcUE dC dI ky adK adV [.ref reader, .int (nI 8), .int (nI 9)] [(reader, .inr (5, [.ref rtape, .int (nI rlength), .int (nI rmostBytes), .int (nI rplace), .int rkind, .int (nI rbegin), .int rword, .int rnumber, .long rletters, .int rfaultKind, .int rfaultPlace])), (rtape, .inl (ky 2, 940, .inl rtapeF))] sz) (va_Qi (fun (r : Int32) (u : Nat × Int32 × Nat × Int32 × Int32 × Int64 × Int32 × Int32) => match u with | (rplaceG, rkindG, rbeginG, rwordG, rnumberG, rlettersG, rfaultKindG, rfaultPlaceG) => ((r = (-1 : Int32) ∧ (isO (pOne bt rlength rmostBytes 8 9 gp) = false ∧ rfaultKindG = nI (erA (pOne bt rlength rmostBytes 8 9 gp)) ∧ rfaultPlaceG = nI (erB (pOne bt rlength rmostBytes 8 9 gp)))) ∨ (∃ k9 : Nat, (k9 < 8 ∧ isO (pOne bt rlength rmostBytes 8 9 gp) = true ∧ RT bt rlength rmostBytes (tT bt rlength rmostBytes gp) rkindG rbeginG rplaceG rwordG rnumberG rlettersG ∧ rfaultKindG = rfaultKind ∧ rfaultPlaceG = rfaultPlace) ∧ r = nI k9)) ∧ (rplaceG ≤ rlength) ∧ (rbeginG ≤ 940)) (BU dC dI ky (fun (u : Nat × Int32 × Nat × Int32 × Int32 × Int64 × Int32 × Int32) => match u with | (rplaceG, rkindG, rbeginG, rwordG, rnumberG, rlettersG, rfaultKindG, rfaultPlaceG) => [(reader, .inr (5, [.ref rtape, .int (nI rlength), .int (nI rmostBytes), .int (nI rplaceG), .int rkindG, .int (nI rbeginG), .int rwordG, .int rnumberG, .long rlettersG, .int rfaultKindG, .int rfaultPlaceG])), (rtape, .inl (ky 2, 940, .inl rtapeF))]) (va_A [(reader, .inr (5, [.ref rtape, .int (nI rlength), .int (nI rmostBytes), .int (nI rplace), .int rkind, .int (nI rbegin), .int rword, .int rnumber, .long rletters, .int rfaultKind, .int rfaultPlace])), (rtape, .inl (ky 2, 940, .inl rtapeF))] sz)) (va_A [(reader, .inr (5, [.ref rtape, .int (nI rlength), .int (nI rmostBytes), .int (nI rplace), .int rkind, .int (nI rbegin), .int rword, .int rnumber, .long rletters, .int rfaultKind, .int rfaultPlace])), (rtape, .inl (ky 2, 940, .inl rtapeF))] sz)) 0 0 (va_A [(reader, .inr (5, [.ref rtape, .int (nI rlength), .int (nI rmostBytes), .int (nI rplace), .int rkind, .int (nI rbegin), .int rword, .int rnumber, .long rletters, .int rfaultKind, .int rfaultPlace])), (rtape, .inl (ky 2, 940, .inl rtapeF))] sz) := by
  refine Met.ofW (cc := cX5_takeWord) (maxL := 4) (ret := (some .int)) (by decide) rfl ?_
  intro p e s m args below meth c s₁ B hml hv
  obtain ⟨rfl, hsz, hP, hK, hD0, hE⟩ := hv
  have hx := B.exec
  have hb := B.bytes
  have hr := B.returns
  have hts := atoms_spec (ws := wsX5_takeWord) B.pre
  have hown : s.vm.findClass RX5 = some m.cls := findClass_of_methodNamed B.named
  have hlocks := B.notSynchronized
  have hin5 : ∀ w ∈ u_ws RX5 TX5 11, w ∈ wsX5_takeWord := by decide +kernel
  subst hsz
  have hD := hD0.self (sz := s.heap.size)
  generalize hAe : va_A [(reader, .inr (5, [.ref rtape, .int (nI rlength), .int (nI rmostBytes), .int (nI rplace), .int rkind, .int (nI rbegin), .int rword, .int rnumber, .long rletters, .int rfaultKind, .int rfaultPlace])), (rtape, .inl (ky 2, 940, .inl rtapeF))] s.heap.size = A at hD hE ⊢
  have hA : ∀ q : Nat, s.heap.size ≤ q → A q := fun q h => by rw [← hAe]; exact Or.inr h
  have hS : va_S A s.heap s.heap [] := va_S.rf
  have hl := lv_entry ([.ref reader, .int (nI 8), .int (nI 9)]) (n := 4) (Nat.le_of_ble_eq_true rfl)
  rw [lg_entry_eq]
  generalize (lg_sl ([.ref reader, .int (nI 8), .int (nI 9)]) ++ List.replicate (4 - (lg_sl ([.ref reader, .int (nI 8), .int (nI 9)])).length) Slot.unset).toArray = ls at hl ⊢
  have hl : lv_has ls 4 [(0, .ref reader), (1, .int (nI 8)), (2, .int (nI 9))] := hl
  refine q_name (fun Q hQ => ?_)
  generalize ([.ref reader, .int (nI 8), .int (nI 9)] : List Value).toArray = args at hts hQ ⊢
  refine lv_aload_n hx hb dX5_takeWord_0 rfl (lv_at hl 0 rfl) ?_
  refine va_get (D := (dC, dI)) (ci := 5) (v := .int rword) (C := RX5) (T := TX5) (N := 11) hx hb hts hin5 hown hK hP 0 rfl rfl 6 (by decide) (hts (.fieldLink RX5 43 "PorridgeSea$Reader" "word" "I") (List.mem_of_getElem? (i := 1) rfl)) (fun _ h9 => h9) rfl dX5_takeWord_1 ?_
  refine lv_iload_n hx hb dX5_takeWord_4 rfl (lv_at hl 1 rfl) ?_
  refine lv_icmp_lt (tgt := 16) hx hb dX5_takeWord_5 (by decide) (fun c1 => ?_) (fun c1 => ?_)
  · refine lv_aload_n hx hb dX5_takeWord_16 rfl (lv_at hl 0 rfl) ?_
    refine lv_iconst (v := nI 1) hx hb dX5_takeWord_17 (by decide) ?_
    refine r_call_i (wr := [(rtape, .inl (ky 2, 940, .inl rtapeF))]) (va_runV (As := [.int (nI 1)]) (rest := []) ⟨hx, hb, hml, hown, hts⟩ (c_f_refuse l dC dI ky s.heap.size reader rtape rlength rmostBytes rplace rkind rbegin rword rnumber rletters rfaultKind rfaultPlace (nI 1) iv_rreader_0 iv_rreader_1 iv_rreader_2 iv_rreader_3) (cwV 1 hts gX5_takeWord_X5_refuse rfl rfl rfl (by decide +kernel) ⟨(Nat.le_of_ble_eq_true rfl), (Nat.le_of_ble_eq_true rfl)⟩) (pre_UV hK hP hD [0] (by decide) rfl (ci := 5) (q0 := 0) rfl rfl) rfl rfl hl.1 rfl (lv_room (Nat.le_of_ble_eq_true rfl)) dX5_takeWord_18 ⟨(Nat.le_of_ble_eq_true rfl), (Nat.le_of_ble_eq_true rfl)⟩) hP hD hS hA [0] [1] rfl rfl (by decide) (by decide) (fun r4 u2 H locs p3 hP hD hS => ?_)
    obtain ⟨rfaultKindG_5, rfaultPlaceG_6⟩ := u2
    try dsimp only at p3
    obtain ⟨p7, p8, p9⟩ := p3
    refine W.widen (k := 0) (n := 0) (Nat.le_of_ble_eq_true rfl) (Nat.le_of_ble_eq_true rfl) ?_
    have hP : va_P (dC, dI) vwCl [(rtape, .inl (ky 2, 940, .inl rtapeF)), (reader, .inr (5, [.ref rtape, .int (nI rlength), .int (nI rmostBytes), .int (nI rplace), .int rkind, .int (nI rbegin), .int rword, .int rnumber, .long rletters, .int rfaultKindG_5, .int rfaultPlaceG_6]))] H := hP
    have hD : va_D A [(rtape, .inl (ky 2, 940, .inl rtapeF)), (reader, .inr (5, [.ref rtape, .int (nI rlength), .int (nI rmostBytes), .int (nI rplace), .int rkind, .int (nI rbegin), .int rword, .int rnumber, .long rletters, .int rfaultKindG_5, .int rfaultPlaceG_6]))] := hD
    subst p7
    refine lv_pop hx hb dX5_takeWord_21 rfl ?_
    refine lv_iconst (v := (-1 : Int32)) hx hb dX5_takeWord_22 (by decide) ?_
    rw [hQ]
    have hP9 := hP.sub (ws' := [(reader, .inr (5, [.ref rtape, .int (nI rlength), .int (nI rmostBytes), .int (nI rplace), .int rkind, .int (nI rbegin), .int rword, .int rnumber, .long rletters, .int rfaultKindG_5, .int rfaultPlaceG_6])), (rtape, .inl (ky 2, 940, .inl rtapeF))]) [1, 0] rfl
    have hD9 := hD.sub (ws' := [(reader, .inr (5, [.ref rtape, .int (nI rlength), .int (nI rmostBytes), .int (nI rplace), .int rkind, .int (nI rbegin), .int rword, .int rnumber, .long rletters, .int rfaultKindG_5, .int rfaultPlaceG_6])), (rtape, .inl (ky 2, 940, .inl rtapeF))]) [1, 0] (by decide) rfl
    exact W.iret (v := (-1 : Int32)) hx hb hr (fun t9 ht9 hW9 => ⟨⟨(-1 : Int32), (rplace, rkind, rbegin, rword, rnumber, rletters, rfaultKindG_5, rfaultPlaceG_6), rfl, ⟨(Or.inl ⟨rfl, (lf_f_takeWord8_1 bt rlength rmostBytes rplace rkind rbegin rword rnumber rletters rtapeF gp rfaultKindG_5 rfaultPlaceG_6 iv_rreader_0 iv_rreader_1 iv_rreader_2 iv_rreader_3 hTC hRT c1 p8 p9)⟩), iv_rreader_1, iv_rreader_3⟩, by rw [ht9]; exact hP9, va_K.moved hW9.alike hK, hD9⟩, hS.F ht9⟩) hS.2.2 dX5_takeWord_23
  · refine lv_aload_n hx hb dX5_takeWord_8 rfl (lv_at hl 0 rfl) ?_
    refine va_get (D := (dC, dI)) (ci := 5) (v := .int rword) (C := RX5) (T := TX5) (N := 11) hx hb hts hin5 hown hK hP 0 rfl rfl 6 (by decide) (hts (.fieldLink RX5 43 "PorridgeSea$Reader" "word" "I") (List.mem_of_getElem? (i := 1) rfl)) (fun _ h9 => h9) rfl dX5_takeWord_9 ?_
    refine lv_iload_n hx hb dX5_takeWord_12 rfl (lv_at hl 2 rfl) ?_
    refine lv_icmp_le (tgt := 24) hx hb dX5_takeWord_13 (by decide) (fun c10 => ?_) (fun c10 => ?_)
    · refine lv_aload_n hx hb dX5_takeWord_24 rfl (lv_at hl 0 rfl) ?_
      refine va_get (D := (dC, dI)) (ci := 5) (v := .int rword) (C := RX5) (T := TX5) (N := 11) hx hb hts hin5 hown hK hP 0 rfl rfl 6 (by decide) (hts (.fieldLink RX5 43 "PorridgeSea$Reader" "word" "I") (List.mem_of_getElem? (i := 1) rfl)) (fun _ h9 => h9) rfl dX5_takeWord_25 ?_
      refine lv_iload_n hx hb dX5_takeWord_28 rfl (lv_at hl 1 rfl) ?_
      obtain ⟨n11, h12, e13⟩ := nat_of rword 10 (by decide) (lf_f_takeWord8_2 bt rlength rmostBytes rplace rkind rbegin rword rnumber rletters rtapeF gp iv_rreader_0 iv_rreader_1 iv_rreader_2 iv_rreader_3 hTC hRT c1 c10)
      have f14 : 8 ≤ n11 := (lf_f_takeWord8_3 bt rlength rmostBytes rplace rkind rbegin rword rnumber rletters rtapeF gp n11 iv_rreader_0 iv_rreader_1 iv_rreader_2 iv_rreader_3 hTC hRT c1 c10 h12 e13)
      rw [e13]
      refine lv_isub hx hb dX5_takeWord_29 ?_
      refine r_ti (nI (n11 - 8)) (pk_sub (lf_f_takeWord8_4 bt rlength rmostBytes rplace rkind rbegin rword rnumber rletters rtapeF gp n11 iv_rreader_0 iv_rreader_1 iv_rreader_2 iv_rreader_3 hTC hRT c1 c10 h12 e13 f14)) ?_
      refine lv_istore_n (lv' := [(3, .int (nI (n11 - 8))), (0, .ref reader), (1, .int (nI 8)), (2, .int (nI 9))]) hx hb dX5_takeWord_30 rfl hl (by decide) rfl (fun ls hl => ?_)
      refine lv_aload_n hx hb dX5_takeWord_31 rfl (lv_at hl 1 rfl) ?_
      refine r_call_v (wr := []) (va_runV (As := []) (rest := []) ⟨hx, hb, hml, hown, hts⟩ (c_f_adv l dC dI ky s.heap.size adK adV bt reader rtape rlength rmostBytes rplace rkind rbegin rword rnumber rletters rfaultKind rfaultPlace rtapeF (tT bt rlength rmostBytes gp) iv_rreader_0 iv_rreader_1 iv_rreader_2 iv_rreader_3 hTC hRT.2.2.1) (cwV 0 hts gX5_takeWord_X5_advance rfl rfl rfl (by decide +kernel) ⟨(Nat.le_of_ble_eq_true rfl), (Nat.le_of_ble_eq_true rfl)⟩) (pre_UEV hE hS hA hK hP hD [0, 1] (by decide) rfl (va_recv hK hP (ci := 5) (q0 := 0) rfl rfl)) rfl rfl hl.1 rfl (lv_room (Nat.le_of_ble_eq_true rfl)) dX5_takeWord_32 ⟨(Nat.le_of_ble_eq_true rfl), (Nat.le_of_ble_eq_true rfl)⟩) hP hD hS hA [0, 1] [] rfl rfl (by decide) (by decide) (fun  u15 H locs p16 hP hD hS => ?_)
      obtain ⟨rplaceG_17, rkindG_18, rbeginG_19, rwordG_20, rnumberG_21, rlettersG_22⟩ := u15
      try dsimp only at p16
      obtain ⟨p23, p24, p25⟩ := p16
      refine W.widen (k := 0) (n := 0) (Nat.le_of_ble_eq_true rfl) (Nat.le_of_ble_eq_true rfl) ?_
      have hP : va_P (dC, dI) vwCl [(reader, .inr (5, [.ref rtape, .int (nI rlength), .int (nI rmostBytes), .int (nI rplaceG_17), .int rkindG_18, .int (nI rbeginG_19), .int rwordG_20, .int rnumberG_21, .long rlettersG_22, .int rfaultKind, .int rfaultPlace])), (rtape, .inl (ky 2, 940, .inl rtapeF))] H := hP
      have hD : va_D A [(reader, .inr (5, [.ref rtape, .int (nI rlength), .int (nI rmostBytes), .int (nI rplaceG_17), .int rkindG_18, .int (nI rbeginG_19), .int rwordG_20, .int rnumberG_21, .long rlettersG_22, .int rfaultKind, .int rfaultPlace])), (rtape, .inl (ky 2, 940, .inl rtapeF))] := hD
      refine lv_iload_n hx hb dX5_takeWord_35 rfl (lv_at hl 0 rfl) ?_
      rw [hQ]
      exact W.iret (v := nI (n11 - 8)) hx hb hr (fun t9 ht9 hW9 => ⟨⟨nI (n11 - 8), (rplaceG_17, rkindG_18, rbeginG_19, rwordG_20, rnumberG_21, rlettersG_22, rfaultKind, rfaultPlace), rfl, ⟨(Or.inr ⟨(n11 - 8), (lf_f_takeWord8_5 bt rlength rmostBytes rplace rkind rbegin rword rnumber rletters rfaultKind rfaultPlace rtapeF gp n11 rplaceG_17 rkindG_18 rbeginG_19 rwordG_20 rnumberG_21 rlettersG_22 iv_rreader_0 iv_rreader_1 iv_rreader_2 iv_rreader_3 hTC hRT c1 c10 h12 e13 f14 p23 p24 p25), rfl⟩), p23, p24⟩, by rw [ht9]; exact hP, va_K.moved hW9.alike hK, hD⟩, hS.F ht9⟩) hS.2.2 dX5_takeWord_36
    · refine lv_aload_n hx hb dX5_takeWord_16 rfl (lv_at hl 0 rfl) ?_
      refine lv_iconst (v := nI 1) hx hb dX5_takeWord_17 (by decide) ?_
      refine r_call_i (wr := [(rtape, .inl (ky 2, 940, .inl rtapeF))]) (va_runV (As := [.int (nI 1)]) (rest := []) ⟨hx, hb, hml, hown, hts⟩ (c_f_refuse l dC dI ky s.heap.size reader rtape rlength rmostBytes rplace rkind rbegin rword rnumber rletters rfaultKind rfaultPlace (nI 1) iv_rreader_0 iv_rreader_1 iv_rreader_2 iv_rreader_3) (cwV 1 hts gX5_takeWord_X5_refuse rfl rfl rfl (by decide +kernel) ⟨(Nat.le_of_ble_eq_true rfl), (Nat.le_of_ble_eq_true rfl)⟩) (pre_UV hK hP hD [0] (by decide) rfl (ci := 5) (q0 := 0) rfl rfl) rfl rfl hl.1 rfl (lv_room (Nat.le_of_ble_eq_true rfl)) dX5_takeWord_18 ⟨(Nat.le_of_ble_eq_true rfl), (Nat.le_of_ble_eq_true rfl)⟩) hP hD hS hA [0] [1] rfl rfl (by decide) (by decide) (fun r28 u26 H locs p27 hP hD hS => ?_)
      obtain ⟨rfaultKindG_29, rfaultPlaceG_30⟩ := u26
      try dsimp only at p27
      obtain ⟨p31, p32, p33⟩ := p27
      refine W.widen (k := 0) (n := 0) (Nat.le_of_ble_eq_true rfl) (Nat.le_of_ble_eq_true rfl) ?_
      have hP : va_P (dC, dI) vwCl [(rtape, .inl (ky 2, 940, .inl rtapeF)), (reader, .inr (5, [.ref rtape, .int (nI rlength), .int (nI rmostBytes), .int (nI rplace), .int rkind, .int (nI rbegin), .int rword, .int rnumber, .long rletters, .int rfaultKindG_29, .int rfaultPlaceG_30]))] H := hP
      have hD : va_D A [(rtape, .inl (ky 2, 940, .inl rtapeF)), (reader, .inr (5, [.ref rtape, .int (nI rlength), .int (nI rmostBytes), .int (nI rplace), .int rkind, .int (nI rbegin), .int rword, .int rnumber, .long rletters, .int rfaultKindG_29, .int rfaultPlaceG_30]))] := hD
      subst p31
      refine lv_pop hx hb dX5_takeWord_21 rfl ?_
      refine lv_iconst (v := (-1 : Int32)) hx hb dX5_takeWord_22 (by decide) ?_
      rw [hQ]
      have hP9 := hP.sub (ws' := [(reader, .inr (5, [.ref rtape, .int (nI rlength), .int (nI rmostBytes), .int (nI rplace), .int rkind, .int (nI rbegin), .int rword, .int rnumber, .long rletters, .int rfaultKindG_29, .int rfaultPlaceG_30])), (rtape, .inl (ky 2, 940, .inl rtapeF))]) [1, 0] rfl
      have hD9 := hD.sub (ws' := [(reader, .inr (5, [.ref rtape, .int (nI rlength), .int (nI rmostBytes), .int (nI rplace), .int rkind, .int (nI rbegin), .int rword, .int rnumber, .long rletters, .int rfaultKindG_29, .int rfaultPlaceG_30])), (rtape, .inl (ky 2, 940, .inl rtapeF))]) [1, 0] (by decide) rfl
      exact W.iret (v := (-1 : Int32)) hx hb hr (fun t9 ht9 hW9 => ⟨⟨(-1 : Int32), (rplace, rkind, rbegin, rword, rnumber, rletters, rfaultKindG_29, rfaultPlaceG_30), rfl, ⟨(Or.inl ⟨rfl, (lf_f_takeWord8_6 bt rlength rmostBytes rplace rkind rbegin rword rnumber rletters rtapeF gp rfaultKindG_29 rfaultPlaceG_30 iv_rreader_0 iv_rreader_1 iv_rreader_2 iv_rreader_3 hTC hRT c1 c10 p32 p33)⟩), iv_rreader_1, iv_rreader_3⟩, by rw [ht9]; exact hP9, va_K.moved hW9.alike hK, hD9⟩, hS.F ht9⟩) hS.2.2 dX5_takeWord_23
set_option maxRecDepth 20000 in
theorem lf_f_takeWord10_1 (bt : Nat → Nat) (rlength : Nat) (rmostBytes : Nat) (rplace : Nat) (rkind : Int32) (rbegin : Nat) (rword : Int32) (rnumber : Int32) (rletters : Int64) (rtapeF : Nat → Int32) (gp : Nat) (rfaultKindG_5 : Int32) (rfaultPlaceG_6 : Int32) (iv_rreader_0 : rlength ≤ 940) (iv_rreader_1 : rplace ≤ rlength) (iv_rreader_2 : rmostBytes ≤ 900) (iv_rreader_3 : rbegin ≤ 940) (hTC : TC bt rtapeF) (hRT : RT bt rlength rmostBytes gp rkind rbegin rplace rword rnumber rletters) (c1 : rword < nI 10) (p8 : rfaultKindG_5 = (nI 1)) (p9 : rfaultPlaceG_6 = nI rbegin) : isO (pOne bt rlength rmostBytes 10 11 gp) = false ∧ rfaultKindG_5 = nI (erA (pOne bt rlength rmostBytes 10 11 gp)) ∧ rfaultPlaceG_6 = nI (erB (pOne bt rlength rmostBytes 10 11 gp)) := by
  have w3 := RT_w3 hRT
  have ns : ¬ (10 ≤ tW bt rlength rmostBytes gp ∧ tW bt rlength rmostBytes gp ≤ 11) := by
    intro z
    have b_rkind := ia_b rkind
    have b_rword := ia_b rword
    have b_rnumber := ia_b rnumber
    have b_rfaultKindG_5 := ia_b rfaultKindG_5
    have b_rfaultPlaceG_6 := ia_b rfaultPlaceG_6
    have b_rletters := Int64.toInt_lt rletters
    try have k_0 := ia_n 10 (by first | decide | omega)
    try have k_1 := ia_n 1 (by first | decide | omega)
    try have k_2 := ia_n rbegin (by first | decide | omega)
    try have k_3 := ia_n (erA (pOne bt rlength rmostBytes 10 11 gp)) (by first | decide | omega)
    try have k_4 := ia_n (erB (pOne bt rlength rmostBytes 10 11 gp)) (by first | decide | omega)
    try simp only [ia_lt, ia_le, ia_eq, ia_m1, ia_0, ia_1, ne_eq, true_and, and_true, false_and, and_false, or_false, false_or, or_true, true_or, not_true_eq_false, not_false_eq_true] at *
    all_goals omega
  rw [one_e ns]
  exact ⟨rfl, ‹_›, (Eq.trans (by assumption : _ = nI rbegin) (congrArg nI hRT.2.1))⟩
set_option maxRecDepth 20000 in
theorem lf_f_takeWord10_2 (bt : Nat → Nat) (rlength : Nat) (rmostBytes : Nat) (rplace : Nat) (rkind : Int32) (rbegin : Nat) (rword : Int32) (rnumber : Int32) (rletters : Int64) (rtapeF : Nat → Int32) (gp : Nat) (iv_rreader_0 : rlength ≤ 940) (iv_rreader_1 : rplace ≤ rlength) (iv_rreader_2 : rmostBytes ≤ 900) (iv_rreader_3 : rbegin ≤ 940) (hTC : TC bt rtapeF) (hRT : RT bt rlength rmostBytes gp rkind rbegin rplace rword rnumber rletters) (c1 : ¬ rword < nI 10) (c10 : rword ≤ nI 11) : 0 ≤ rword.toInt ∧ rword.toInt < ((12 : Nat) : Int) := by
  have b_rkind := ia_b rkind
  have b_rword := ia_b rword
  have b_rnumber := ia_b rnumber
  have b_rletters := Int64.toInt_lt rletters
  try have k_0 := ia_n 10 (by first | decide | omega)
  try have k_1 := ia_n 11 (by first | decide | omega)
  try simp only [ia_lt, ia_le, ia_eq, ia_m1, ia_0, ia_1, ne_eq, true_and, and_true, false_and, and_false, or_false, false_or, or_true, true_or, not_true_eq_false, not_false_eq_true] at *
  all_goals omega
set_option maxRecDepth 20000 in
theorem lf_f_takeWord10_3 (bt : Nat → Nat) (rlength : Nat) (rmostBytes : Nat) (rplace : Nat) (rkind : Int32) (rbegin : Nat) (rword : Int32) (rnumber : Int32) (rletters : Int64) (rtapeF : Nat → Int32) (gp : Nat) (n11 : Nat) (iv_rreader_0 : rlength ≤ 940) (iv_rreader_1 : rplace ≤ rlength) (iv_rreader_2 : rmostBytes ≤ 900) (iv_rreader_3 : rbegin ≤ 940) (hTC : TC bt rtapeF) (hRT : RT bt rlength rmostBytes gp rkind rbegin rplace rword rnumber rletters) (c1 : ¬ rword < nI 10) (c10 : rword ≤ nI 11) (h12 : n11 < 12) (e13 : rword = nI n11) : 10 ≤ n11 := by
  have b_rkind := ia_b rkind
  have b_rword := ia_b rword
  have b_rnumber := ia_b rnumber
  have b_rletters := Int64.toInt_lt rletters
  try have k_0 := ia_n 10 (by first | decide | omega)
  try have k_1 := ia_n 11 (by first | decide | omega)
  try have k_2 := ia_n n11 (by first | decide | omega)
  try simp only [ia_lt, ia_le, ia_eq, ia_m1, ia_0, ia_1, ne_eq, true_and, and_true, false_and, and_false, or_false, false_or, or_true, true_or, not_true_eq_false, not_false_eq_true] at *
  all_goals omega
set_option maxRecDepth 20000 in
theorem lf_f_takeWord10_4 (bt : Nat → Nat) (rlength : Nat) (rmostBytes : Nat) (rplace : Nat) (rkind : Int32) (rbegin : Nat) (rword : Int32) (rnumber : Int32) (rletters : Int64) (rtapeF : Nat → Int32) (gp : Nat) (n11 : Nat) (iv_rreader_0 : rlength ≤ 940) (iv_rreader_1 : rplace ≤ rlength) (iv_rreader_2 : rmostBytes ≤ 900) (iv_rreader_3 : rbegin ≤ 940) (hTC : TC bt rtapeF) (hRT : RT bt rlength rmostBytes gp rkind rbegin rplace rword rnumber rletters) (c1 : ¬ rword < nI 10) (c10 : rword ≤ nI 11) (h12 : n11 < 12) (e13 : rword = nI n11) (f14 : 10 ≤ n11) : 10 ≤ n11 := by
  have b_rkind := ia_b rkind
  have b_rword := ia_b rword
  have b_rnumber := ia_b rnumber
  have b_rletters := Int64.toInt_lt rletters
  try have k_0 := ia_n 10 (by first | decide | omega)
  try have k_1 := ia_n 11 (by first | decide | omega)
  try have k_2 := ia_n n11 (by first | decide | omega)
  try simp only [ia_lt, ia_le, ia_eq, ia_m1, ia_0, ia_1, ne_eq, true_and, and_true, false_and, and_false, or_false, false_or, or_true, true_or, not_true_eq_false, not_false_eq_true] at *
  all_goals omega
set_option maxRecDepth 20000 in
theorem lf_f_takeWord10_5 (bt : Nat → Nat) (rlength : Nat) (rmostBytes : Nat) (rplace : Nat) (rkind : Int32) (rbegin : Nat) (rword : Int32) (rnumber : Int32) (rletters : Int64) (rfaultKind : Int32) (rfaultPlace : Int32) (rtapeF : Nat → Int32) (gp : Nat) (n11 : Nat) (rplaceG_17 : Nat) (rkindG_18 : Int32) (rbeginG_19 : Nat) (rwordG_20 : Int32) (rnumberG_21 : Int32) (rlettersG_22 : Int64) (iv_rreader_0 : rlength ≤ 940) (iv_rreader_1 : rplace ≤ rlength) (iv_rreader_2 : rmostBytes ≤ 900) (iv_rreader_3 : rbegin ≤ 940) (hTC : TC bt rtapeF) (hRT : RT bt rlength rmostBytes gp rkind rbegin rplace rword rnumber rletters) (c1 : ¬ rword < nI 10) (c10 : rword ≤ nI 11) (h12 : n11 < 12) (e13 : rword = nI n11) (f14 : 10 ≤ n11) (p23 : rplaceG_17 ≤ rlength) (p24 : rbeginG_19 ≤ 940) (p25 : RT bt rlength rmostBytes (tT bt rlength rmostBytes gp) rkindG_18 rbeginG_19 rplaceG_17 rwordG_20 rnumberG_21 rlettersG_22) : (n11 - 10) < 8 ∧ isO (pOne bt rlength rmostBytes 10 11 gp) = true ∧ RT bt rlength rmostBytes (tT bt rlength rmostBytes gp) rkindG_18 rbeginG_19 rplaceG_17 rwordG_20 rnumberG_21 rlettersG_22 ∧ rfaultKind = rfaultKind ∧ rfaultPlace = rfaultPlace := by
  have w3 := RT_w3 hRT
  have ys : 10 ≤ tW bt rlength rmostBytes gp ∧ tW bt rlength rmostBytes gp ≤ 11 := by
    have b_rkind := ia_b rkind
    have b_rword := ia_b rword
    have b_rnumber := ia_b rnumber
    have b_rfaultKind := ia_b rfaultKind
    have b_rfaultPlace := ia_b rfaultPlace
    have b_rkindG_18 := ia_b rkindG_18
    have b_rwordG_20 := ia_b rwordG_20
    have b_rnumberG_21 := ia_b rnumberG_21
    have b_rletters := Int64.toInt_lt rletters
    have b_rlettersG_22 := Int64.toInt_lt rlettersG_22
    try have k_0 := ia_n 10 (by first | decide | omega)
    try have k_1 := ia_n 11 (by first | decide | omega)
    try have k_2 := ia_n n11 (by first | decide | omega)
    try simp only [ia_lt, ia_le, ia_eq, ia_m1, ia_0, ia_1, ne_eq, true_and, and_true, false_and, and_false, or_false, false_or, or_true, true_or, not_true_eq_false, not_false_eq_true] at *
    all_goals omega
  rw [one_o ys.1 ys.2]
  exact ⟨by omega, rfl, ‹_›, (by first | rfl | assumption | (subst_vars; rfl) | (subst_vars; assumption)), (by first | rfl | assumption | (subst_vars; rfl) | (subst_vars; assumption))⟩
set_option maxRecDepth 20000 in
theorem lf_f_takeWord10_6 (bt : Nat → Nat) (rlength : Nat) (rmostBytes : Nat) (rplace : Nat) (rkind : Int32) (rbegin : Nat) (rword : Int32) (rnumber : Int32) (rletters : Int64) (rtapeF : Nat → Int32) (gp : Nat) (rfaultKindG_29 : Int32) (rfaultPlaceG_30 : Int32) (iv_rreader_0 : rlength ≤ 940) (iv_rreader_1 : rplace ≤ rlength) (iv_rreader_2 : rmostBytes ≤ 900) (iv_rreader_3 : rbegin ≤ 940) (hTC : TC bt rtapeF) (hRT : RT bt rlength rmostBytes gp rkind rbegin rplace rword rnumber rletters) (c1 : ¬ rword < nI 10) (c10 : ¬ rword ≤ nI 11) (p32 : rfaultKindG_29 = (nI 1)) (p33 : rfaultPlaceG_30 = nI rbegin) : isO (pOne bt rlength rmostBytes 10 11 gp) = false ∧ rfaultKindG_29 = nI (erA (pOne bt rlength rmostBytes 10 11 gp)) ∧ rfaultPlaceG_30 = nI (erB (pOne bt rlength rmostBytes 10 11 gp)) := by
  have w3 := RT_w3 hRT
  have ns : ¬ (10 ≤ tW bt rlength rmostBytes gp ∧ tW bt rlength rmostBytes gp ≤ 11) := by
    intro z
    have b_rkind := ia_b rkind
    have b_rword := ia_b rword
    have b_rnumber := ia_b rnumber
    have b_rfaultKindG_29 := ia_b rfaultKindG_29
    have b_rfaultPlaceG_30 := ia_b rfaultPlaceG_30
    have b_rletters := Int64.toInt_lt rletters
    try have k_0 := ia_n 10 (by first | decide | omega)
    try have k_1 := ia_n 11 (by first | decide | omega)
    try have k_2 := ia_n 1 (by first | decide | omega)
    try have k_3 := ia_n rbegin (by first | decide | omega)
    try have k_4 := ia_n (erA (pOne bt rlength rmostBytes 10 11 gp)) (by first | decide | omega)
    try have k_5 := ia_n (erB (pOne bt rlength rmostBytes 10 11 gp)) (by first | decide | omega)
    try simp only [ia_lt, ia_le, ia_eq, ia_m1, ia_0, ia_1, ne_eq, true_and, and_true, false_and, and_false, or_false, false_or, or_true, true_or, not_true_eq_false, not_false_eq_true] at *
    all_goals omega
  rw [one_e ns]
  exact ⟨rfl, ‹_›, (Eq.trans (by assumption : _ = nI rbegin) (congrArg nI hRT.2.1))⟩
set_option maxHeartbeats 4000000 in
set_option maxRecDepth 100000 in
theorem c_f_takeWord10 (l : Launch) (dC : Nat → ClassId) (dI : Nat → Nat → Nat) (ky : Nat → ClassId) (sz : Nat) (adK : Nat → Nat) (adV : Nat → Nat) (bt : Nat → Nat) (reader : Nat) (rtape : Nat) (rlength : Nat) (rmostBytes : Nat) (rplace : Nat) (rkind : Int32) (rbegin : Nat) (rword : Int32) (rnumber : Int32) (rletters : Int64) (rfaultKind : Int32) (rfaultPlace : Int32) (rtapeF : Nat → Int32) (gp : Nat) (iv_rreader_0 : rlength ≤ 940) (iv_rreader_1 : rplace ≤ rlength) (iv_rreader_2 : rmostBytes ≤ 900) (iv_rreader_3 : rbegin ≤ 940) (hTC : TC bt rtapeF) (hRT : RT bt rlength rmostBytes gp rkind rbegin rplace rword rnumber rletters) : Met l yX5_takeWord wsX5_takeWord ({ frames := 6, cells := 0, slots := 0, locals := 131 }) (PcUE dC dI ky adK adV [.ref reader, .int (nI 10), .int (nI 11)] [(reader, .inr (5, [.ref rtape, .int (nI rlength), .int (nI rmostBytes), .int (nI rplace), .int rkind, .int (nI rbegin), .int rword, .int rnumber, .long rletters, .int rfaultKind, .int rfaultPlace])), (rtape, .inl (ky 2, 940, .inl rtapeF))] sz) (va_Qi (fun (r : Int32) (u : Nat × Int32 × Nat × Int32 × Int32 × Int64 × Int32 × Int32) => match u with | (rplaceG, rkindG, rbeginG, rwordG, rnumberG, rlettersG, rfaultKindG, rfaultPlaceG) => ((r = (-1 : Int32) ∧ (isO (pOne bt rlength rmostBytes 10 11 gp) = false ∧ rfaultKindG = nI (erA (pOne bt rlength rmostBytes 10 11 gp)) ∧ rfaultPlaceG = nI (erB (pOne bt rlength rmostBytes 10 11 gp)))) ∨ (∃ k9 : Nat, (k9 < 8 ∧ isO (pOne bt rlength rmostBytes 10 11 gp) = true ∧ RT bt rlength rmostBytes (tT bt rlength rmostBytes gp) rkindG rbeginG rplaceG rwordG rnumberG rlettersG ∧ rfaultKindG = rfaultKind ∧ rfaultPlaceG = rfaultPlace) ∧ r = nI k9)) ∧ (rplaceG ≤ rlength) ∧ (rbeginG ≤ 940)) (BU dC dI ky (fun (u : Nat × Int32 × Nat × Int32 × Int32 × Int64 × Int32 × Int32) => match u with | (rplaceG, rkindG, rbeginG, rwordG, rnumberG, rlettersG, rfaultKindG, rfaultPlaceG) => [(reader, .inr (5, [.ref rtape, .int (nI rlength), .int (nI rmostBytes), .int (nI rplaceG), .int rkindG, .int (nI rbeginG), .int rwordG, .int rnumberG, .long rlettersG, .int rfaultKindG, .int rfaultPlaceG])), (rtape, .inl (ky 2, 940, .inl rtapeF))]) (va_A [(reader, .inr (5, [.ref rtape, .int (nI rlength), .int (nI rmostBytes), .int (nI rplace), .int rkind, .int (nI rbegin), .int rword, .int rnumber, .long rletters, .int rfaultKind, .int rfaultPlace])), (rtape, .inl (ky 2, 940, .inl rtapeF))] sz)) (va_A [(reader, .inr (5, [.ref rtape, .int (nI rlength), .int (nI rmostBytes), .int (nI rplace), .int rkind, .int (nI rbegin), .int rword, .int rnumber, .long rletters, .int rfaultKind, .int rfaultPlace])), (rtape, .inl (ky 2, 940, .inl rtapeF))] sz)) 0 0 (va_A [(reader, .inr (5, [.ref rtape, .int (nI rlength), .int (nI rmostBytes), .int (nI rplace), .int rkind, .int (nI rbegin), .int rword, .int rnumber, .long rletters, .int rfaultKind, .int rfaultPlace])), (rtape, .inl (ky 2, 940, .inl rtapeF))] sz) := by
  refine Met.ofW (cc := cX5_takeWord) (maxL := 4) (ret := (some .int)) (by decide) rfl ?_
  intro p e s m args below meth c s₁ B hml hv
  obtain ⟨rfl, hsz, hP, hK, hD0, hE⟩ := hv
  have hx := B.exec
  have hb := B.bytes
  have hr := B.returns
  have hts := atoms_spec (ws := wsX5_takeWord) B.pre
  have hown : s.vm.findClass RX5 = some m.cls := findClass_of_methodNamed B.named
  have hlocks := B.notSynchronized
  have hin5 : ∀ w ∈ u_ws RX5 TX5 11, w ∈ wsX5_takeWord := by decide +kernel
  subst hsz
  have hD := hD0.self (sz := s.heap.size)
  generalize hAe : va_A [(reader, .inr (5, [.ref rtape, .int (nI rlength), .int (nI rmostBytes), .int (nI rplace), .int rkind, .int (nI rbegin), .int rword, .int rnumber, .long rletters, .int rfaultKind, .int rfaultPlace])), (rtape, .inl (ky 2, 940, .inl rtapeF))] s.heap.size = A at hD hE ⊢
  have hA : ∀ q : Nat, s.heap.size ≤ q → A q := fun q h => by rw [← hAe]; exact Or.inr h
  have hS : va_S A s.heap s.heap [] := va_S.rf
  have hl := lv_entry ([.ref reader, .int (nI 10), .int (nI 11)]) (n := 4) (Nat.le_of_ble_eq_true rfl)
  rw [lg_entry_eq]
  generalize (lg_sl ([.ref reader, .int (nI 10), .int (nI 11)]) ++ List.replicate (4 - (lg_sl ([.ref reader, .int (nI 10), .int (nI 11)])).length) Slot.unset).toArray = ls at hl ⊢
  have hl : lv_has ls 4 [(0, .ref reader), (1, .int (nI 10)), (2, .int (nI 11))] := hl
  refine q_name (fun Q hQ => ?_)
  generalize ([.ref reader, .int (nI 10), .int (nI 11)] : List Value).toArray = args at hts hQ ⊢
  refine lv_aload_n hx hb dX5_takeWord_0 rfl (lv_at hl 0 rfl) ?_
  refine va_get (D := (dC, dI)) (ci := 5) (v := .int rword) (C := RX5) (T := TX5) (N := 11) hx hb hts hin5 hown hK hP 0 rfl rfl 6 (by decide) (hts (.fieldLink RX5 43 "PorridgeSea$Reader" "word" "I") (List.mem_of_getElem? (i := 1) rfl)) (fun _ h9 => h9) rfl dX5_takeWord_1 ?_
  refine lv_iload_n hx hb dX5_takeWord_4 rfl (lv_at hl 1 rfl) ?_
  refine lv_icmp_lt (tgt := 16) hx hb dX5_takeWord_5 (by decide) (fun c1 => ?_) (fun c1 => ?_)
  · refine lv_aload_n hx hb dX5_takeWord_16 rfl (lv_at hl 0 rfl) ?_
    refine lv_iconst (v := nI 1) hx hb dX5_takeWord_17 (by decide) ?_
    refine r_call_i (wr := [(rtape, .inl (ky 2, 940, .inl rtapeF))]) (va_runV (As := [.int (nI 1)]) (rest := []) ⟨hx, hb, hml, hown, hts⟩ (c_f_refuse l dC dI ky s.heap.size reader rtape rlength rmostBytes rplace rkind rbegin rword rnumber rletters rfaultKind rfaultPlace (nI 1) iv_rreader_0 iv_rreader_1 iv_rreader_2 iv_rreader_3) (cwV 1 hts gX5_takeWord_X5_refuse rfl rfl rfl (by decide +kernel) ⟨(Nat.le_of_ble_eq_true rfl), (Nat.le_of_ble_eq_true rfl)⟩) (pre_UV hK hP hD [0] (by decide) rfl (ci := 5) (q0 := 0) rfl rfl) rfl rfl hl.1 rfl (lv_room (Nat.le_of_ble_eq_true rfl)) dX5_takeWord_18 ⟨(Nat.le_of_ble_eq_true rfl), (Nat.le_of_ble_eq_true rfl)⟩) hP hD hS hA [0] [1] rfl rfl (by decide) (by decide) (fun r4 u2 H locs p3 hP hD hS => ?_)
    obtain ⟨rfaultKindG_5, rfaultPlaceG_6⟩ := u2
    try dsimp only at p3
    obtain ⟨p7, p8, p9⟩ := p3
    refine W.widen (k := 0) (n := 0) (Nat.le_of_ble_eq_true rfl) (Nat.le_of_ble_eq_true rfl) ?_
    have hP : va_P (dC, dI) vwCl [(rtape, .inl (ky 2, 940, .inl rtapeF)), (reader, .inr (5, [.ref rtape, .int (nI rlength), .int (nI rmostBytes), .int (nI rplace), .int rkind, .int (nI rbegin), .int rword, .int rnumber, .long rletters, .int rfaultKindG_5, .int rfaultPlaceG_6]))] H := hP
    have hD : va_D A [(rtape, .inl (ky 2, 940, .inl rtapeF)), (reader, .inr (5, [.ref rtape, .int (nI rlength), .int (nI rmostBytes), .int (nI rplace), .int rkind, .int (nI rbegin), .int rword, .int rnumber, .long rletters, .int rfaultKindG_5, .int rfaultPlaceG_6]))] := hD
    subst p7
    refine lv_pop hx hb dX5_takeWord_21 rfl ?_
    refine lv_iconst (v := (-1 : Int32)) hx hb dX5_takeWord_22 (by decide) ?_
    rw [hQ]
    have hP9 := hP.sub (ws' := [(reader, .inr (5, [.ref rtape, .int (nI rlength), .int (nI rmostBytes), .int (nI rplace), .int rkind, .int (nI rbegin), .int rword, .int rnumber, .long rletters, .int rfaultKindG_5, .int rfaultPlaceG_6])), (rtape, .inl (ky 2, 940, .inl rtapeF))]) [1, 0] rfl
    have hD9 := hD.sub (ws' := [(reader, .inr (5, [.ref rtape, .int (nI rlength), .int (nI rmostBytes), .int (nI rplace), .int rkind, .int (nI rbegin), .int rword, .int rnumber, .long rletters, .int rfaultKindG_5, .int rfaultPlaceG_6])), (rtape, .inl (ky 2, 940, .inl rtapeF))]) [1, 0] (by decide) rfl
    exact W.iret (v := (-1 : Int32)) hx hb hr (fun t9 ht9 hW9 => ⟨⟨(-1 : Int32), (rplace, rkind, rbegin, rword, rnumber, rletters, rfaultKindG_5, rfaultPlaceG_6), rfl, ⟨(Or.inl ⟨rfl, (lf_f_takeWord10_1 bt rlength rmostBytes rplace rkind rbegin rword rnumber rletters rtapeF gp rfaultKindG_5 rfaultPlaceG_6 iv_rreader_0 iv_rreader_1 iv_rreader_2 iv_rreader_3 hTC hRT c1 p8 p9)⟩), iv_rreader_1, iv_rreader_3⟩, by rw [ht9]; exact hP9, va_K.moved hW9.alike hK, hD9⟩, hS.F ht9⟩) hS.2.2 dX5_takeWord_23
  · refine lv_aload_n hx hb dX5_takeWord_8 rfl (lv_at hl 0 rfl) ?_
    refine va_get (D := (dC, dI)) (ci := 5) (v := .int rword) (C := RX5) (T := TX5) (N := 11) hx hb hts hin5 hown hK hP 0 rfl rfl 6 (by decide) (hts (.fieldLink RX5 43 "PorridgeSea$Reader" "word" "I") (List.mem_of_getElem? (i := 1) rfl)) (fun _ h9 => h9) rfl dX5_takeWord_9 ?_
    refine lv_iload_n hx hb dX5_takeWord_12 rfl (lv_at hl 2 rfl) ?_
    refine lv_icmp_le (tgt := 24) hx hb dX5_takeWord_13 (by decide) (fun c10 => ?_) (fun c10 => ?_)
    · refine lv_aload_n hx hb dX5_takeWord_24 rfl (lv_at hl 0 rfl) ?_
      refine va_get (D := (dC, dI)) (ci := 5) (v := .int rword) (C := RX5) (T := TX5) (N := 11) hx hb hts hin5 hown hK hP 0 rfl rfl 6 (by decide) (hts (.fieldLink RX5 43 "PorridgeSea$Reader" "word" "I") (List.mem_of_getElem? (i := 1) rfl)) (fun _ h9 => h9) rfl dX5_takeWord_25 ?_
      refine lv_iload_n hx hb dX5_takeWord_28 rfl (lv_at hl 1 rfl) ?_
      obtain ⟨n11, h12, e13⟩ := nat_of rword 12 (by decide) (lf_f_takeWord10_2 bt rlength rmostBytes rplace rkind rbegin rword rnumber rletters rtapeF gp iv_rreader_0 iv_rreader_1 iv_rreader_2 iv_rreader_3 hTC hRT c1 c10)
      have f14 : 10 ≤ n11 := (lf_f_takeWord10_3 bt rlength rmostBytes rplace rkind rbegin rword rnumber rletters rtapeF gp n11 iv_rreader_0 iv_rreader_1 iv_rreader_2 iv_rreader_3 hTC hRT c1 c10 h12 e13)
      rw [e13]
      refine lv_isub hx hb dX5_takeWord_29 ?_
      refine r_ti (nI (n11 - 10)) (pk_sub (lf_f_takeWord10_4 bt rlength rmostBytes rplace rkind rbegin rword rnumber rletters rtapeF gp n11 iv_rreader_0 iv_rreader_1 iv_rreader_2 iv_rreader_3 hTC hRT c1 c10 h12 e13 f14)) ?_
      refine lv_istore_n (lv' := [(3, .int (nI (n11 - 10))), (0, .ref reader), (1, .int (nI 10)), (2, .int (nI 11))]) hx hb dX5_takeWord_30 rfl hl (by decide) rfl (fun ls hl => ?_)
      refine lv_aload_n hx hb dX5_takeWord_31 rfl (lv_at hl 1 rfl) ?_
      refine r_call_v (wr := []) (va_runV (As := []) (rest := []) ⟨hx, hb, hml, hown, hts⟩ (c_f_adv l dC dI ky s.heap.size adK adV bt reader rtape rlength rmostBytes rplace rkind rbegin rword rnumber rletters rfaultKind rfaultPlace rtapeF (tT bt rlength rmostBytes gp) iv_rreader_0 iv_rreader_1 iv_rreader_2 iv_rreader_3 hTC hRT.2.2.1) (cwV 0 hts gX5_takeWord_X5_advance rfl rfl rfl (by decide +kernel) ⟨(Nat.le_of_ble_eq_true rfl), (Nat.le_of_ble_eq_true rfl)⟩) (pre_UEV hE hS hA hK hP hD [0, 1] (by decide) rfl (va_recv hK hP (ci := 5) (q0 := 0) rfl rfl)) rfl rfl hl.1 rfl (lv_room (Nat.le_of_ble_eq_true rfl)) dX5_takeWord_32 ⟨(Nat.le_of_ble_eq_true rfl), (Nat.le_of_ble_eq_true rfl)⟩) hP hD hS hA [0, 1] [] rfl rfl (by decide) (by decide) (fun  u15 H locs p16 hP hD hS => ?_)
      obtain ⟨rplaceG_17, rkindG_18, rbeginG_19, rwordG_20, rnumberG_21, rlettersG_22⟩ := u15
      try dsimp only at p16
      obtain ⟨p23, p24, p25⟩ := p16
      refine W.widen (k := 0) (n := 0) (Nat.le_of_ble_eq_true rfl) (Nat.le_of_ble_eq_true rfl) ?_
      have hP : va_P (dC, dI) vwCl [(reader, .inr (5, [.ref rtape, .int (nI rlength), .int (nI rmostBytes), .int (nI rplaceG_17), .int rkindG_18, .int (nI rbeginG_19), .int rwordG_20, .int rnumberG_21, .long rlettersG_22, .int rfaultKind, .int rfaultPlace])), (rtape, .inl (ky 2, 940, .inl rtapeF))] H := hP
      have hD : va_D A [(reader, .inr (5, [.ref rtape, .int (nI rlength), .int (nI rmostBytes), .int (nI rplaceG_17), .int rkindG_18, .int (nI rbeginG_19), .int rwordG_20, .int rnumberG_21, .long rlettersG_22, .int rfaultKind, .int rfaultPlace])), (rtape, .inl (ky 2, 940, .inl rtapeF))] := hD
      refine lv_iload_n hx hb dX5_takeWord_35 rfl (lv_at hl 0 rfl) ?_
      rw [hQ]
      exact W.iret (v := nI (n11 - 10)) hx hb hr (fun t9 ht9 hW9 => ⟨⟨nI (n11 - 10), (rplaceG_17, rkindG_18, rbeginG_19, rwordG_20, rnumberG_21, rlettersG_22, rfaultKind, rfaultPlace), rfl, ⟨(Or.inr ⟨(n11 - 10), (lf_f_takeWord10_5 bt rlength rmostBytes rplace rkind rbegin rword rnumber rletters rfaultKind rfaultPlace rtapeF gp n11 rplaceG_17 rkindG_18 rbeginG_19 rwordG_20 rnumberG_21 rlettersG_22 iv_rreader_0 iv_rreader_1 iv_rreader_2 iv_rreader_3 hTC hRT c1 c10 h12 e13 f14 p23 p24 p25), rfl⟩), p23, p24⟩, by rw [ht9]; exact hP, va_K.moved hW9.alike hK, hD⟩, hS.F ht9⟩) hS.2.2 dX5_takeWord_36
    · refine lv_aload_n hx hb dX5_takeWord_16 rfl (lv_at hl 0 rfl) ?_
      refine lv_iconst (v := nI 1) hx hb dX5_takeWord_17 (by decide) ?_
      refine r_call_i (wr := [(rtape, .inl (ky 2, 940, .inl rtapeF))]) (va_runV (As := [.int (nI 1)]) (rest := []) ⟨hx, hb, hml, hown, hts⟩ (c_f_refuse l dC dI ky s.heap.size reader rtape rlength rmostBytes rplace rkind rbegin rword rnumber rletters rfaultKind rfaultPlace (nI 1) iv_rreader_0 iv_rreader_1 iv_rreader_2 iv_rreader_3) (cwV 1 hts gX5_takeWord_X5_refuse rfl rfl rfl (by decide +kernel) ⟨(Nat.le_of_ble_eq_true rfl), (Nat.le_of_ble_eq_true rfl)⟩) (pre_UV hK hP hD [0] (by decide) rfl (ci := 5) (q0 := 0) rfl rfl) rfl rfl hl.1 rfl (lv_room (Nat.le_of_ble_eq_true rfl)) dX5_takeWord_18 ⟨(Nat.le_of_ble_eq_true rfl), (Nat.le_of_ble_eq_true rfl)⟩) hP hD hS hA [0] [1] rfl rfl (by decide) (by decide) (fun r28 u26 H locs p27 hP hD hS => ?_)
      obtain ⟨rfaultKindG_29, rfaultPlaceG_30⟩ := u26
      try dsimp only at p27
      obtain ⟨p31, p32, p33⟩ := p27
      refine W.widen (k := 0) (n := 0) (Nat.le_of_ble_eq_true rfl) (Nat.le_of_ble_eq_true rfl) ?_
      have hP : va_P (dC, dI) vwCl [(rtape, .inl (ky 2, 940, .inl rtapeF)), (reader, .inr (5, [.ref rtape, .int (nI rlength), .int (nI rmostBytes), .int (nI rplace), .int rkind, .int (nI rbegin), .int rword, .int rnumber, .long rletters, .int rfaultKindG_29, .int rfaultPlaceG_30]))] H := hP
      have hD : va_D A [(rtape, .inl (ky 2, 940, .inl rtapeF)), (reader, .inr (5, [.ref rtape, .int (nI rlength), .int (nI rmostBytes), .int (nI rplace), .int rkind, .int (nI rbegin), .int rword, .int rnumber, .long rletters, .int rfaultKindG_29, .int rfaultPlaceG_30]))] := hD
      subst p31
      refine lv_pop hx hb dX5_takeWord_21 rfl ?_
      refine lv_iconst (v := (-1 : Int32)) hx hb dX5_takeWord_22 (by decide) ?_
      rw [hQ]
      have hP9 := hP.sub (ws' := [(reader, .inr (5, [.ref rtape, .int (nI rlength), .int (nI rmostBytes), .int (nI rplace), .int rkind, .int (nI rbegin), .int rword, .int rnumber, .long rletters, .int rfaultKindG_29, .int rfaultPlaceG_30])), (rtape, .inl (ky 2, 940, .inl rtapeF))]) [1, 0] rfl
      have hD9 := hD.sub (ws' := [(reader, .inr (5, [.ref rtape, .int (nI rlength), .int (nI rmostBytes), .int (nI rplace), .int rkind, .int (nI rbegin), .int rword, .int rnumber, .long rletters, .int rfaultKindG_29, .int rfaultPlaceG_30])), (rtape, .inl (ky 2, 940, .inl rtapeF))]) [1, 0] (by decide) rfl
      exact W.iret (v := (-1 : Int32)) hx hb hr (fun t9 ht9 hW9 => ⟨⟨(-1 : Int32), (rplace, rkind, rbegin, rword, rnumber, rletters, rfaultKindG_29, rfaultPlaceG_30), rfl, ⟨(Or.inl ⟨rfl, (lf_f_takeWord10_6 bt rlength rmostBytes rplace rkind rbegin rword rnumber rletters rtapeF gp rfaultKindG_29 rfaultPlaceG_30 iv_rreader_0 iv_rreader_1 iv_rreader_2 iv_rreader_3 hTC hRT c1 c10 p32 p33)⟩), iv_rreader_1, iv_rreader_3⟩, by rw [ht9]; exact hP9, va_K.moved hW9.alike hK, hD9⟩, hS.F ht9⟩) hS.2.2 dX5_takeWord_23
set_option maxRecDepth 20000 in
theorem lf_f_takeWord12_1 (bt : Nat → Nat) (rlength : Nat) (rmostBytes : Nat) (rplace : Nat) (rkind : Int32) (rbegin : Nat) (rword : Int32) (rnumber : Int32) (rletters : Int64) (rtapeF : Nat → Int32) (gp : Nat) (rfaultKindG_5 : Int32) (rfaultPlaceG_6 : Int32) (iv_rreader_0 : rlength ≤ 940) (iv_rreader_1 : rplace ≤ rlength) (iv_rreader_2 : rmostBytes ≤ 900) (iv_rreader_3 : rbegin ≤ 940) (hTC : TC bt rtapeF) (hRT : RT bt rlength rmostBytes gp rkind rbegin rplace rword rnumber rletters) (c1 : rword < nI 12) (p8 : rfaultKindG_5 = (nI 1)) (p9 : rfaultPlaceG_6 = nI rbegin) : isO (pOne bt rlength rmostBytes 12 15 gp) = false ∧ rfaultKindG_5 = nI (erA (pOne bt rlength rmostBytes 12 15 gp)) ∧ rfaultPlaceG_6 = nI (erB (pOne bt rlength rmostBytes 12 15 gp)) := by
  have w3 := RT_w3 hRT
  have ns : ¬ (12 ≤ tW bt rlength rmostBytes gp ∧ tW bt rlength rmostBytes gp ≤ 15) := by
    intro z
    have b_rkind := ia_b rkind
    have b_rword := ia_b rword
    have b_rnumber := ia_b rnumber
    have b_rfaultKindG_5 := ia_b rfaultKindG_5
    have b_rfaultPlaceG_6 := ia_b rfaultPlaceG_6
    have b_rletters := Int64.toInt_lt rletters
    try have k_0 := ia_n 12 (by first | decide | omega)
    try have k_1 := ia_n 1 (by first | decide | omega)
    try have k_2 := ia_n rbegin (by first | decide | omega)
    try have k_3 := ia_n (erA (pOne bt rlength rmostBytes 12 15 gp)) (by first | decide | omega)
    try have k_4 := ia_n (erB (pOne bt rlength rmostBytes 12 15 gp)) (by first | decide | omega)
    try simp only [ia_lt, ia_le, ia_eq, ia_m1, ia_0, ia_1, ne_eq, true_and, and_true, false_and, and_false, or_false, false_or, or_true, true_or, not_true_eq_false, not_false_eq_true] at *
    all_goals omega
  rw [one_e ns]
  exact ⟨rfl, ‹_›, (Eq.trans (by assumption : _ = nI rbegin) (congrArg nI hRT.2.1))⟩
set_option maxRecDepth 20000 in
theorem lf_f_takeWord12_2 (bt : Nat → Nat) (rlength : Nat) (rmostBytes : Nat) (rplace : Nat) (rkind : Int32) (rbegin : Nat) (rword : Int32) (rnumber : Int32) (rletters : Int64) (rtapeF : Nat → Int32) (gp : Nat) (iv_rreader_0 : rlength ≤ 940) (iv_rreader_1 : rplace ≤ rlength) (iv_rreader_2 : rmostBytes ≤ 900) (iv_rreader_3 : rbegin ≤ 940) (hTC : TC bt rtapeF) (hRT : RT bt rlength rmostBytes gp rkind rbegin rplace rword rnumber rletters) (c1 : ¬ rword < nI 12) (c10 : rword ≤ nI 15) : 0 ≤ rword.toInt ∧ rword.toInt < ((16 : Nat) : Int) := by
  have b_rkind := ia_b rkind
  have b_rword := ia_b rword
  have b_rnumber := ia_b rnumber
  have b_rletters := Int64.toInt_lt rletters
  try have k_0 := ia_n 12 (by first | decide | omega)
  try have k_1 := ia_n 15 (by first | decide | omega)
  try simp only [ia_lt, ia_le, ia_eq, ia_m1, ia_0, ia_1, ne_eq, true_and, and_true, false_and, and_false, or_false, false_or, or_true, true_or, not_true_eq_false, not_false_eq_true] at *
  all_goals omega
set_option maxRecDepth 20000 in
theorem lf_f_takeWord12_3 (bt : Nat → Nat) (rlength : Nat) (rmostBytes : Nat) (rplace : Nat) (rkind : Int32) (rbegin : Nat) (rword : Int32) (rnumber : Int32) (rletters : Int64) (rtapeF : Nat → Int32) (gp : Nat) (n11 : Nat) (iv_rreader_0 : rlength ≤ 940) (iv_rreader_1 : rplace ≤ rlength) (iv_rreader_2 : rmostBytes ≤ 900) (iv_rreader_3 : rbegin ≤ 940) (hTC : TC bt rtapeF) (hRT : RT bt rlength rmostBytes gp rkind rbegin rplace rword rnumber rletters) (c1 : ¬ rword < nI 12) (c10 : rword ≤ nI 15) (h12 : n11 < 16) (e13 : rword = nI n11) : 12 ≤ n11 := by
  have b_rkind := ia_b rkind
  have b_rword := ia_b rword
  have b_rnumber := ia_b rnumber
  have b_rletters := Int64.toInt_lt rletters
  try have k_0 := ia_n 12 (by first | decide | omega)
  try have k_1 := ia_n 15 (by first | decide | omega)
  try have k_2 := ia_n n11 (by first | decide | omega)
  try simp only [ia_lt, ia_le, ia_eq, ia_m1, ia_0, ia_1, ne_eq, true_and, and_true, false_and, and_false, or_false, false_or, or_true, true_or, not_true_eq_false, not_false_eq_true] at *
  all_goals omega
set_option maxRecDepth 20000 in
theorem lf_f_takeWord12_4 (bt : Nat → Nat) (rlength : Nat) (rmostBytes : Nat) (rplace : Nat) (rkind : Int32) (rbegin : Nat) (rword : Int32) (rnumber : Int32) (rletters : Int64) (rtapeF : Nat → Int32) (gp : Nat) (n11 : Nat) (iv_rreader_0 : rlength ≤ 940) (iv_rreader_1 : rplace ≤ rlength) (iv_rreader_2 : rmostBytes ≤ 900) (iv_rreader_3 : rbegin ≤ 940) (hTC : TC bt rtapeF) (hRT : RT bt rlength rmostBytes gp rkind rbegin rplace rword rnumber rletters) (c1 : ¬ rword < nI 12) (c10 : rword ≤ nI 15) (h12 : n11 < 16) (e13 : rword = nI n11) (f14 : 12 ≤ n11) : 12 ≤ n11 := by
  have b_rkind := ia_b rkind
  have b_rword := ia_b rword
  have b_rnumber := ia_b rnumber
  have b_rletters := Int64.toInt_lt rletters
  try have k_0 := ia_n 12 (by first | decide | omega)
  try have k_1 := ia_n 15 (by first | decide | omega)
  try have k_2 := ia_n n11 (by first | decide | omega)
  try simp only [ia_lt, ia_le, ia_eq, ia_m1, ia_0, ia_1, ne_eq, true_and, and_true, false_and, and_false, or_false, false_or, or_true, true_or, not_true_eq_false, not_false_eq_true] at *
  all_goals omega
set_option maxRecDepth 20000 in
theorem lf_f_takeWord12_5 (bt : Nat → Nat) (rlength : Nat) (rmostBytes : Nat) (rplace : Nat) (rkind : Int32) (rbegin : Nat) (rword : Int32) (rnumber : Int32) (rletters : Int64) (rfaultKind : Int32) (rfaultPlace : Int32) (rtapeF : Nat → Int32) (gp : Nat) (n11 : Nat) (rplaceG_17 : Nat) (rkindG_18 : Int32) (rbeginG_19 : Nat) (rwordG_20 : Int32) (rnumberG_21 : Int32) (rlettersG_22 : Int64) (iv_rreader_0 : rlength ≤ 940) (iv_rreader_1 : rplace ≤ rlength) (iv_rreader_2 : rmostBytes ≤ 900) (iv_rreader_3 : rbegin ≤ 940) (hTC : TC bt rtapeF) (hRT : RT bt rlength rmostBytes gp rkind rbegin rplace rword rnumber rletters) (c1 : ¬ rword < nI 12) (c10 : rword ≤ nI 15) (h12 : n11 < 16) (e13 : rword = nI n11) (f14 : 12 ≤ n11) (p23 : rplaceG_17 ≤ rlength) (p24 : rbeginG_19 ≤ 940) (p25 : RT bt rlength rmostBytes (tT bt rlength rmostBytes gp) rkindG_18 rbeginG_19 rplaceG_17 rwordG_20 rnumberG_21 rlettersG_22) : (n11 - 12) < 8 ∧ isO (pOne bt rlength rmostBytes 12 15 gp) = true ∧ RT bt rlength rmostBytes (tT bt rlength rmostBytes gp) rkindG_18 rbeginG_19 rplaceG_17 rwordG_20 rnumberG_21 rlettersG_22 ∧ rfaultKind = rfaultKind ∧ rfaultPlace = rfaultPlace := by
  have w3 := RT_w3 hRT
  have ys : 12 ≤ tW bt rlength rmostBytes gp ∧ tW bt rlength rmostBytes gp ≤ 15 := by
    have b_rkind := ia_b rkind
    have b_rword := ia_b rword
    have b_rnumber := ia_b rnumber
    have b_rfaultKind := ia_b rfaultKind
    have b_rfaultPlace := ia_b rfaultPlace
    have b_rkindG_18 := ia_b rkindG_18
    have b_rwordG_20 := ia_b rwordG_20
    have b_rnumberG_21 := ia_b rnumberG_21
    have b_rletters := Int64.toInt_lt rletters
    have b_rlettersG_22 := Int64.toInt_lt rlettersG_22
    try have k_0 := ia_n 12 (by first | decide | omega)
    try have k_1 := ia_n 15 (by first | decide | omega)
    try have k_2 := ia_n n11 (by first | decide | omega)
    try simp only [ia_lt, ia_le, ia_eq, ia_m1, ia_0, ia_1, ne_eq, true_and, and_true, false_and, and_false, or_false, false_or, or_true, true_or, not_true_eq_false, not_false_eq_true] at *
    all_goals omega
  rw [one_o ys.1 ys.2]
  exact ⟨by omega, rfl, ‹_›, (by first | rfl | assumption | (subst_vars; rfl) | (subst_vars; assumption)), (by first | rfl | assumption | (subst_vars; rfl) | (subst_vars; assumption))⟩
set_option maxRecDepth 20000 in
theorem lf_f_takeWord12_6 (bt : Nat → Nat) (rlength : Nat) (rmostBytes : Nat) (rplace : Nat) (rkind : Int32) (rbegin : Nat) (rword : Int32) (rnumber : Int32) (rletters : Int64) (rtapeF : Nat → Int32) (gp : Nat) (rfaultKindG_29 : Int32) (rfaultPlaceG_30 : Int32) (iv_rreader_0 : rlength ≤ 940) (iv_rreader_1 : rplace ≤ rlength) (iv_rreader_2 : rmostBytes ≤ 900) (iv_rreader_3 : rbegin ≤ 940) (hTC : TC bt rtapeF) (hRT : RT bt rlength rmostBytes gp rkind rbegin rplace rword rnumber rletters) (c1 : ¬ rword < nI 12) (c10 : ¬ rword ≤ nI 15) (p32 : rfaultKindG_29 = (nI 1)) (p33 : rfaultPlaceG_30 = nI rbegin) : isO (pOne bt rlength rmostBytes 12 15 gp) = false ∧ rfaultKindG_29 = nI (erA (pOne bt rlength rmostBytes 12 15 gp)) ∧ rfaultPlaceG_30 = nI (erB (pOne bt rlength rmostBytes 12 15 gp)) := by
  have w3 := RT_w3 hRT
  have ns : ¬ (12 ≤ tW bt rlength rmostBytes gp ∧ tW bt rlength rmostBytes gp ≤ 15) := by
    intro z
    have b_rkind := ia_b rkind
    have b_rword := ia_b rword
    have b_rnumber := ia_b rnumber
    have b_rfaultKindG_29 := ia_b rfaultKindG_29
    have b_rfaultPlaceG_30 := ia_b rfaultPlaceG_30
    have b_rletters := Int64.toInt_lt rletters
    try have k_0 := ia_n 12 (by first | decide | omega)
    try have k_1 := ia_n 15 (by first | decide | omega)
    try have k_2 := ia_n 1 (by first | decide | omega)
    try have k_3 := ia_n rbegin (by first | decide | omega)
    try have k_4 := ia_n (erA (pOne bt rlength rmostBytes 12 15 gp)) (by first | decide | omega)
    try have k_5 := ia_n (erB (pOne bt rlength rmostBytes 12 15 gp)) (by first | decide | omega)
    try simp only [ia_lt, ia_le, ia_eq, ia_m1, ia_0, ia_1, ne_eq, true_and, and_true, false_and, and_false, or_false, false_or, or_true, true_or, not_true_eq_false, not_false_eq_true] at *
    all_goals omega
  rw [one_e ns]
  exact ⟨rfl, ‹_›, (Eq.trans (by assumption : _ = nI rbegin) (congrArg nI hRT.2.1))⟩
set_option maxHeartbeats 4000000 in
set_option maxRecDepth 100000 in
theorem c_f_takeWord12 (l : Launch) (dC : Nat → ClassId) (dI : Nat → Nat → Nat) (ky : Nat → ClassId) (sz : Nat) (adK : Nat → Nat) (adV : Nat → Nat) (bt : Nat → Nat) (reader : Nat) (rtape : Nat) (rlength : Nat) (rmostBytes : Nat) (rplace : Nat) (rkind : Int32) (rbegin : Nat) (rword : Int32) (rnumber : Int32) (rletters : Int64) (rfaultKind : Int32) (rfaultPlace : Int32) (rtapeF : Nat → Int32) (gp : Nat) (iv_rreader_0 : rlength ≤ 940) (iv_rreader_1 : rplace ≤ rlength) (iv_rreader_2 : rmostBytes ≤ 900) (iv_rreader_3 : rbegin ≤ 940) (hTC : TC bt rtapeF) (hRT : RT bt rlength rmostBytes gp rkind rbegin rplace rword rnumber rletters) : Met l yX5_takeWord wsX5_takeWord ({ frames := 6, cells := 0, slots := 0, locals := 131 }) (PcUE dC dI ky adK adV [.ref reader, .int (nI 12), .int (nI 15)] [(reader, .inr (5, [.ref rtape, .int (nI rlength), .int (nI rmostBytes), .int (nI rplace), .int rkind, .int (nI rbegin), .int rword, .int rnumber, .long rletters, .int rfaultKind, .int rfaultPlace])), (rtape, .inl (ky 2, 940, .inl rtapeF))] sz) (va_Qi (fun (r : Int32) (u : Nat × Int32 × Nat × Int32 × Int32 × Int64 × Int32 × Int32) => match u with | (rplaceG, rkindG, rbeginG, rwordG, rnumberG, rlettersG, rfaultKindG, rfaultPlaceG) => ((r = (-1 : Int32) ∧ (isO (pOne bt rlength rmostBytes 12 15 gp) = false ∧ rfaultKindG = nI (erA (pOne bt rlength rmostBytes 12 15 gp)) ∧ rfaultPlaceG = nI (erB (pOne bt rlength rmostBytes 12 15 gp)))) ∨ (∃ k9 : Nat, (k9 < 8 ∧ isO (pOne bt rlength rmostBytes 12 15 gp) = true ∧ RT bt rlength rmostBytes (tT bt rlength rmostBytes gp) rkindG rbeginG rplaceG rwordG rnumberG rlettersG ∧ rfaultKindG = rfaultKind ∧ rfaultPlaceG = rfaultPlace) ∧ r = nI k9)) ∧ (rplaceG ≤ rlength) ∧ (rbeginG ≤ 940)) (BU dC dI ky (fun (u : Nat × Int32 × Nat × Int32 × Int32 × Int64 × Int32 × Int32) => match u with | (rplaceG, rkindG, rbeginG, rwordG, rnumberG, rlettersG, rfaultKindG, rfaultPlaceG) => [(reader, .inr (5, [.ref rtape, .int (nI rlength), .int (nI rmostBytes), .int (nI rplaceG), .int rkindG, .int (nI rbeginG), .int rwordG, .int rnumberG, .long rlettersG, .int rfaultKindG, .int rfaultPlaceG])), (rtape, .inl (ky 2, 940, .inl rtapeF))]) (va_A [(reader, .inr (5, [.ref rtape, .int (nI rlength), .int (nI rmostBytes), .int (nI rplace), .int rkind, .int (nI rbegin), .int rword, .int rnumber, .long rletters, .int rfaultKind, .int rfaultPlace])), (rtape, .inl (ky 2, 940, .inl rtapeF))] sz)) (va_A [(reader, .inr (5, [.ref rtape, .int (nI rlength), .int (nI rmostBytes), .int (nI rplace), .int rkind, .int (nI rbegin), .int rword, .int rnumber, .long rletters, .int rfaultKind, .int rfaultPlace])), (rtape, .inl (ky 2, 940, .inl rtapeF))] sz)) 0 0 (va_A [(reader, .inr (5, [.ref rtape, .int (nI rlength), .int (nI rmostBytes), .int (nI rplace), .int rkind, .int (nI rbegin), .int rword, .int rnumber, .long rletters, .int rfaultKind, .int rfaultPlace])), (rtape, .inl (ky 2, 940, .inl rtapeF))] sz) := by
  refine Met.ofW (cc := cX5_takeWord) (maxL := 4) (ret := (some .int)) (by decide) rfl ?_
  intro p e s m args below meth c s₁ B hml hv
  obtain ⟨rfl, hsz, hP, hK, hD0, hE⟩ := hv
  have hx := B.exec
  have hb := B.bytes
  have hr := B.returns
  have hts := atoms_spec (ws := wsX5_takeWord) B.pre
  have hown : s.vm.findClass RX5 = some m.cls := findClass_of_methodNamed B.named
  have hlocks := B.notSynchronized
  have hin5 : ∀ w ∈ u_ws RX5 TX5 11, w ∈ wsX5_takeWord := by decide +kernel
  subst hsz
  have hD := hD0.self (sz := s.heap.size)
  generalize hAe : va_A [(reader, .inr (5, [.ref rtape, .int (nI rlength), .int (nI rmostBytes), .int (nI rplace), .int rkind, .int (nI rbegin), .int rword, .int rnumber, .long rletters, .int rfaultKind, .int rfaultPlace])), (rtape, .inl (ky 2, 940, .inl rtapeF))] s.heap.size = A at hD hE ⊢
  have hA : ∀ q : Nat, s.heap.size ≤ q → A q := fun q h => by rw [← hAe]; exact Or.inr h
  have hS : va_S A s.heap s.heap [] := va_S.rf
  have hl := lv_entry ([.ref reader, .int (nI 12), .int (nI 15)]) (n := 4) (Nat.le_of_ble_eq_true rfl)
  rw [lg_entry_eq]
  generalize (lg_sl ([.ref reader, .int (nI 12), .int (nI 15)]) ++ List.replicate (4 - (lg_sl ([.ref reader, .int (nI 12), .int (nI 15)])).length) Slot.unset).toArray = ls at hl ⊢
  have hl : lv_has ls 4 [(0, .ref reader), (1, .int (nI 12)), (2, .int (nI 15))] := hl
  refine q_name (fun Q hQ => ?_)
  generalize ([.ref reader, .int (nI 12), .int (nI 15)] : List Value).toArray = args at hts hQ ⊢
  refine lv_aload_n hx hb dX5_takeWord_0 rfl (lv_at hl 0 rfl) ?_
  refine va_get (D := (dC, dI)) (ci := 5) (v := .int rword) (C := RX5) (T := TX5) (N := 11) hx hb hts hin5 hown hK hP 0 rfl rfl 6 (by decide) (hts (.fieldLink RX5 43 "PorridgeSea$Reader" "word" "I") (List.mem_of_getElem? (i := 1) rfl)) (fun _ h9 => h9) rfl dX5_takeWord_1 ?_
  refine lv_iload_n hx hb dX5_takeWord_4 rfl (lv_at hl 1 rfl) ?_
  refine lv_icmp_lt (tgt := 16) hx hb dX5_takeWord_5 (by decide) (fun c1 => ?_) (fun c1 => ?_)
  · refine lv_aload_n hx hb dX5_takeWord_16 rfl (lv_at hl 0 rfl) ?_
    refine lv_iconst (v := nI 1) hx hb dX5_takeWord_17 (by decide) ?_
    refine r_call_i (wr := [(rtape, .inl (ky 2, 940, .inl rtapeF))]) (va_runV (As := [.int (nI 1)]) (rest := []) ⟨hx, hb, hml, hown, hts⟩ (c_f_refuse l dC dI ky s.heap.size reader rtape rlength rmostBytes rplace rkind rbegin rword rnumber rletters rfaultKind rfaultPlace (nI 1) iv_rreader_0 iv_rreader_1 iv_rreader_2 iv_rreader_3) (cwV 1 hts gX5_takeWord_X5_refuse rfl rfl rfl (by decide +kernel) ⟨(Nat.le_of_ble_eq_true rfl), (Nat.le_of_ble_eq_true rfl)⟩) (pre_UV hK hP hD [0] (by decide) rfl (ci := 5) (q0 := 0) rfl rfl) rfl rfl hl.1 rfl (lv_room (Nat.le_of_ble_eq_true rfl)) dX5_takeWord_18 ⟨(Nat.le_of_ble_eq_true rfl), (Nat.le_of_ble_eq_true rfl)⟩) hP hD hS hA [0] [1] rfl rfl (by decide) (by decide) (fun r4 u2 H locs p3 hP hD hS => ?_)
    obtain ⟨rfaultKindG_5, rfaultPlaceG_6⟩ := u2
    try dsimp only at p3
    obtain ⟨p7, p8, p9⟩ := p3
    refine W.widen (k := 0) (n := 0) (Nat.le_of_ble_eq_true rfl) (Nat.le_of_ble_eq_true rfl) ?_
    have hP : va_P (dC, dI) vwCl [(rtape, .inl (ky 2, 940, .inl rtapeF)), (reader, .inr (5, [.ref rtape, .int (nI rlength), .int (nI rmostBytes), .int (nI rplace), .int rkind, .int (nI rbegin), .int rword, .int rnumber, .long rletters, .int rfaultKindG_5, .int rfaultPlaceG_6]))] H := hP
    have hD : va_D A [(rtape, .inl (ky 2, 940, .inl rtapeF)), (reader, .inr (5, [.ref rtape, .int (nI rlength), .int (nI rmostBytes), .int (nI rplace), .int rkind, .int (nI rbegin), .int rword, .int rnumber, .long rletters, .int rfaultKindG_5, .int rfaultPlaceG_6]))] := hD
    subst p7
    refine lv_pop hx hb dX5_takeWord_21 rfl ?_
    refine lv_iconst (v := (-1 : Int32)) hx hb dX5_takeWord_22 (by decide) ?_
    rw [hQ]
    have hP9 := hP.sub (ws' := [(reader, .inr (5, [.ref rtape, .int (nI rlength), .int (nI rmostBytes), .int (nI rplace), .int rkind, .int (nI rbegin), .int rword, .int rnumber, .long rletters, .int rfaultKindG_5, .int rfaultPlaceG_6])), (rtape, .inl (ky 2, 940, .inl rtapeF))]) [1, 0] rfl
    have hD9 := hD.sub (ws' := [(reader, .inr (5, [.ref rtape, .int (nI rlength), .int (nI rmostBytes), .int (nI rplace), .int rkind, .int (nI rbegin), .int rword, .int rnumber, .long rletters, .int rfaultKindG_5, .int rfaultPlaceG_6])), (rtape, .inl (ky 2, 940, .inl rtapeF))]) [1, 0] (by decide) rfl
    exact W.iret (v := (-1 : Int32)) hx hb hr (fun t9 ht9 hW9 => ⟨⟨(-1 : Int32), (rplace, rkind, rbegin, rword, rnumber, rletters, rfaultKindG_5, rfaultPlaceG_6), rfl, ⟨(Or.inl ⟨rfl, (lf_f_takeWord12_1 bt rlength rmostBytes rplace rkind rbegin rword rnumber rletters rtapeF gp rfaultKindG_5 rfaultPlaceG_6 iv_rreader_0 iv_rreader_1 iv_rreader_2 iv_rreader_3 hTC hRT c1 p8 p9)⟩), iv_rreader_1, iv_rreader_3⟩, by rw [ht9]; exact hP9, va_K.moved hW9.alike hK, hD9⟩, hS.F ht9⟩) hS.2.2 dX5_takeWord_23
  · refine lv_aload_n hx hb dX5_takeWord_8 rfl (lv_at hl 0 rfl) ?_
    refine va_get (D := (dC, dI)) (ci := 5) (v := .int rword) (C := RX5) (T := TX5) (N := 11) hx hb hts hin5 hown hK hP 0 rfl rfl 6 (by decide) (hts (.fieldLink RX5 43 "PorridgeSea$Reader" "word" "I") (List.mem_of_getElem? (i := 1) rfl)) (fun _ h9 => h9) rfl dX5_takeWord_9 ?_
    refine lv_iload_n hx hb dX5_takeWord_12 rfl (lv_at hl 2 rfl) ?_
    refine lv_icmp_le (tgt := 24) hx hb dX5_takeWord_13 (by decide) (fun c10 => ?_) (fun c10 => ?_)
    · refine lv_aload_n hx hb dX5_takeWord_24 rfl (lv_at hl 0 rfl) ?_
      refine va_get (D := (dC, dI)) (ci := 5) (v := .int rword) (C := RX5) (T := TX5) (N := 11) hx hb hts hin5 hown hK hP 0 rfl rfl 6 (by decide) (hts (.fieldLink RX5 43 "PorridgeSea$Reader" "word" "I") (List.mem_of_getElem? (i := 1) rfl)) (fun _ h9 => h9) rfl dX5_takeWord_25 ?_
      refine lv_iload_n hx hb dX5_takeWord_28 rfl (lv_at hl 1 rfl) ?_
      obtain ⟨n11, h12, e13⟩ := nat_of rword 16 (by decide) (lf_f_takeWord12_2 bt rlength rmostBytes rplace rkind rbegin rword rnumber rletters rtapeF gp iv_rreader_0 iv_rreader_1 iv_rreader_2 iv_rreader_3 hTC hRT c1 c10)
      have f14 : 12 ≤ n11 := (lf_f_takeWord12_3 bt rlength rmostBytes rplace rkind rbegin rword rnumber rletters rtapeF gp n11 iv_rreader_0 iv_rreader_1 iv_rreader_2 iv_rreader_3 hTC hRT c1 c10 h12 e13)
      rw [e13]
      refine lv_isub hx hb dX5_takeWord_29 ?_
      refine r_ti (nI (n11 - 12)) (pk_sub (lf_f_takeWord12_4 bt rlength rmostBytes rplace rkind rbegin rword rnumber rletters rtapeF gp n11 iv_rreader_0 iv_rreader_1 iv_rreader_2 iv_rreader_3 hTC hRT c1 c10 h12 e13 f14)) ?_
      refine lv_istore_n (lv' := [(3, .int (nI (n11 - 12))), (0, .ref reader), (1, .int (nI 12)), (2, .int (nI 15))]) hx hb dX5_takeWord_30 rfl hl (by decide) rfl (fun ls hl => ?_)
      refine lv_aload_n hx hb dX5_takeWord_31 rfl (lv_at hl 1 rfl) ?_
      refine r_call_v (wr := []) (va_runV (As := []) (rest := []) ⟨hx, hb, hml, hown, hts⟩ (c_f_adv l dC dI ky s.heap.size adK adV bt reader rtape rlength rmostBytes rplace rkind rbegin rword rnumber rletters rfaultKind rfaultPlace rtapeF (tT bt rlength rmostBytes gp) iv_rreader_0 iv_rreader_1 iv_rreader_2 iv_rreader_3 hTC hRT.2.2.1) (cwV 0 hts gX5_takeWord_X5_advance rfl rfl rfl (by decide +kernel) ⟨(Nat.le_of_ble_eq_true rfl), (Nat.le_of_ble_eq_true rfl)⟩) (pre_UEV hE hS hA hK hP hD [0, 1] (by decide) rfl (va_recv hK hP (ci := 5) (q0 := 0) rfl rfl)) rfl rfl hl.1 rfl (lv_room (Nat.le_of_ble_eq_true rfl)) dX5_takeWord_32 ⟨(Nat.le_of_ble_eq_true rfl), (Nat.le_of_ble_eq_true rfl)⟩) hP hD hS hA [0, 1] [] rfl rfl (by decide) (by decide) (fun  u15 H locs p16 hP hD hS => ?_)
      obtain ⟨rplaceG_17, rkindG_18, rbeginG_19, rwordG_20, rnumberG_21, rlettersG_22⟩ := u15
      try dsimp only at p16
      obtain ⟨p23, p24, p25⟩ := p16
      refine W.widen (k := 0) (n := 0) (Nat.le_of_ble_eq_true rfl) (Nat.le_of_ble_eq_true rfl) ?_
      have hP : va_P (dC, dI) vwCl [(reader, .inr (5, [.ref rtape, .int (nI rlength), .int (nI rmostBytes), .int (nI rplaceG_17), .int rkindG_18, .int (nI rbeginG_19), .int rwordG_20, .int rnumberG_21, .long rlettersG_22, .int rfaultKind, .int rfaultPlace])), (rtape, .inl (ky 2, 940, .inl rtapeF))] H := hP
      have hD : va_D A [(reader, .inr (5, [.ref rtape, .int (nI rlength), .int (nI rmostBytes), .int (nI rplaceG_17), .int rkindG_18, .int (nI rbeginG_19), .int rwordG_20, .int rnumberG_21, .long rlettersG_22, .int rfaultKind, .int rfaultPlace])), (rtape, .inl (ky 2, 940, .inl rtapeF))] := hD
      refine lv_iload_n hx hb dX5_takeWord_35 rfl (lv_at hl 0 rfl) ?_
      rw [hQ]
      exact W.iret (v := nI (n11 - 12)) hx hb hr (fun t9 ht9 hW9 => ⟨⟨nI (n11 - 12), (rplaceG_17, rkindG_18, rbeginG_19, rwordG_20, rnumberG_21, rlettersG_22, rfaultKind, rfaultPlace), rfl, ⟨(Or.inr ⟨(n11 - 12), (lf_f_takeWord12_5 bt rlength rmostBytes rplace rkind rbegin rword rnumber rletters rfaultKind rfaultPlace rtapeF gp n11 rplaceG_17 rkindG_18 rbeginG_19 rwordG_20 rnumberG_21 rlettersG_22 iv_rreader_0 iv_rreader_1 iv_rreader_2 iv_rreader_3 hTC hRT c1 c10 h12 e13 f14 p23 p24 p25), rfl⟩), p23, p24⟩, by rw [ht9]; exact hP, va_K.moved hW9.alike hK, hD⟩, hS.F ht9⟩) hS.2.2 dX5_takeWord_36
    · refine lv_aload_n hx hb dX5_takeWord_16 rfl (lv_at hl 0 rfl) ?_
      refine lv_iconst (v := nI 1) hx hb dX5_takeWord_17 (by decide) ?_
      refine r_call_i (wr := [(rtape, .inl (ky 2, 940, .inl rtapeF))]) (va_runV (As := [.int (nI 1)]) (rest := []) ⟨hx, hb, hml, hown, hts⟩ (c_f_refuse l dC dI ky s.heap.size reader rtape rlength rmostBytes rplace rkind rbegin rword rnumber rletters rfaultKind rfaultPlace (nI 1) iv_rreader_0 iv_rreader_1 iv_rreader_2 iv_rreader_3) (cwV 1 hts gX5_takeWord_X5_refuse rfl rfl rfl (by decide +kernel) ⟨(Nat.le_of_ble_eq_true rfl), (Nat.le_of_ble_eq_true rfl)⟩) (pre_UV hK hP hD [0] (by decide) rfl (ci := 5) (q0 := 0) rfl rfl) rfl rfl hl.1 rfl (lv_room (Nat.le_of_ble_eq_true rfl)) dX5_takeWord_18 ⟨(Nat.le_of_ble_eq_true rfl), (Nat.le_of_ble_eq_true rfl)⟩) hP hD hS hA [0] [1] rfl rfl (by decide) (by decide) (fun r28 u26 H locs p27 hP hD hS => ?_)
      obtain ⟨rfaultKindG_29, rfaultPlaceG_30⟩ := u26
      try dsimp only at p27
      obtain ⟨p31, p32, p33⟩ := p27
      refine W.widen (k := 0) (n := 0) (Nat.le_of_ble_eq_true rfl) (Nat.le_of_ble_eq_true rfl) ?_
      have hP : va_P (dC, dI) vwCl [(rtape, .inl (ky 2, 940, .inl rtapeF)), (reader, .inr (5, [.ref rtape, .int (nI rlength), .int (nI rmostBytes), .int (nI rplace), .int rkind, .int (nI rbegin), .int rword, .int rnumber, .long rletters, .int rfaultKindG_29, .int rfaultPlaceG_30]))] H := hP
      have hD : va_D A [(rtape, .inl (ky 2, 940, .inl rtapeF)), (reader, .inr (5, [.ref rtape, .int (nI rlength), .int (nI rmostBytes), .int (nI rplace), .int rkind, .int (nI rbegin), .int rword, .int rnumber, .long rletters, .int rfaultKindG_29, .int rfaultPlaceG_30]))] := hD
      subst p31
      refine lv_pop hx hb dX5_takeWord_21 rfl ?_
      refine lv_iconst (v := (-1 : Int32)) hx hb dX5_takeWord_22 (by decide) ?_
      rw [hQ]
      have hP9 := hP.sub (ws' := [(reader, .inr (5, [.ref rtape, .int (nI rlength), .int (nI rmostBytes), .int (nI rplace), .int rkind, .int (nI rbegin), .int rword, .int rnumber, .long rletters, .int rfaultKindG_29, .int rfaultPlaceG_30])), (rtape, .inl (ky 2, 940, .inl rtapeF))]) [1, 0] rfl
      have hD9 := hD.sub (ws' := [(reader, .inr (5, [.ref rtape, .int (nI rlength), .int (nI rmostBytes), .int (nI rplace), .int rkind, .int (nI rbegin), .int rword, .int rnumber, .long rletters, .int rfaultKindG_29, .int rfaultPlaceG_30])), (rtape, .inl (ky 2, 940, .inl rtapeF))]) [1, 0] (by decide) rfl
      exact W.iret (v := (-1 : Int32)) hx hb hr (fun t9 ht9 hW9 => ⟨⟨(-1 : Int32), (rplace, rkind, rbegin, rword, rnumber, rletters, rfaultKindG_29, rfaultPlaceG_30), rfl, ⟨(Or.inl ⟨rfl, (lf_f_takeWord12_6 bt rlength rmostBytes rplace rkind rbegin rword rnumber rletters rtapeF gp rfaultKindG_29 rfaultPlaceG_30 iv_rreader_0 iv_rreader_1 iv_rreader_2 iv_rreader_3 hTC hRT c1 c10 p32 p33)⟩), iv_rreader_1, iv_rreader_3⟩, by rw [ht9]; exact hP9, va_K.moved hW9.alike hK, hD9⟩, hS.F ht9⟩) hS.2.2 dX5_takeWord_23
set_option maxRecDepth 20000 in
theorem lf_f_sortOf_1 (x : Int32) (c1 : x = nI 7) : ((nI 0) = nI 0 ∧ x = nI 7) ∨ ((nI 0) = nI 1 ∧ x = nI 31) ∨ ((nI 0) = nI 2 ∧ x = nI 16) ∨ ((nI 0) = nI 3 ∧ x = nI 17) ∨ ((nI 0) = nI 4 ∧ x = nI 18) ∨ ((nI 0) = nI 5 ∧ x = nI 19) ∨ ((nI 0) = (-1 : Int32) ∧ x ≠ nI 7 ∧ x ≠ nI 16 ∧ x ≠ nI 17 ∧ x ≠ nI 18 ∧ x ≠ nI 19 ∧ x ≠ nI 31) := by
  exact Or.inl ⟨rfl, by assumption⟩
set_option maxRecDepth 20000 in
theorem lf_f_sortOf_2 (x : Int32) (c2 : x = nI 16) : ((nI 2) = nI 0 ∧ x = nI 7) ∨ ((nI 2) = nI 1 ∧ x = nI 31) ∨ ((nI 2) = nI 2 ∧ x = nI 16) ∨ ((nI 2) = nI 3 ∧ x = nI 17) ∨ ((nI 2) = nI 4 ∧ x = nI 18) ∨ ((nI 2) = nI 5 ∧ x = nI 19) ∨ ((nI 2) = (-1 : Int32) ∧ x ≠ nI 7 ∧ x ≠ nI 16 ∧ x ≠ nI 17 ∧ x ≠ nI 18 ∧ x ≠ nI 19 ∧ x ≠ nI 31) := by
  exact Or.inr (Or.inr (Or.inl ⟨rfl, by assumption⟩))
set_option maxRecDepth 20000 in
theorem lf_f_sortOf_3 (x : Int32) (c3 : x = nI 17) : ((nI 3) = nI 0 ∧ x = nI 7) ∨ ((nI 3) = nI 1 ∧ x = nI 31) ∨ ((nI 3) = nI 2 ∧ x = nI 16) ∨ ((nI 3) = nI 3 ∧ x = nI 17) ∨ ((nI 3) = nI 4 ∧ x = nI 18) ∨ ((nI 3) = nI 5 ∧ x = nI 19) ∨ ((nI 3) = (-1 : Int32) ∧ x ≠ nI 7 ∧ x ≠ nI 16 ∧ x ≠ nI 17 ∧ x ≠ nI 18 ∧ x ≠ nI 19 ∧ x ≠ nI 31) := by
  exact Or.inr (Or.inr (Or.inr (Or.inl ⟨rfl, by assumption⟩)))
set_option maxRecDepth 20000 in
theorem lf_f_sortOf_4 (x : Int32) (c4 : x = nI 18) : ((nI 4) = nI 0 ∧ x = nI 7) ∨ ((nI 4) = nI 1 ∧ x = nI 31) ∨ ((nI 4) = nI 2 ∧ x = nI 16) ∨ ((nI 4) = nI 3 ∧ x = nI 17) ∨ ((nI 4) = nI 4 ∧ x = nI 18) ∨ ((nI 4) = nI 5 ∧ x = nI 19) ∨ ((nI 4) = (-1 : Int32) ∧ x ≠ nI 7 ∧ x ≠ nI 16 ∧ x ≠ nI 17 ∧ x ≠ nI 18 ∧ x ≠ nI 19 ∧ x ≠ nI 31) := by
  exact Or.inr (Or.inr (Or.inr (Or.inr (Or.inl ⟨rfl, by assumption⟩))))
set_option maxRecDepth 20000 in
theorem lf_f_sortOf_5 (x : Int32) (c5 : x = nI 19) : ((nI 5) = nI 0 ∧ x = nI 7) ∨ ((nI 5) = nI 1 ∧ x = nI 31) ∨ ((nI 5) = nI 2 ∧ x = nI 16) ∨ ((nI 5) = nI 3 ∧ x = nI 17) ∨ ((nI 5) = nI 4 ∧ x = nI 18) ∨ ((nI 5) = nI 5 ∧ x = nI 19) ∨ ((nI 5) = (-1 : Int32) ∧ x ≠ nI 7 ∧ x ≠ nI 16 ∧ x ≠ nI 17 ∧ x ≠ nI 18 ∧ x ≠ nI 19 ∧ x ≠ nI 31) := by
  exact Or.inr (Or.inr (Or.inr (Or.inr (Or.inr (Or.inl ⟨rfl, by assumption⟩)))))
set_option maxRecDepth 20000 in
theorem lf_f_sortOf_6 (x : Int32) (c6 : x = nI 31) : ((nI 1) = nI 0 ∧ x = nI 7) ∨ ((nI 1) = nI 1 ∧ x = nI 31) ∨ ((nI 1) = nI 2 ∧ x = nI 16) ∨ ((nI 1) = nI 3 ∧ x = nI 17) ∨ ((nI 1) = nI 4 ∧ x = nI 18) ∨ ((nI 1) = nI 5 ∧ x = nI 19) ∨ ((nI 1) = (-1 : Int32) ∧ x ≠ nI 7 ∧ x ≠ nI 16 ∧ x ≠ nI 17 ∧ x ≠ nI 18 ∧ x ≠ nI 19 ∧ x ≠ nI 31) := by
  exact Or.inr (Or.inl ⟨rfl, by assumption⟩)
set_option maxRecDepth 20000 in
theorem lf_f_sortOf_7 (x : Int32) (c7 : x ≠ nI 7 ∧ x ≠ nI 16 ∧ x ≠ nI 17 ∧ x ≠ nI 18 ∧ x ≠ nI 19 ∧ x ≠ nI 31) : ((-1 : Int32) = nI 0 ∧ x = nI 7) ∨ ((-1 : Int32) = nI 1 ∧ x = nI 31) ∨ ((-1 : Int32) = nI 2 ∧ x = nI 16) ∨ ((-1 : Int32) = nI 3 ∧ x = nI 17) ∨ ((-1 : Int32) = nI 4 ∧ x = nI 18) ∨ ((-1 : Int32) = nI 5 ∧ x = nI 19) ∨ ((-1 : Int32) = (-1 : Int32) ∧ x ≠ nI 7 ∧ x ≠ nI 16 ∧ x ≠ nI 17 ∧ x ≠ nI 18 ∧ x ≠ nI 19 ∧ x ≠ nI 31) := by
  exact Or.inr (Or.inr (Or.inr (Or.inr (Or.inr (Or.inr ⟨rfl, by assumption⟩)))))
set_option maxHeartbeats 4000000 in
set_option maxRecDepth 100000 in
theorem c_f_sortOf (l : Launch) (dC : Nat → ClassId) (dI : Nat → Nat → Nat) (ky : Nat → ClassId) (x : Int32)  : Met l yX0_sortOf wsX0_sortOf ({ frames := 0, cells := 0, slots := 0, locals := 0 }) (PcP dC dI ky [.int x] []) (vp_Si (fun r : Int32 => (r = nI 0 ∧ x = nI 7) ∨ (r = nI 1 ∧ x = nI 31) ∨ (r = nI 2 ∧ x = nI 16) ∨ (r = nI 3 ∧ x = nI 17) ∨ (r = nI 4 ∧ x = nI 18) ∨ (r = nI 5 ∧ x = nI 19) ∨ (r = (-1 : Int32) ∧ x ≠ nI 7 ∧ x ≠ nI 16 ∧ x ≠ nI 17 ∧ x ≠ nI 18 ∧ x ≠ nI 19 ∧ x ≠ nI 31))) 0 0 (fun _ => False) := by
  refine Met.ofW (cc := cX0_sortOf) (maxL := 1) (ret := (some .int)) (by decide) rfl ?_
  intro p e s m args below meth c s₁ B hml hv
  obtain ⟨rfl, hP, hK⟩ := hv
  have hx := B.exec
  have hb := B.bytes
  have hr := B.returns
  have hts := atoms_spec (ws := wsX0_sortOf) B.pre
  have hown : s.vm.findClass RX0 = some m.cls := findClass_of_methodNamed B.named
  have hlocks := B.notSynchronized
  have hl := lv_entry ([.int x]) (n := 1) (Nat.le_of_ble_eq_true rfl)
  rw [lg_entry_eq]
  generalize (lg_sl ([.int x]) ++ List.replicate (1 - (lg_sl ([.int x])).length) Slot.unset).toArray = ls at hl ⊢
  have hl : lv_has ls 1 [(0, .int x)] := hl
  refine q_name (fun Q hQ => ?_)
  generalize ([.int x] : List Value).toArray = args at hts hQ ⊢
  refine lv_iload_n hx hb dX0_sortOf_0 rfl (lv_at hl 0 rfl) ?_
  rcases lk_7_16_17_18_19_31 x with c1 | c2 | c3 | c4 | c5 | c6 | c7
  · refine r_ti (nI 7) c1 ?_
    rw [c1] at hl
    refine lv_lookup (off := 59) (tgt := 60) hx hb dX0_sortOf_1 (by decide) (by decide) (by decide) ?_
    refine lv_iconst (v := nI 0) hx hb dX0_sortOf_60 (by decide) ?_
    rw [hQ]
    exact W.iret (v := nI 0) hx hb hr (fun t9 ht9 hW9 => ⟨nI 0, rfl, (lf_f_sortOf_1 x c1), ht9⟩) (fun _ h => absurd h List.not_mem_nil) dX0_sortOf_61
  · refine r_ti (nI 16) c2 ?_
    rw [c2] at hl
    refine lv_lookup (off := 63) (tgt := 64) hx hb dX0_sortOf_1 (by decide) (by decide) (by decide) ?_
    refine lv_iconst (v := nI 2) hx hb dX0_sortOf_64 (by decide) ?_
    rw [hQ]
    exact W.iret (v := nI 2) hx hb hr (fun t9 ht9 hW9 => ⟨nI 2, rfl, (lf_f_sortOf_2 x c2), ht9⟩) (fun _ h => absurd h List.not_mem_nil) dX0_sortOf_65
  · refine r_ti (nI 17) c3 ?_
    rw [c3] at hl
    refine lv_lookup (off := 65) (tgt := 66) hx hb dX0_sortOf_1 (by decide) (by decide) (by decide) ?_
    refine lv_iconst (v := nI 3) hx hb dX0_sortOf_66 (by decide) ?_
    rw [hQ]
    exact W.iret (v := nI 3) hx hb hr (fun t9 ht9 hW9 => ⟨nI 3, rfl, (lf_f_sortOf_3 x c3), ht9⟩) (fun _ h => absurd h List.not_mem_nil) dX0_sortOf_67
  · refine r_ti (nI 18) c4 ?_
    rw [c4] at hl
    refine lv_lookup (off := 67) (tgt := 68) hx hb dX0_sortOf_1 (by decide) (by decide) (by decide) ?_
    refine lv_iconst (v := nI 4) hx hb dX0_sortOf_68 (by decide) ?_
    rw [hQ]
    exact W.iret (v := nI 4) hx hb hr (fun t9 ht9 hW9 => ⟨nI 4, rfl, (lf_f_sortOf_4 x c4), ht9⟩) (fun _ h => absurd h List.not_mem_nil) dX0_sortOf_69
  · refine r_ti (nI 19) c5 ?_
    rw [c5] at hl
    refine lv_lookup (off := 69) (tgt := 70) hx hb dX0_sortOf_1 (by decide) (by decide) (by decide) ?_
    refine lv_iconst (v := nI 5) hx hb dX0_sortOf_70 (by decide) ?_
    rw [hQ]
    exact W.iret (v := nI 5) hx hb hr (fun t9 ht9 hW9 => ⟨nI 5, rfl, (lf_f_sortOf_5 x c5), ht9⟩) (fun _ h => absurd h List.not_mem_nil) dX0_sortOf_71
  · refine r_ti (nI 31) c6 ?_
    rw [c6] at hl
    refine lv_lookup (off := 61) (tgt := 62) hx hb dX0_sortOf_1 (by decide) (by decide) (by decide) ?_
    refine lv_iconst (v := nI 1) hx hb dX0_sortOf_62 (by decide) ?_
    rw [hQ]
    exact W.iret (v := nI 1) hx hb hr (fun t9 ht9 hW9 => ⟨nI 1, rfl, (lf_f_sortOf_6 x c6), ht9⟩) (fun _ h => absurd h List.not_mem_nil) dX0_sortOf_63
  · refine lv_lookup (off := 71) (tgt := 72) hx hb dX0_sortOf_1 (by decide) (lko_7_16_17_18_19_31 (ps := [(7, 59), (16, 63), (17, 65), (18, 67), (19, 69), (31, 61)]) rfl c7) (by decide) ?_
    refine lv_iconst (v := (-1 : Int32)) hx hb dX0_sortOf_72 (by decide) ?_
    rw [hQ]
    exact W.iret (v := (-1 : Int32)) hx hb hr (fun t9 ht9 hW9 => ⟨(-1 : Int32), rfl, (lf_f_sortOf_7 x c7), ht9⟩) (fun _ h => absurd h List.not_mem_nil) dX0_sortOf_73
set_option maxRecDepth 20000 in
theorem lf_f_bput_1   : (nI 1) = nI 1 := by
  try have k_0 := ia_n 1 (by first | decide | omega)
  try simp only [ia_lt, ia_le, ia_eq, ia_m1, ia_0, ia_1, ne_eq, true_and, and_true, false_and, and_false, or_false, false_or, or_true, true_or, not_true_eq_false, not_false_eq_true] at *
  all_goals omega
set_option maxRecDepth 20000 in
theorem lf_f_bput_2 (blineCount : Nat) (iv_bbk_0 : blineCount ≤ 40) (hl9 : blineCount < 40) : (blineCount + 1) ≤ 40 := by
  try simp only [ia_lt, ia_le, ia_eq, ia_m1, ia_0, ia_1, ne_eq, true_and, and_true, false_and, and_false, or_false, false_or, or_true, true_or, not_true_eq_false, not_false_eq_true] at *
  all_goals omega
set_option maxHeartbeats 4000000 in
set_option maxRecDepth 100000 in
theorem c_f_bput (l : Launch) (dC : Nat → ClassId) (dI : Nat → Nat → Nat) (ky : Nat → ClassId) (sz : Nat) (bk : Nat) (blines : Nat) (blineCount : Nat) (blived : Int32) (bwhyWrong : Int32) (bfineLines : Int32) (bdayThen : Int32) (beatenThen : Int32) (blinesF : Nat → Int32) (x : Int32) (y : Int32) (z : Int32) (u : Int32) (iv_bbk_0 : blineCount ≤ 40) (hl9 : blineCount < 40) : Met l yX0_put wsX0_put ({ frames := 0, cells := 0, slots := 0, locals := 0 }) (PcU dC dI ky [.ref bk, .int x, .int y, .int z, .int u] [(bk, .inr (0, [.ref blines, .int (nI blineCount), .int blived, .int bwhyWrong, .int bfineLines, .int bdayThen, .int beatenThen])), (blines, .inl (ky 0, 160, .inl blinesF))] sz) (va_Qi (fun (r : Int32) (u : Nat × (Nat → Int32)) => match u with | (blineCountG, blinesG) => (r = nI 1) ∧ (blineCountG ≤ 40) ∧ (blineCountG = blineCount + 1)) (BU dC dI ky (fun (u : Nat × (Nat → Int32)) => match u with | (blineCountG, blinesG) => [(bk, .inr (0, [.ref blines, .int (nI blineCountG), .int blived, .int bwhyWrong, .int bfineLines, .int bdayThen, .int beatenThen])), (blines, .inl (ky 0, 160, .inl blinesG))]) (va_A [(bk, .inr (0, [.ref blines, .int (nI blineCount), .int blived, .int bwhyWrong, .int bfineLines, .int bdayThen, .int beatenThen])), (blines, .inl (ky 0, 160, .inl blinesF))] sz)) (va_A [(bk, .inr (0, [.ref blines, .int (nI blineCount), .int blived, .int bwhyWrong, .int bfineLines, .int bdayThen, .int beatenThen])), (blines, .inl (ky 0, 160, .inl blinesF))] sz)) 0 0 (va_A [(bk, .inr (0, [.ref blines, .int (nI blineCount), .int blived, .int bwhyWrong, .int bfineLines, .int bdayThen, .int beatenThen])), (blines, .inl (ky 0, 160, .inl blinesF))] sz) := by
  refine Met.ofW (cc := cX0_put) (maxL := 6) (ret := (some .boolean)) (by decide) rfl ?_
  intro p e s m args below meth c s₁ B hml hv
  obtain ⟨rfl, hsz, hP, hK, hD0⟩ := hv
  have hx := B.exec
  have hb := B.bytes
  have hr := B.returns
  have hts := atoms_spec (ws := wsX0_put) B.pre
  have hown : s.vm.findClass RX0 = some m.cls := findClass_of_methodNamed B.named
  have hlocks := B.notSynchronized
  have hin0 : ∀ w ∈ u_ws RX0 TX0 7, w ∈ wsX0_put := by decide +kernel
  subst hsz
  have hD := hD0.self (sz := s.heap.size)
  generalize hAe : va_A [(bk, .inr (0, [.ref blines, .int (nI blineCount), .int blived, .int bwhyWrong, .int bfineLines, .int bdayThen, .int beatenThen])), (blines, .inl (ky 0, 160, .inl blinesF))] s.heap.size = A at hD ⊢
  have hA : ∀ q : Nat, s.heap.size ≤ q → A q := fun q h => by rw [← hAe]; exact Or.inr h
  have hS : va_S A s.heap s.heap [] := va_S.rf
  have hl := lv_entry ([.ref bk, .int x, .int y, .int z, .int u]) (n := 6) (Nat.le_of_ble_eq_true rfl)
  rw [lg_entry_eq]
  generalize (lg_sl ([.ref bk, .int x, .int y, .int z, .int u]) ++ List.replicate (6 - (lg_sl ([.ref bk, .int x, .int y, .int z, .int u])).length) Slot.unset).toArray = ls at hl ⊢
  have hl : lv_has ls 6 [(0, .ref bk), (1, .int x), (2, .int y), (3, .int z), (4, .int u)] := hl
  refine q_name (fun Q hQ => ?_)
  generalize ([.ref bk, .int x, .int y, .int z, .int u] : List Value).toArray = args at hts hQ ⊢
  refine lv_aload_n hx hb dX0_put_0 rfl (lv_at hl 0 rfl) ?_
  refine va_get (D := (dC, dI)) (ci := 0) (v := .int (nI blineCount)) (C := RX0) (T := TX0) (N := 7) hx hb hts hin0 hown hK hP 0 rfl rfl 1 (by decide) (hts (.fieldLink RX0 15 "PorridgeSea$Book" "lineCount" "I") (List.mem_of_getElem? (i := 1) rfl)) (fun _ h9 => h9) rfl dX0_put_1 ?_
  refine lv_bipush (v := nI 40) hx hb dX0_put_4 (by decide) ?_
  refine n_icmp_lt (x := blineCount) (y := 40) (tgt := 11) hx hb (by omega) (by omega) dX0_put_6 (by decide) (fun c1 => ?_) (fun c1 => by exfalso; omega)
  refine lv_iconst (v := nI 4) hx hb dX0_put_11 (by decide) ?_
  refine lv_aload_n hx hb dX0_put_12 rfl (lv_at hl 0 rfl) ?_
  refine va_get (D := (dC, dI)) (ci := 0) (v := .int (nI blineCount)) (C := RX0) (T := TX0) (N := 7) hx hb hts hin0 hown hK hP 0 rfl rfl 1 (by decide) (hts (.fieldLink RX0 15 "PorridgeSea$Book" "lineCount" "I") (List.mem_of_getElem? (i := 1) rfl)) (fun _ h9 => h9) rfl dX0_put_13 ?_
  refine lv_imul hx hb dX0_put_16 ?_
  refine r_ti (nI (4 * blineCount)) (pk_mul _ _) ?_
  refine lv_istore (lv' := [(5, .int (nI (4 * blineCount))), (0, .ref bk), (1, .int x), (2, .int y), (3, .int z), (4, .int u)]) hx hb dX0_put_17 hl (by decide) rfl (fun ls hl => ?_)
  refine lv_aload_n hx hb dX0_put_19 rfl (lv_at hl 1 rfl) ?_
  refine va_get (D := (dC, dI)) (ci := 0) (v := .ref blines) (C := RX0) (T := TX0) (N := 7) hx hb hts hin0 hown hK hP 0 rfl rfl 0 (by decide) (hts (.fieldLink RX0 11 "PorridgeSea$Book" "lines" "[I") (List.mem_of_getElem? (i := 2) rfl)) (fun _ h9 => h9) rfl dX0_put_20 ?_
  refine lv_iload hx hb dX0_put_23 (lv_at hl 0 rfl) ?_
  refine lv_iload_n hx hb dX0_put_25 rfl (lv_at hl 2 rfl) ?_
  refine r_iast (x := x) hx hb hK hP hD hS 1 rfl (4 * blineCount) (by omega) (by decide) dX0_put_26 (fun H locs hP hD hS => ?_)
  obtain ⟨g2, e3⟩ : ∃ z9, z9 = upd blinesF (4 * blineCount) x := ⟨_, rfl⟩
  rw [← e3] at hP hD
  have hP : va_P (dC, dI) vwCl [(bk, .inr (0, [.ref blines, .int (nI blineCount), .int blived, .int bwhyWrong, .int bfineLines, .int bdayThen, .int beatenThen])), (blines, .inl (ky 0, 160, .inl g2))] H := hP
  have hD : va_D A [(bk, .inr (0, [.ref blines, .int (nI blineCount), .int blived, .int bwhyWrong, .int bfineLines, .int bdayThen, .int beatenThen])), (blines, .inl (ky 0, 160, .inl g2))] := hD
  refine lv_aload_n hx hb dX0_put_27 rfl (lv_at hl 1 rfl) ?_
  refine va_get (D := (dC, dI)) (ci := 0) (v := .ref blines) (C := RX0) (T := TX0) (N := 7) hx hb hts hin0 hown hK hP 0 rfl rfl 0 (by decide) (hts (.fieldLink RX0 11 "PorridgeSea$Book" "lines" "[I") (List.mem_of_getElem? (i := 2) rfl)) (fun _ h9 => h9) rfl dX0_put_28 ?_
  refine lv_iload hx hb dX0_put_31 (lv_at hl 0 rfl) ?_
  refine lv_iconst (v := nI 1) hx hb dX0_put_33 (by decide) ?_
  refine lv_iadd hx hb dX0_put_34 ?_
  refine r_ti (nI ((4 * blineCount) + 1)) (nI_add _ _) ?_
  refine lv_iload_n hx hb dX0_put_35 rfl (lv_at hl 3 rfl) ?_
  refine r_iast (x := y) hx hb hK hP hD hS 1 rfl ((4 * blineCount) + 1) (by omega) (by decide) dX0_put_36 (fun H locs hP hD hS => ?_)
  obtain ⟨g4, e5⟩ : ∃ z9, z9 = upd g2 ((4 * blineCount) + 1) y := ⟨_, rfl⟩
  rw [← e5] at hP hD
  have hP : va_P (dC, dI) vwCl [(bk, .inr (0, [.ref blines, .int (nI blineCount), .int blived, .int bwhyWrong, .int bfineLines, .int bdayThen, .int beatenThen])), (blines, .inl (ky 0, 160, .inl g4))] H := hP
  have hD : va_D A [(bk, .inr (0, [.ref blines, .int (nI blineCount), .int blived, .int bwhyWrong, .int bfineLines, .int bdayThen, .int beatenThen])), (blines, .inl (ky 0, 160, .inl g4))] := hD
  refine lv_aload_n hx hb dX0_put_37 rfl (lv_at hl 1 rfl) ?_
  refine va_get (D := (dC, dI)) (ci := 0) (v := .ref blines) (C := RX0) (T := TX0) (N := 7) hx hb hts hin0 hown hK hP 0 rfl rfl 0 (by decide) (hts (.fieldLink RX0 11 "PorridgeSea$Book" "lines" "[I") (List.mem_of_getElem? (i := 2) rfl)) (fun _ h9 => h9) rfl dX0_put_38 ?_
  refine lv_iload hx hb dX0_put_41 (lv_at hl 0 rfl) ?_
  refine lv_iconst (v := nI 2) hx hb dX0_put_43 (by decide) ?_
  refine lv_iadd hx hb dX0_put_44 ?_
  refine r_ti (nI ((4 * blineCount) + 2)) (nI_add _ _) ?_
  refine lv_iload_n hx hb dX0_put_45 rfl (lv_at hl 4 rfl) ?_
  refine r_iast (x := z) hx hb hK hP hD hS 1 rfl ((4 * blineCount) + 2) (by omega) (by decide) dX0_put_46 (fun H locs hP hD hS => ?_)
  obtain ⟨g6, e7⟩ : ∃ z9, z9 = upd g4 ((4 * blineCount) + 2) z := ⟨_, rfl⟩
  rw [← e7] at hP hD
  have hP : va_P (dC, dI) vwCl [(bk, .inr (0, [.ref blines, .int (nI blineCount), .int blived, .int bwhyWrong, .int bfineLines, .int bdayThen, .int beatenThen])), (blines, .inl (ky 0, 160, .inl g6))] H := hP
  have hD : va_D A [(bk, .inr (0, [.ref blines, .int (nI blineCount), .int blived, .int bwhyWrong, .int bfineLines, .int bdayThen, .int beatenThen])), (blines, .inl (ky 0, 160, .inl g6))] := hD
  refine lv_aload_n hx hb dX0_put_47 rfl (lv_at hl 1 rfl) ?_
  refine va_get (D := (dC, dI)) (ci := 0) (v := .ref blines) (C := RX0) (T := TX0) (N := 7) hx hb hts hin0 hown hK hP 0 rfl rfl 0 (by decide) (hts (.fieldLink RX0 11 "PorridgeSea$Book" "lines" "[I") (List.mem_of_getElem? (i := 2) rfl)) (fun _ h9 => h9) rfl dX0_put_48 ?_
  refine lv_iload hx hb dX0_put_51 (lv_at hl 0 rfl) ?_
  refine lv_iconst (v := nI 3) hx hb dX0_put_53 (by decide) ?_
  refine lv_iadd hx hb dX0_put_54 ?_
  refine r_ti (nI ((4 * blineCount) + 3)) (nI_add _ _) ?_
  refine lv_iload hx hb dX0_put_55 (lv_at hl 5 rfl) ?_
  refine r_iast (x := u) hx hb hK hP hD hS 1 rfl ((4 * blineCount) + 3) (by omega) (by decide) dX0_put_57 (fun H locs hP hD hS => ?_)
  obtain ⟨g8, e9⟩ : ∃ z9, z9 = upd g6 ((4 * blineCount) + 3) u := ⟨_, rfl⟩
  rw [← e9] at hP hD
  have hP : va_P (dC, dI) vwCl [(bk, .inr (0, [.ref blines, .int (nI blineCount), .int blived, .int bwhyWrong, .int bfineLines, .int bdayThen, .int beatenThen])), (blines, .inl (ky 0, 160, .inl g8))] H := hP
  have hD : va_D A [(bk, .inr (0, [.ref blines, .int (nI blineCount), .int blived, .int bwhyWrong, .int bfineLines, .int bdayThen, .int beatenThen])), (blines, .inl (ky 0, 160, .inl g8))] := hD
  refine lv_aload_n hx hb dX0_put_58 rfl (lv_at hl 1 rfl) ?_
  refine lv_dup hx hb dX0_put_59 rfl ?_
  refine va_get (D := (dC, dI)) (ci := 0) (v := .int (nI blineCount)) (C := RX0) (T := TX0) (N := 7) hx hb hts hin0 hown hK hP 0 rfl rfl 1 (by decide) (hts (.fieldLink RX0 15 "PorridgeSea$Book" "lineCount" "I") (List.mem_of_getElem? (i := 1) rfl)) (fun _ h9 => h9) rfl dX0_put_60 ?_
  refine lv_iconst (v := nI 1) hx hb dX0_put_63 (by decide) ?_
  refine lv_iadd hx hb dX0_put_64 ?_
  refine r_ti (nI (blineCount + 1)) (nI_add _ _) ?_
  refine va_put (D := (dC, dI)) (ci := 0) (v := .int (nI (blineCount + 1))) (ty := .int) (C := RX0) (T := TX0) (N := 7) hx hb hts hin0 tyX0 tyX0_ok nmX0 hown hK hP hD hS 0 rfl rfl 1 (by decide) (hts (.fieldLink RX0 15 "PorridgeSea$Book" "lineCount" "I") (List.mem_of_getElem? (i := 1) rfl)) (fun _ h9 => h9) rfl (by decide +kernel) rfl rfl (Nat.le_of_ble_eq_true rfl) dX0_put_65 (fun H locs hP hD hS => ?_)
  have hP : va_P (dC, dI) vwCl [(bk, .inr (0, [.ref blines, .int (nI (blineCount + 1)), .int blived, .int bwhyWrong, .int bfineLines, .int bdayThen, .int beatenThen])), (blines, .inl (ky 0, 160, .inl g8))] H := hP
  have hD : va_D A [(bk, .inr (0, [.ref blines, .int (nI (blineCount + 1)), .int blived, .int bwhyWrong, .int bfineLines, .int bdayThen, .int beatenThen])), (blines, .inl (ky 0, 160, .inl g8))] := hD
  refine lv_iconst (v := nI 1) hx hb dX0_put_68 (by decide) ?_
  rw [hQ]
  exact W.zret (v := nI 1) hx hb hr (by decide) (fun t9 ht9 hW9 => ⟨⟨nI 1, ((blineCount + 1), g8), rfl, ⟨(lf_f_bput_1), (lf_f_bput_2 blineCount iv_bbk_0 hl9), rfl⟩, by rw [ht9]; exact hP, va_K.moved hW9.alike hK, hD⟩, hS.F ht9⟩) hS.2.2 dX0_put_69
set_option maxRecDepth 20000 in
theorem lf_f_rest0_1 (blineCount : Nat) (bt : Nat → Nat) (rlength : Nat) (rmostBytes : Nat) (rplace : Nat) (rkind : Int32) (rbegin : Nat) (rword : Int32) (rnumber : Int32) (rletters : Int64) (rfaultKind : Int32) (rfaultPlace : Int32) (rtapeF : Nat → Int32) (gp : Nat) (rplaceG_4 : Nat) (rkindG_5 : Int32) (rbeginG_6 : Nat) (rwordG_7 : Int32) (rnumberG_8 : Int32) (rlettersG_9 : Int64) (rfaultKindG_10 : Int32) (rfaultPlaceG_11 : Int32) (iv_bbk_0 : blineCount ≤ 40) (iv_rreader_0 : rlength ≤ 940) (iv_rreader_1 : rplace ≤ rlength) (iv_rreader_2 : rmostBytes ≤ 900) (iv_rreader_3 : rbegin ≤ 940) (hTC : TC bt rtapeF) (hRT : RT bt rlength rmostBytes gp rkind rbegin rplace rword rnumber rletters) (hl9 : blineCount < 40) (p13 : rplaceG_4 ≤ rlength) (p14 : rbeginG_6 ≤ 940) (t22 : isO (pOne bt rlength rmostBytes 8 9 gp) = false) (t23 : rfaultKindG_10 = nI (erA (pOne bt rlength rmostBytes 8 9 gp))) (t24 : rfaultPlaceG_11 = nI (erB (pOne bt rlength rmostBytes 8 9 gp))) : ((nI 0) = nI 1 ∧ (isO (bRest bt rlength rmostBytes 7 gp) = true ∧ RT bt rlength rmostBytes (okV (bRest bt rlength rmostBytes 7 gp)) rkindG_5 rbeginG_6 rplaceG_4 rwordG_7 rnumberG_8 rlettersG_9 ∧ blineCount = blineCount + 1 ∧ rfaultKindG_10 = rfaultKind ∧ rfaultPlaceG_11 = rfaultPlace)) ∨ ((nI 0) = nI 0 ∧ (isO (bRest bt rlength rmostBytes 7 gp) = false ∧ rfaultKindG_10 = nI (erA (bRest bt rlength rmostBytes 7 gp)) ∧ rfaultPlaceG_11 = nI (erB (bRest bt rlength rmostBytes 7 gp)))) := by
  rw [br_7, p3_1 (isE ‹isO (pOne bt rlength rmostBytes 8 9 gp) = false›)]
  exact Or.inr ⟨rfl, rfl, ‹_›, ‹_›⟩
set_option maxRecDepth 20000 in
theorem lf_f_rest0_2 (k15 : Nat) (h17 : k15 < 8) : k15 < 2147483648 := by
  try simp only [ia_lt, ia_le, ia_eq, ia_m1, ia_0, ia_1, ne_eq, true_and, and_true, false_and, and_false, or_false, false_or, or_true, true_or, not_true_eq_false, not_false_eq_true] at *
  all_goals omega
set_option maxRecDepth 20000 in
theorem lf_f_rest0_3   : 0 ≤ 10 := by
  try simp only [ia_lt, ia_le, ia_eq, ia_m1, ia_0, ia_1, ne_eq, true_and, and_true, false_and, and_false, or_false, false_or, or_true, true_or, not_true_eq_false, not_false_eq_true] at *
  all_goals omega
set_option maxRecDepth 20000 in
theorem lf_f_rest0_4   : 5 ≤ 1000 := by
  try simp only [ia_lt, ia_le, ia_eq, ia_m1, ia_0, ia_1, ne_eq, true_and, and_true, false_and, and_false, or_false, false_or, or_true, true_or, not_true_eq_false, not_false_eq_true] at *
  all_goals omega
set_option maxRecDepth 20000 in
theorem lf_f_rest0_5 (blineCount : Nat) (bt : Nat → Nat) (rlength : Nat) (rmostBytes : Nat) (rplace : Nat) (rkind : Int32) (rbegin : Nat) (rword : Int32) (rnumber : Int32) (rletters : Int64) (rfaultKind : Int32) (rfaultPlace : Int32) (rtapeF : Nat → Int32) (gp : Nat) (rplaceG_4 : Nat) (rkindG_5 : Int32) (rbeginG_6 : Nat) (rwordG_7 : Int32) (rnumberG_8 : Int32) (rlettersG_9 : Int64) (rfaultKindG_10 : Int32) (rfaultPlaceG_11 : Int32) (rplaceG_32 : Nat) (rkindG_33 : Int32) (rbeginG_34 : Nat) (rwordG_35 : Int32) (rnumberG_36 : Int32) (rlettersG_37 : Int64) (rfaultKindG_38 : Int32) (rfaultPlaceG_39 : Int32) (iv_bbk_0 : blineCount ≤ 40) (iv_rreader_0 : rlength ≤ 940) (iv_rreader_1 : rplace ≤ rlength) (iv_rreader_2 : rmostBytes ≤ 900) (iv_rreader_3 : rbegin ≤ 940) (hTC : TC bt rtapeF) (hRT : RT bt rlength rmostBytes gp rkind rbegin rplace rword rnumber rletters) (hl9 : blineCount < 40) (p13 : rplaceG_4 ≤ rlength) (p14 : rbeginG_6 ≤ 940) (h18 : isO (pOne bt rlength rmostBytes 8 9 gp) = true) (h19 : RT bt rlength rmostBytes (tT bt rlength rmostBytes gp) rkindG_5 rbeginG_6 rplaceG_4 rwordG_7 rnumberG_8 rlettersG_9) (h20 : rfaultKindG_10 = rfaultKind) (h21 : rfaultPlaceG_11 = rfaultPlace) (p41 : rplaceG_32 ≤ rlength) (p42 : rbeginG_34 ≤ 940) (t51 : pNum bt rlength rmostBytes 0 5 (tT bt rlength rmostBytes gp) = .error (nER bt rlength rmostBytes (tT bt rlength rmostBytes gp), tF bt rlength rmostBytes (tT bt rlength rmostBytes gp))) (t52 : rfaultKindG_38 = nI (nER bt rlength rmostBytes (tT bt rlength rmostBytes gp))) (t53 : rfaultPlaceG_39 = nI (tF bt rlength rmostBytes (tT bt rlength rmostBytes gp))) : ((nI 0) = nI 1 ∧ (isO (bRest bt rlength rmostBytes 7 gp) = true ∧ RT bt rlength rmostBytes (okV (bRest bt rlength rmostBytes 7 gp)) rkindG_33 rbeginG_34 rplaceG_32 rwordG_35 rnumberG_36 rlettersG_37 ∧ blineCount = blineCount + 1 ∧ rfaultKindG_38 = rfaultKind ∧ rfaultPlaceG_39 = rfaultPlace)) ∨ ((nI 0) = nI 0 ∧ (isO (bRest bt rlength rmostBytes 7 gp) = false ∧ rfaultKindG_38 = nI (erA (bRest bt rlength rmostBytes 7 gp)) ∧ rfaultPlaceG_39 = nI (erB (bRest bt rlength rmostBytes 7 gp)))) := by
  obtain ⟨e1v, e1⟩ := isOk ‹isO (pOne bt rlength rmostBytes 8 9 gp) = true›
  rw [br_7, p3_2 e1 (by assumption)]
  exact Or.inr ⟨rfl, rfl, ‹_›, ‹_›⟩
set_option maxRecDepth 20000 in
theorem lf_f_rest0_6 (bt : Nat → Nat) (rlength : Nat) (rmostBytes : Nat) (rplace : Nat) (rkind : Int32) (rbegin : Nat) (rword : Int32) (rnumber : Int32) (rletters : Int64) (rtapeF : Nat → Int32) (gp : Nat) (rplaceG_4 : Nat) (rkindG_5 : Int32) (rbeginG_6 : Nat) (rwordG_7 : Int32) (rnumberG_8 : Int32) (rlettersG_9 : Int64) (rplaceG_32 : Nat) (rkindG_33 : Int32) (rbeginG_34 : Nat) (rwordG_35 : Int32) (rnumberG_36 : Int32) (rlettersG_37 : Int64) (k43 : Nat) (iv_rreader_0 : rlength ≤ 940) (iv_rreader_1 : rplace ≤ rlength) (iv_rreader_2 : rmostBytes ≤ 900) (iv_rreader_3 : rbegin ≤ 940) (hTC : TC bt rtapeF) (hRT : RT bt rlength rmostBytes gp rkind rbegin rplace rword rnumber rletters) (p13 : rplaceG_4 ≤ rlength) (p14 : rbeginG_6 ≤ 940) (h18 : isO (pOne bt rlength rmostBytes 8 9 gp) = true) (h19 : RT bt rlength rmostBytes (tT bt rlength rmostBytes gp) rkindG_5 rbeginG_6 rplaceG_4 rwordG_7 rnumberG_8 rlettersG_9) (p41 : rplaceG_32 ≤ rlength) (p42 : rbeginG_34 ≤ 940) (h45 : pNum bt rlength rmostBytes 0 5 (tT bt rlength rmostBytes gp) = .ok k43) (h46 : 0 ≤ k43) (h47 : k43 ≤ 5) (h48 : RT bt rlength rmostBytes (tT bt rlength rmostBytes (tT bt rlength rmostBytes gp)) rkindG_33 rbeginG_34 rplaceG_32 rwordG_35 rnumberG_36 rlettersG_37) : k43 < 2147483648 := by
  have b_rkind := ia_b rkind
  have b_rword := ia_b rword
  have b_rnumber := ia_b rnumber
  have b_rkindG_5 := ia_b rkindG_5
  have b_rwordG_7 := ia_b rwordG_7
  have b_rnumberG_8 := ia_b rnumberG_8
  have b_rkindG_33 := ia_b rkindG_33
  have b_rwordG_35 := ia_b rwordG_35
  have b_rnumberG_36 := ia_b rnumberG_36
  have b_rletters := Int64.toInt_lt rletters
  have b_rlettersG_9 := Int64.toInt_lt rlettersG_9
  have b_rlettersG_37 := Int64.toInt_lt rlettersG_37
  try simp only [ia_lt, ia_le, ia_eq, ia_m1, ia_0, ia_1, ne_eq, true_and, and_true, false_and, and_false, or_false, false_or, or_true, true_or, not_true_eq_false, not_false_eq_true] at *
  all_goals omega
set_option maxRecDepth 20000 in
theorem lf_f_rest0_7 (blineCount : Nat) (bt : Nat → Nat) (rlength : Nat) (rmostBytes : Nat) (rplace : Nat) (rkind : Int32) (rbegin : Nat) (rword : Int32) (rnumber : Int32) (rletters : Int64) (rfaultKind : Int32) (rfaultPlace : Int32) (rtapeF : Nat → Int32) (gp : Nat) (rplaceG_4 : Nat) (rkindG_5 : Int32) (rbeginG_6 : Nat) (rwordG_7 : Int32) (rnumberG_8 : Int32) (rlettersG_9 : Int64) (rfaultKindG_10 : Int32) (rfaultPlaceG_11 : Int32) (rplaceG_32 : Nat) (rkindG_33 : Int32) (rbeginG_34 : Nat) (rwordG_35 : Int32) (rnumberG_36 : Int32) (rlettersG_37 : Int64) (rfaultKindG_38 : Int32) (rfaultPlaceG_39 : Int32) (k43 : Nat) (rplaceG_60 : Nat) (rkindG_61 : Int32) (rbeginG_62 : Nat) (rwordG_63 : Int32) (rnumberG_64 : Int32) (rlettersG_65 : Int64) (rfaultKindG_66 : Int32) (rfaultPlaceG_67 : Int32) (iv_bbk_0 : blineCount ≤ 40) (iv_rreader_0 : rlength ≤ 940) (iv_rreader_1 : rplace ≤ rlength) (iv_rreader_2 : rmostBytes ≤ 900) (iv_rreader_3 : rbegin ≤ 940) (hTC : TC bt rtapeF) (hRT : RT bt rlength rmostBytes gp rkind rbegin rplace rword rnumber rletters) (hl9 : blineCount < 40) (p13 : rplaceG_4 ≤ rlength) (p14 : rbeginG_6 ≤ 940) (h18 : isO (pOne bt rlength rmostBytes 8 9 gp) = true) (h19 : RT bt rlength rmostBytes (tT bt rlength rmostBytes gp) rkindG_5 rbeginG_6 rplaceG_4 rwordG_7 rnumberG_8 rlettersG_9) (h20 : rfaultKindG_10 = rfaultKind) (h21 : rfaultPlaceG_11 = rfaultPlace) (p41 : rplaceG_32 ≤ rlength) (p42 : rbeginG_34 ≤ 940) (h45 : pNum bt rlength rmostBytes 0 5 (tT bt rlength rmostBytes gp) = .ok k43) (h46 : 0 ≤ k43) (h47 : k43 ≤ 5) (h48 : RT bt rlength rmostBytes (tT bt rlength rmostBytes (tT bt rlength rmostBytes gp)) rkindG_33 rbeginG_34 rplaceG_32 rwordG_35 rnumberG_36 rlettersG_37) (h49 : rfaultKindG_38 = rfaultKindG_10) (h50 : rfaultPlaceG_39 = rfaultPlaceG_11) (p69 : rplaceG_60 ≤ rlength) (p70 : rbeginG_62 ≤ 940) (t78 : isO (pOne bt rlength rmostBytes 10 11 (tT bt rlength rmostBytes (tT bt rlength rmostBytes gp))) = false) (t79 : rfaultKindG_66 = nI (erA (pOne bt rlength rmostBytes 10 11 (tT bt rlength rmostBytes (tT bt rlength rmostBytes gp))))) (t80 : rfaultPlaceG_67 = nI (erB (pOne bt rlength rmostBytes 10 11 (tT bt rlength rmostBytes (tT bt rlength rmostBytes gp))))) : ((nI 0) = nI 1 ∧ (isO (bRest bt rlength rmostBytes 7 gp) = true ∧ RT bt rlength rmostBytes (okV (bRest bt rlength rmostBytes 7 gp)) rkindG_61 rbeginG_62 rplaceG_60 rwordG_63 rnumberG_64 rlettersG_65 ∧ blineCount = blineCount + 1 ∧ rfaultKindG_66 = rfaultKind ∧ rfaultPlaceG_67 = rfaultPlace)) ∨ ((nI 0) = nI 0 ∧ (isO (bRest bt rlength rmostBytes 7 gp) = false ∧ rfaultKindG_66 = nI (erA (bRest bt rlength rmostBytes 7 gp)) ∧ rfaultPlaceG_67 = nI (erB (bRest bt rlength rmostBytes 7 gp)))) := by
  obtain ⟨e1v, e1⟩ := isOk ‹isO (pOne bt rlength rmostBytes 8 9 gp) = true›
  rw [br_7, p3_3 e1 (by assumption) (isE ‹isO (pOne bt rlength rmostBytes 10 11 (tT bt rlength rmostBytes (tT bt rlength rmostBytes gp))) = false›)]
  exact Or.inr ⟨rfl, rfl, ‹_›, ‹_›⟩
set_option maxRecDepth 20000 in
theorem lf_f_rest0_8 (k71 : Nat) (h73 : k71 < 8) : k71 < 2147483648 := by
  try simp only [ia_lt, ia_le, ia_eq, ia_m1, ia_0, ia_1, ne_eq, true_and, and_true, false_and, and_false, or_false, false_or, or_true, true_or, not_true_eq_false, not_false_eq_true] at *
  all_goals omega
set_option maxRecDepth 20000 in
theorem lf_f_rest0_9 (blineCount : Nat) (bt : Nat → Nat) (rlength : Nat) (rmostBytes : Nat) (rplace : Nat) (rkind : Int32) (rbegin : Nat) (rword : Int32) (rnumber : Int32) (rletters : Int64) (rfaultKind : Int32) (rfaultPlace : Int32) (rtapeF : Nat → Int32) (gp : Nat) (rplaceG_4 : Nat) (rkindG_5 : Int32) (rbeginG_6 : Nat) (rwordG_7 : Int32) (rnumberG_8 : Int32) (rlettersG_9 : Int64) (rfaultKindG_10 : Int32) (rfaultPlaceG_11 : Int32) (rplaceG_32 : Nat) (rkindG_33 : Int32) (rbeginG_34 : Nat) (rwordG_35 : Int32) (rnumberG_36 : Int32) (rlettersG_37 : Int64) (rfaultKindG_38 : Int32) (rfaultPlaceG_39 : Int32) (k43 : Nat) (rplaceG_60 : Nat) (rkindG_61 : Int32) (rbeginG_62 : Nat) (rwordG_63 : Int32) (rnumberG_64 : Int32) (rlettersG_65 : Int64) (rfaultKindG_66 : Int32) (rfaultPlaceG_67 : Int32) (blineCountG_86 : Nat) (iv_bbk_0 : blineCount ≤ 40) (iv_rreader_0 : rlength ≤ 940) (iv_rreader_1 : rplace ≤ rlength) (iv_rreader_2 : rmostBytes ≤ 900) (iv_rreader_3 : rbegin ≤ 940) (hTC : TC bt rtapeF) (hRT : RT bt rlength rmostBytes gp rkind rbegin rplace rword rnumber rletters) (hl9 : blineCount < 40) (p13 : rplaceG_4 ≤ rlength) (p14 : rbeginG_6 ≤ 940) (h18 : isO (pOne bt rlength rmostBytes 8 9 gp) = true) (h19 : RT bt rlength rmostBytes (tT bt rlength rmostBytes gp) rkindG_5 rbeginG_6 rplaceG_4 rwordG_7 rnumberG_8 rlettersG_9) (h20 : rfaultKindG_10 = rfaultKind) (h21 : rfaultPlaceG_11 = rfaultPlace) (p41 : rplaceG_32 ≤ rlength) (p42 : rbeginG_34 ≤ 940) (h45 : pNum bt rlength rmostBytes 0 5 (tT bt rlength rmostBytes gp) = .ok k43) (h46 : 0 ≤ k43) (h47 : k43 ≤ 5) (h48 : RT bt rlength rmostBytes (tT bt rlength rmostBytes (tT bt rlength rmostBytes gp)) rkindG_33 rbeginG_34 rplaceG_32 rwordG_35 rnumberG_36 rlettersG_37) (h49 : rfaultKindG_38 = rfaultKindG_10) (h50 : rfaultPlaceG_39 = rfaultPlaceG_11) (p69 : rplaceG_60 ≤ rlength) (p70 : rbeginG_62 ≤ 940) (h74 : isO (pOne bt rlength rmostBytes 10 11 (tT bt rlength rmostBytes (tT bt rlength rmostBytes gp))) = true) (h75 : RT bt rlength rmostBytes (tT bt rlength rmostBytes (tT bt rlength rmostBytes (tT bt rlength rmostBytes gp))) rkindG_61 rbeginG_62 rplaceG_60 rwordG_63 rnumberG_64 rlettersG_65) (h76 : rfaultKindG_66 = rfaultKindG_38) (h77 : rfaultPlaceG_67 = rfaultPlaceG_39) (p89 : blineCountG_86 ≤ 40) (p90 : blineCountG_86 = blineCount + 1) : ((nI 1) = nI 1 ∧ (isO (bRest bt rlength rmostBytes 7 gp) = true ∧ RT bt rlength rmostBytes (okV (bRest bt rlength rmostBytes 7 gp)) rkindG_61 rbeginG_62 rplaceG_60 rwordG_63 rnumberG_64 rlettersG_65 ∧ blineCountG_86 = blineCount + 1 ∧ rfaultKindG_66 = rfaultKind ∧ rfaultPlaceG_67 = rfaultPlace)) ∨ ((nI 1) = nI 0 ∧ (isO (bRest bt rlength rmostBytes 7 gp) = false ∧ rfaultKindG_66 = nI (erA (bRest bt rlength rmostBytes 7 gp)) ∧ rfaultPlaceG_67 = nI (erB (bRest bt rlength rmostBytes 7 gp)))) := by
  obtain ⟨e1v, e1⟩ := isOk ‹isO (pOne bt rlength rmostBytes 8 9 gp) = true›
  obtain ⟨e3v, e3⟩ := isOk ‹isO (pOne bt rlength rmostBytes 10 11 (tT bt rlength rmostBytes (tT bt rlength rmostBytes gp))) = true›
  rw [br_7, p3_o e1 (by assumption) e3]
  exact Or.inl ⟨rfl, rfl, ‹_›, (by first | rfl | assumption | (subst_vars; rfl) | (subst_vars; assumption)), (by first | rfl | assumption | (subst_vars; rfl) | (subst_vars; assumption)), (by first | rfl | assumption | (subst_vars; rfl) | (subst_vars; assumption))⟩
set_option maxHeartbeats 4000000 in
set_option maxRecDepth 100000 in
theorem c_f_rest0 (l : Launch) (dC : Nat → ClassId) (dI : Nat → Nat → Nat) (ky : Nat → ClassId) (sz : Nat) (adK : Nat → Nat) (adV : Nat → Nat) (bk : Nat) (blines : Nat) (blineCount : Nat) (blived : Int32) (bwhyWrong : Int32) (bfineLines : Int32) (bdayThen : Int32) (beatenThen : Int32) (blinesF : Nat → Int32) (bt : Nat → Nat) (reader : Nat) (rtape : Nat) (rlength : Nat) (rmostBytes : Nat) (rplace : Nat) (rkind : Int32) (rbegin : Nat) (rword : Int32) (rnumber : Int32) (rletters : Int64) (rfaultKind : Int32) (rfaultPlace : Int32) (rtapeF : Nat → Int32) (gp : Nat) (y : Int32) (iv_bbk_0 : blineCount ≤ 40) (iv_rreader_0 : rlength ≤ 940) (iv_rreader_1 : rplace ≤ rlength) (iv_rreader_2 : rmostBytes ≤ 900) (iv_rreader_3 : rbegin ≤ 940) (hTC : TC bt rtapeF) (hRT : RT bt rlength rmostBytes gp rkind rbegin rplace rword rnumber rletters) (hl9 : blineCount < 40) : Met l yX0_readRest wsX0_readRest ({ frames := 7, cells := 0, slots := 0, locals := 154 }) (PcUE dC dI ky adK adV [.ref bk, .ref reader, .int (nI 0), .int y] [(bk, .inr (0, [.ref blines, .int (nI blineCount), .int blived, .int bwhyWrong, .int bfineLines, .int bdayThen, .int beatenThen])), (blines, .inl (ky 0, 160, .inl blinesF)), (reader, .inr (5, [.ref rtape, .int (nI rlength), .int (nI rmostBytes), .int (nI rplace), .int rkind, .int (nI rbegin), .int rword, .int rnumber, .long rletters, .int rfaultKind, .int rfaultPlace])), (rtape, .inl (ky 2, 940, .inl rtapeF))] sz) (va_Qi (fun (r : Int32) (u : Nat × (Nat → Int32) × Nat × Int32 × Nat × Int32 × Int32 × Int64 × Int32 × Int32) => match u with | (blineCountG, blinesG, rplaceG, rkindG, rbeginG, rwordG, rnumberG, rlettersG, rfaultKindG, rfaultPlaceG) => ((r = nI 1 ∧ (isO (bRest bt rlength rmostBytes 7 gp) = true ∧ RT bt rlength rmostBytes (okV (bRest bt rlength rmostBytes 7 gp)) rkindG rbeginG rplaceG rwordG rnumberG rlettersG ∧ blineCountG = blineCount + 1 ∧ rfaultKindG = rfaultKind ∧ rfaultPlaceG = rfaultPlace)) ∨ (r = nI 0 ∧ (isO (bRest bt rlength rmostBytes 7 gp) = false ∧ rfaultKindG = nI (erA (bRest bt rlength rmostBytes 7 gp)) ∧ rfaultPlaceG = nI (erB (bRest bt rlength rmostBytes 7 gp))))) ∧ (blineCountG ≤ 40) ∧ (rplaceG ≤ rlength) ∧ (rbeginG ≤ 940)) (BU dC dI ky (fun (u : Nat × (Nat → Int32) × Nat × Int32 × Nat × Int32 × Int32 × Int64 × Int32 × Int32) => match u with | (blineCountG, blinesG, rplaceG, rkindG, rbeginG, rwordG, rnumberG, rlettersG, rfaultKindG, rfaultPlaceG) => [(bk, .inr (0, [.ref blines, .int (nI blineCountG), .int blived, .int bwhyWrong, .int bfineLines, .int bdayThen, .int beatenThen])), (blines, .inl (ky 0, 160, .inl blinesG)), (reader, .inr (5, [.ref rtape, .int (nI rlength), .int (nI rmostBytes), .int (nI rplaceG), .int rkindG, .int (nI rbeginG), .int rwordG, .int rnumberG, .long rlettersG, .int rfaultKindG, .int rfaultPlaceG])), (rtape, .inl (ky 2, 940, .inl rtapeF))]) (va_A [(bk, .inr (0, [.ref blines, .int (nI blineCount), .int blived, .int bwhyWrong, .int bfineLines, .int bdayThen, .int beatenThen])), (blines, .inl (ky 0, 160, .inl blinesF)), (reader, .inr (5, [.ref rtape, .int (nI rlength), .int (nI rmostBytes), .int (nI rplace), .int rkind, .int (nI rbegin), .int rword, .int rnumber, .long rletters, .int rfaultKind, .int rfaultPlace])), (rtape, .inl (ky 2, 940, .inl rtapeF))] sz)) (va_A [(bk, .inr (0, [.ref blines, .int (nI blineCount), .int blived, .int bwhyWrong, .int bfineLines, .int bdayThen, .int beatenThen])), (blines, .inl (ky 0, 160, .inl blinesF)), (reader, .inr (5, [.ref rtape, .int (nI rlength), .int (nI rmostBytes), .int (nI rplace), .int rkind, .int (nI rbegin), .int rword, .int rnumber, .long rletters, .int rfaultKind, .int rfaultPlace])), (rtape, .inl (ky 2, 940, .inl rtapeF))] sz)) 0 0 (va_A [(bk, .inr (0, [.ref blines, .int (nI blineCount), .int blived, .int bwhyWrong, .int bfineLines, .int bdayThen, .int beatenThen])), (blines, .inl (ky 0, 160, .inl blinesF)), (reader, .inr (5, [.ref rtape, .int (nI rlength), .int (nI rmostBytes), .int (nI rplace), .int rkind, .int (nI rbegin), .int rword, .int rnumber, .long rletters, .int rfaultKind, .int rfaultPlace])), (rtape, .inl (ky 2, 940, .inl rtapeF))] sz) := by
  refine Met.ofW (cc := cX0_readRest) (maxL := 12) (ret := (some .boolean)) (by decide) rfl ?_
  intro p e s m args below meth c s₁ B hml hv
  obtain ⟨rfl, hsz, hP, hK, hD0, hE⟩ := hv
  have hx := B.exec
  have hb := B.bytes
  have hr := B.returns
  have hts := atoms_spec (ws := wsX0_readRest) B.pre
  have hown : s.vm.findClass RX0 = some m.cls := findClass_of_methodNamed B.named
  have hlocks := B.notSynchronized
  subst hsz
  have hD := hD0.self (sz := s.heap.size)
  generalize hAe : va_A [(bk, .inr (0, [.ref blines, .int (nI blineCount), .int blived, .int bwhyWrong, .int bfineLines, .int bdayThen, .int beatenThen])), (blines, .inl (ky 0, 160, .inl blinesF)), (reader, .inr (5, [.ref rtape, .int (nI rlength), .int (nI rmostBytes), .int (nI rplace), .int rkind, .int (nI rbegin), .int rword, .int rnumber, .long rletters, .int rfaultKind, .int rfaultPlace])), (rtape, .inl (ky 2, 940, .inl rtapeF))] s.heap.size = A at hD hE ⊢
  have hA : ∀ q : Nat, s.heap.size ≤ q → A q := fun q h => by rw [← hAe]; exact Or.inr h
  have hS : va_S A s.heap s.heap [] := va_S.rf
  have hl := lv_entry ([.ref bk, .ref reader, .int (nI 0), .int y]) (n := 12) (Nat.le_of_ble_eq_true rfl)
  rw [lg_entry_eq]
  generalize (lg_sl ([.ref bk, .ref reader, .int (nI 0), .int y]) ++ List.replicate (12 - (lg_sl ([.ref bk, .ref reader, .int (nI 0), .int y])).length) Slot.unset).toArray = ls at hl ⊢
  have hl : lv_has ls 12 [(0, .ref bk), (1, .ref reader), (2, .int (nI 0)), (3, .int y)] := hl
  refine q_name (fun Q hQ => ?_)
  generalize ([.ref bk, .ref reader, .int (nI 0), .int y] : List Value).toArray = args at hts hQ ⊢
  refine lv_iload_n hx hb dX0_readRest_0 rfl (lv_at hl 2 rfl) ?_
  refine lv_tableIn (off := 31) (tgt := 32) hx hb dX0_readRest_1 (by decide) (by decide) rfl (by decide) ?_
  refine lv_aload_n hx hb dX0_readRest_32 rfl (lv_at hl 1 rfl) ?_
  refine lv_bipush (v := nI 8) hx hb dX0_readRest_33 (by decide) ?_
  refine lv_bipush (v := nI 9) hx hb dX0_readRest_35 (by decide) ?_
  refine r_call_i (wr := [(bk, .inr (0, [.ref blines, .int (nI blineCount), .int blived, .int bwhyWrong, .int bfineLines, .int bdayThen, .int beatenThen])), (blines, .inl (ky 0, 160, .inl blinesF))]) (va_runV (As := [.int (nI 8), .int (nI 9)]) (rest := []) ⟨hx, hb, hml, hown, hts⟩ (c_f_takeWord8 l dC dI ky s.heap.size adK adV bt reader rtape rlength rmostBytes rplace rkind rbegin rword rnumber rletters rfaultKind rfaultPlace rtapeF gp iv_rreader_0 iv_rreader_1 iv_rreader_2 iv_rreader_3 hTC hRT) (cwV 2 hts gX0_readRest_X5_takeWord rfl rfl rfl (by decide +kernel) ⟨(Nat.le_of_ble_eq_true rfl), (Nat.le_of_ble_eq_true rfl)⟩) (pre_UEV hE hS hA hK hP hD [2, 3] (by decide) rfl (va_recv hK hP (ci := 5) (q0 := 2) rfl rfl)) rfl rfl hl.1 rfl (lv_room (Nat.le_of_ble_eq_true rfl)) dX0_readRest_37 ⟨(Nat.le_of_ble_eq_true rfl), (Nat.le_of_ble_eq_true rfl)⟩) hP hD hS hA [2, 3] [0, 1] rfl rfl (by decide) (by decide) (fun r3 u1 H locs p2 hP hD hS => ?_)
  obtain ⟨rplaceG_4, rkindG_5, rbeginG_6, rwordG_7, rnumberG_8, rlettersG_9, rfaultKindG_10, rfaultPlaceG_11⟩ := u1
  try dsimp only at p2
  obtain ⟨p12, p13, p14⟩ := p2
  refine W.widen (k := 0) (n := 0) (Nat.le_of_ble_eq_true rfl) (Nat.le_of_ble_eq_true rfl) ?_
  have hP : va_P (dC, dI) vwCl [(bk, .inr (0, [.ref blines, .int (nI blineCount), .int blived, .int bwhyWrong, .int bfineLines, .int bdayThen, .int beatenThen])), (blines, .inl (ky 0, 160, .inl blinesF)), (reader, .inr (5, [.ref rtape, .int (nI rlength), .int (nI rmostBytes), .int (nI rplaceG_4), .int rkindG_5, .int (nI rbeginG_6), .int rwordG_7, .int rnumberG_8, .long rlettersG_9, .int rfaultKindG_10, .int rfaultPlaceG_11])), (rtape, .inl (ky 2, 940, .inl rtapeF))] H := hP
  have hD : va_D A [(bk, .inr (0, [.ref blines, .int (nI blineCount), .int blived, .int bwhyWrong, .int bfineLines, .int bdayThen, .int beatenThen])), (blines, .inl (ky 0, 160, .inl blinesF)), (reader, .inr (5, [.ref rtape, .int (nI rlength), .int (nI rmostBytes), .int (nI rplaceG_4), .int rkindG_5, .int (nI rbeginG_6), .int rwordG_7, .int rnumberG_8, .long rlettersG_9, .int rfaultKindG_10, .int rfaultPlaceG_11])), (rtape, .inl (ky 2, 940, .inl rtapeF))] := hD
  rcases p12 with ⟨rfl, t22, t23, t24⟩ | ⟨k15, ⟨h17, h18, h19, h20, h21⟩, rfl⟩
  · refine lv_istore (lv' := [(4, .int (-1 : Int32)), (0, .ref bk), (1, .ref reader), (2, .int (nI 0)), (3, .int y)]) hx hb dX0_readRest_40 hl (by decide) rfl (fun ls hl => ?_)
    refine lv_iload hx hb dX0_readRest_42 (lv_at hl 0 rfl) ?_
    refine lv_iconst (v := (-1 : Int32)) hx hb dX0_readRest_44 (by decide) ?_
    refine lv_icmp_ne (tgt := 52) hx hb dX0_readRest_45 (by decide) (fun c25 => absurd c25 (by decide)) (fun c25 => ?_)
    refine lv_iconst (v := (-1 : Int32)) hx hb dX0_readRest_48 (by decide) ?_
    refine lv_goto (tgt := 58) hx hb dX0_readRest_49 (by decide) ?_
    refine lv_istore (lv' := [(5, .int (-1 : Int32)), (4, .int (-1 : Int32)), (0, .ref bk), (1, .ref reader), (2, .int (nI 0)), (3, .int y)]) hx hb dX0_readRest_58 hl (by decide) rfl (fun ls hl => ?_)
    refine lv_iload hx hb dX0_readRest_60 (lv_at hl 0 rfl) ?_
    refine lv_iconst (v := (-1 : Int32)) hx hb dX0_readRest_62 (by decide) ?_
    refine lv_icmp_ne (tgt := 70) hx hb dX0_readRest_63 (by decide) (fun c26 => absurd c26 (by decide)) (fun c26 => ?_)
    refine lv_iconst (v := (-1 : Int32)) hx hb dX0_readRest_66 (by decide) ?_
    refine lv_goto (tgt := 78) hx hb dX0_readRest_67 (by decide) ?_
    refine lv_istore (lv' := [(6, .int (-1 : Int32)), (5, .int (-1 : Int32)), (4, .int (-1 : Int32)), (0, .ref bk), (1, .ref reader), (2, .int (nI 0)), (3, .int y)]) hx hb dX0_readRest_78 hl (by decide) rfl (fun ls hl => ?_)
    refine lv_iload hx hb dX0_readRest_80 (lv_at hl 0 rfl) ?_
    refine lv_iconst (v := (-1 : Int32)) hx hb dX0_readRest_82 (by decide) ?_
    refine lv_icmp_eq (tgt := 104) hx hb dX0_readRest_83 (by decide) (fun c27 => ?_) (fun c27 => absurd (by decide) c27)
    refine lv_iconst (v := nI 0) hx hb dX0_readRest_104 (by decide) ?_
    rw [hQ]
    exact W.zret (v := nI 0) hx hb hr (by decide) (fun t9 ht9 hW9 => ⟨⟨nI 0, (blineCount, blinesF, rplaceG_4, rkindG_5, rbeginG_6, rwordG_7, rnumberG_8, rlettersG_9, rfaultKindG_10, rfaultPlaceG_11), rfl, ⟨(lf_f_rest0_1 blineCount bt rlength rmostBytes rplace rkind rbegin rword rnumber rletters rfaultKind rfaultPlace rtapeF gp rplaceG_4 rkindG_5 rbeginG_6 rwordG_7 rnumberG_8 rlettersG_9 rfaultKindG_10 rfaultPlaceG_11 iv_bbk_0 iv_rreader_0 iv_rreader_1 iv_rreader_2 iv_rreader_3 hTC hRT hl9 p13 p14 t22 t23 t24), iv_bbk_0, p13, p14⟩, by rw [ht9]; exact hP, va_K.moved hW9.alike hK, hD⟩, hS.F ht9⟩) hS.2.2 dX0_readRest_105
  · refine lv_istore (lv' := [(4, .int (nI k15)), (0, .ref bk), (1, .ref reader), (2, .int (nI 0)), (3, .int y)]) hx hb dX0_readRest_40 hl (by decide) rfl (fun ls hl => ?_)
    refine lv_iload hx hb dX0_readRest_42 (lv_at hl 0 rfl) ?_
    refine lv_iconst (v := (-1 : Int32)) hx hb dX0_readRest_44 (by decide) ?_
    refine lv_icmp_ne (tgt := 52) hx hb dX0_readRest_45 (by decide) (fun c28 => ?_) (fun c28 => absurd c28 (nI_neg (lf_f_rest0_2 k15 h17)))
    refine lv_aload_n hx hb dX0_readRest_52 rfl (lv_at hl 2 rfl) ?_
    refine lv_iconst (v := nI 0) hx hb dX0_readRest_53 (by decide) ?_
    refine lv_iconst (v := nI 5) hx hb dX0_readRest_54 (by decide) ?_
    refine r_call_i (wr := [(bk, .inr (0, [.ref blines, .int (nI blineCount), .int blived, .int bwhyWrong, .int bfineLines, .int bdayThen, .int beatenThen])), (blines, .inl (ky 0, 160, .inl blinesF))]) (va_runV (As := [.int (nI 0), .int (nI 5)]) (rest := []) ⟨hx, hb, hml, hown, hts⟩ (c_f_takeNumber l dC dI ky H.size adK adV bt reader rtape rlength rmostBytes rplaceG_4 rkindG_5 rbeginG_6 rwordG_7 rnumberG_8 rlettersG_9 rfaultKindG_10 rfaultPlaceG_11 rtapeF (tT bt rlength rmostBytes gp) 0 5 iv_rreader_0 p13 iv_rreader_2 p14 hTC (lf_f_rest0_3) (lf_f_rest0_4) h19) (cwV 2 hts gX0_readRest_X5_takeNumber rfl rfl rfl (by decide +kernel) ⟨(Nat.le_of_ble_eq_true rfl), (Nat.le_of_ble_eq_true rfl)⟩) (pre_UEV hE hS hA hK hP hD [2, 3] (by decide) rfl (va_recv hK hP (ci := 5) (q0 := 2) rfl rfl)) rfl rfl hl.1 rfl (lv_room (Nat.le_of_ble_eq_true rfl)) dX0_readRest_55 ⟨(Nat.le_of_ble_eq_true rfl), (Nat.le_of_ble_eq_true rfl)⟩) hP hD hS hA [2, 3] [0, 1] rfl rfl (by decide) (by decide) (fun r31 u29 H locs p30 hP hD hS => ?_)
    obtain ⟨rplaceG_32, rkindG_33, rbeginG_34, rwordG_35, rnumberG_36, rlettersG_37, rfaultKindG_38, rfaultPlaceG_39⟩ := u29
    try dsimp only at p30
    obtain ⟨p40, p41, p42⟩ := p30
    refine W.widen (k := 0) (n := 0) (Nat.le_of_ble_eq_true rfl) (Nat.le_of_ble_eq_true rfl) ?_
    have hP : va_P (dC, dI) vwCl [(bk, .inr (0, [.ref blines, .int (nI blineCount), .int blived, .int bwhyWrong, .int bfineLines, .int bdayThen, .int beatenThen])), (blines, .inl (ky 0, 160, .inl blinesF)), (reader, .inr (5, [.ref rtape, .int (nI rlength), .int (nI rmostBytes), .int (nI rplaceG_32), .int rkindG_33, .int (nI rbeginG_34), .int rwordG_35, .int rnumberG_36, .long rlettersG_37, .int rfaultKindG_38, .int rfaultPlaceG_39])), (rtape, .inl (ky 2, 940, .inl rtapeF))] H := hP
    have hD : va_D A [(bk, .inr (0, [.ref blines, .int (nI blineCount), .int blived, .int bwhyWrong, .int bfineLines, .int bdayThen, .int beatenThen])), (blines, .inl (ky 0, 160, .inl blinesF)), (reader, .inr (5, [.ref rtape, .int (nI rlength), .int (nI rmostBytes), .int (nI rplaceG_32), .int rkindG_33, .int (nI rbeginG_34), .int rwordG_35, .int rnumberG_36, .long rlettersG_37, .int rfaultKindG_38, .int rfaultPlaceG_39])), (rtape, .inl (ky 2, 940, .inl rtapeF))] := hD
    rcases p40 with ⟨rfl, t51, t52, t53⟩ | ⟨k43, ⟨h45, h46, h47, h48, h49, h50⟩, rfl⟩
    · refine lv_istore (lv' := [(5, .int (-1 : Int32)), (4, .int (nI k15)), (0, .ref bk), (1, .ref reader), (2, .int (nI 0)), (3, .int y)]) hx hb dX0_readRest_58 hl (by decide) rfl (fun ls hl => ?_)
      refine lv_iload hx hb dX0_readRest_60 (lv_at hl 0 rfl) ?_
      refine lv_iconst (v := (-1 : Int32)) hx hb dX0_readRest_62 (by decide) ?_
      refine lv_icmp_ne (tgt := 70) hx hb dX0_readRest_63 (by decide) (fun c54 => absurd c54 (by decide)) (fun c54 => ?_)
      refine lv_iconst (v := (-1 : Int32)) hx hb dX0_readRest_66 (by decide) ?_
      refine lv_goto (tgt := 78) hx hb dX0_readRest_67 (by decide) ?_
      refine lv_istore (lv' := [(6, .int (-1 : Int32)), (5, .int (-1 : Int32)), (4, .int (nI k15)), (0, .ref bk), (1, .ref reader), (2, .int (nI 0)), (3, .int y)]) hx hb dX0_readRest_78 hl (by decide) rfl (fun ls hl => ?_)
      refine lv_iload hx hb dX0_readRest_80 (lv_at hl 0 rfl) ?_
      refine lv_iconst (v := (-1 : Int32)) hx hb dX0_readRest_82 (by decide) ?_
      refine lv_icmp_eq (tgt := 104) hx hb dX0_readRest_83 (by decide) (fun c55 => ?_) (fun c55 => absurd (by decide) c55)
      refine lv_iconst (v := nI 0) hx hb dX0_readRest_104 (by decide) ?_
      rw [hQ]
      exact W.zret (v := nI 0) hx hb hr (by decide) (fun t9 ht9 hW9 => ⟨⟨nI 0, (blineCount, blinesF, rplaceG_32, rkindG_33, rbeginG_34, rwordG_35, rnumberG_36, rlettersG_37, rfaultKindG_38, rfaultPlaceG_39), rfl, ⟨(lf_f_rest0_5 blineCount bt rlength rmostBytes rplace rkind rbegin rword rnumber rletters rfaultKind rfaultPlace rtapeF gp rplaceG_4 rkindG_5 rbeginG_6 rwordG_7 rnumberG_8 rlettersG_9 rfaultKindG_10 rfaultPlaceG_11 rplaceG_32 rkindG_33 rbeginG_34 rwordG_35 rnumberG_36 rlettersG_37 rfaultKindG_38 rfaultPlaceG_39 iv_bbk_0 iv_rreader_0 iv_rreader_1 iv_rreader_2 iv_rreader_3 hTC hRT hl9 p13 p14 h18 h19 h20 h21 p41 p42 t51 t52 t53), iv_bbk_0, p41, p42⟩, by rw [ht9]; exact hP, va_K.moved hW9.alike hK, hD⟩, hS.F ht9⟩) hS.2.2 dX0_readRest_105
    · refine lv_istore (lv' := [(5, .int (nI k43)), (4, .int (nI k15)), (0, .ref bk), (1, .ref reader), (2, .int (nI 0)), (3, .int y)]) hx hb dX0_readRest_58 hl (by decide) rfl (fun ls hl => ?_)
      refine lv_iload hx hb dX0_readRest_60 (lv_at hl 0 rfl) ?_
      refine lv_iconst (v := (-1 : Int32)) hx hb dX0_readRest_62 (by decide) ?_
      refine lv_icmp_ne (tgt := 70) hx hb dX0_readRest_63 (by decide) (fun c56 => ?_) (fun c56 => absurd c56 (nI_neg (lf_f_rest0_6 bt rlength rmostBytes rplace rkind rbegin rword rnumber rletters rtapeF gp rplaceG_4 rkindG_5 rbeginG_6 rwordG_7 rnumberG_8 rlettersG_9 rplaceG_32 rkindG_33 rbeginG_34 rwordG_35 rnumberG_36 rlettersG_37 k43 iv_rreader_0 iv_rreader_1 iv_rreader_2 iv_rreader_3 hTC hRT p13 p14 h18 h19 p41 p42 h45 h46 h47 h48)))
      refine lv_aload_n hx hb dX0_readRest_70 rfl (lv_at hl 3 rfl) ?_
      refine lv_bipush (v := nI 10) hx hb dX0_readRest_71 (by decide) ?_
      refine lv_bipush (v := nI 11) hx hb dX0_readRest_73 (by decide) ?_
      refine r_call_i (wr := [(bk, .inr (0, [.ref blines, .int (nI blineCount), .int blived, .int bwhyWrong, .int bfineLines, .int bdayThen, .int beatenThen])), (blines, .inl (ky 0, 160, .inl blinesF))]) (va_runV (As := [.int (nI 10), .int (nI 11)]) (rest := []) ⟨hx, hb, hml, hown, hts⟩ (c_f_takeWord10 l dC dI ky H.size adK adV bt reader rtape rlength rmostBytes rplaceG_32 rkindG_33 rbeginG_34 rwordG_35 rnumberG_36 rlettersG_37 rfaultKindG_38 rfaultPlaceG_39 rtapeF (tT bt rlength rmostBytes (tT bt rlength rmostBytes gp)) iv_rreader_0 p41 iv_rreader_2 p42 hTC h48) (cwV 2 hts gX0_readRest_X5_takeWord rfl rfl rfl (by decide +kernel) ⟨(Nat.le_of_ble_eq_true rfl), (Nat.le_of_ble_eq_true rfl)⟩) (pre_UEV hE hS hA hK hP hD [2, 3] (by decide) rfl (va_recv hK hP (ci := 5) (q0 := 2) rfl rfl)) rfl rfl hl.1 rfl (lv_room (Nat.le_of_ble_eq_true rfl)) dX0_readRest_75 ⟨(Nat.le_of_ble_eq_true rfl), (Nat.le_of_ble_eq_true rfl)⟩) hP hD hS hA [2, 3] [0, 1] rfl rfl (by decide) (by decide) (fun r59 u57 H locs p58 hP hD hS => ?_)
      obtain ⟨rplaceG_60, rkindG_61, rbeginG_62, rwordG_63, rnumberG_64, rlettersG_65, rfaultKindG_66, rfaultPlaceG_67⟩ := u57
      try dsimp only at p58
      obtain ⟨p68, p69, p70⟩ := p58
      refine W.widen (k := 0) (n := 0) (Nat.le_of_ble_eq_true rfl) (Nat.le_of_ble_eq_true rfl) ?_
      have hP : va_P (dC, dI) vwCl [(bk, .inr (0, [.ref blines, .int (nI blineCount), .int blived, .int bwhyWrong, .int bfineLines, .int bdayThen, .int beatenThen])), (blines, .inl (ky 0, 160, .inl blinesF)), (reader, .inr (5, [.ref rtape, .int (nI rlength), .int (nI rmostBytes), .int (nI rplaceG_60), .int rkindG_61, .int (nI rbeginG_62), .int rwordG_63, .int rnumberG_64, .long rlettersG_65, .int rfaultKindG_66, .int rfaultPlaceG_67])), (rtape, .inl (ky 2, 940, .inl rtapeF))] H := hP
      have hD : va_D A [(bk, .inr (0, [.ref blines, .int (nI blineCount), .int blived, .int bwhyWrong, .int bfineLines, .int bdayThen, .int beatenThen])), (blines, .inl (ky 0, 160, .inl blinesF)), (reader, .inr (5, [.ref rtape, .int (nI rlength), .int (nI rmostBytes), .int (nI rplaceG_60), .int rkindG_61, .int (nI rbeginG_62), .int rwordG_63, .int rnumberG_64, .long rlettersG_65, .int rfaultKindG_66, .int rfaultPlaceG_67])), (rtape, .inl (ky 2, 940, .inl rtapeF))] := hD
      rcases p68 with ⟨rfl, t78, t79, t80⟩ | ⟨k71, ⟨h73, h74, h75, h76, h77⟩, rfl⟩
      · refine lv_istore (lv' := [(6, .int (-1 : Int32)), (5, .int (nI k43)), (4, .int (nI k15)), (0, .ref bk), (1, .ref reader), (2, .int (nI 0)), (3, .int y)]) hx hb dX0_readRest_78 hl (by decide) rfl (fun ls hl => ?_)
        refine lv_iload hx hb dX0_readRest_80 (lv_at hl 0 rfl) ?_
        refine lv_iconst (v := (-1 : Int32)) hx hb dX0_readRest_82 (by decide) ?_
        refine lv_icmp_eq (tgt := 104) hx hb dX0_readRest_83 (by decide) (fun c81 => ?_) (fun c81 => absurd (by decide) c81)
        refine lv_iconst (v := nI 0) hx hb dX0_readRest_104 (by decide) ?_
        rw [hQ]
        exact W.zret (v := nI 0) hx hb hr (by decide) (fun t9 ht9 hW9 => ⟨⟨nI 0, (blineCount, blinesF, rplaceG_60, rkindG_61, rbeginG_62, rwordG_63, rnumberG_64, rlettersG_65, rfaultKindG_66, rfaultPlaceG_67), rfl, ⟨(lf_f_rest0_7 blineCount bt rlength rmostBytes rplace rkind rbegin rword rnumber rletters rfaultKind rfaultPlace rtapeF gp rplaceG_4 rkindG_5 rbeginG_6 rwordG_7 rnumberG_8 rlettersG_9 rfaultKindG_10 rfaultPlaceG_11 rplaceG_32 rkindG_33 rbeginG_34 rwordG_35 rnumberG_36 rlettersG_37 rfaultKindG_38 rfaultPlaceG_39 k43 rplaceG_60 rkindG_61 rbeginG_62 rwordG_63 rnumberG_64 rlettersG_65 rfaultKindG_66 rfaultPlaceG_67 iv_bbk_0 iv_rreader_0 iv_rreader_1 iv_rreader_2 iv_rreader_3 hTC hRT hl9 p13 p14 h18 h19 h20 h21 p41 p42 h45 h46 h47 h48 h49 h50 p69 p70 t78 t79 t80), iv_bbk_0, p69, p70⟩, by rw [ht9]; exact hP, va_K.moved hW9.alike hK, hD⟩, hS.F ht9⟩) hS.2.2 dX0_readRest_105
      · refine lv_istore (lv' := [(6, .int (nI k71)), (5, .int (nI k43)), (4, .int (nI k15)), (0, .ref bk), (1, .ref reader), (2, .int (nI 0)), (3, .int y)]) hx hb dX0_readRest_78 hl (by decide) rfl (fun ls hl => ?_)
        refine lv_iload hx hb dX0_readRest_80 (lv_at hl 0 rfl) ?_
        refine lv_iconst (v := (-1 : Int32)) hx hb dX0_readRest_82 (by decide) ?_
        refine lv_icmp_eq (tgt := 104) hx hb dX0_readRest_83 (by decide) (fun c82 => absurd c82 (nI_neg (lf_f_rest0_8 k71 h73))) (fun c82 => ?_)
        refine lv_aload_n hx hb dX0_readRest_86 rfl (lv_at hl 3 rfl) ?_
        refine lv_iload_n hx hb dX0_readRest_87 rfl (lv_at hl 5 rfl) ?_
        refine lv_iload hx hb dX0_readRest_88 (lv_at hl 2 rfl) ?_
        refine lv_iload hx hb dX0_readRest_90 (lv_at hl 1 rfl) ?_
        refine lv_iload hx hb dX0_readRest_92 (lv_at hl 0 rfl) ?_
        refine r_call_i (wr := [(reader, .inr (5, [.ref rtape, .int (nI rlength), .int (nI rmostBytes), .int (nI rplaceG_60), .int rkindG_61, .int (nI rbeginG_62), .int rwordG_63, .int rnumberG_64, .long rlettersG_65, .int rfaultKindG_66, .int rfaultPlaceG_67])), (rtape, .inl (ky 2, 940, .inl rtapeF))]) (va_runV (As := [.int (nI 0), .int (nI k15), .int (nI k43), .int (nI k71)]) (rest := []) ⟨hx, hb, hml, hown, hts⟩ (c_f_bput l dC dI ky H.size bk blines blineCount blived bwhyWrong bfineLines bdayThen beatenThen blinesF (nI 0) (nI k15) (nI k43) (nI k71) iv_bbk_0 hl9) (cwV 4 hts gX0_readRest_X0_put rfl rfl rfl (by decide +kernel) ⟨(Nat.le_of_ble_eq_true rfl), (Nat.le_of_ble_eq_true rfl)⟩) (pre_UV hK hP hD [0, 1] (by decide) rfl (ci := 0) (q0 := 0) rfl rfl) rfl rfl hl.1 rfl (lv_room (Nat.le_of_ble_eq_true rfl)) dX0_readRest_94 ⟨(Nat.le_of_ble_eq_true rfl), (Nat.le_of_ble_eq_true rfl)⟩) hP hD hS hA [0, 1] [2, 3] rfl rfl (by decide) (by decide) (fun r85 u83 H locs p84 hP hD hS => ?_)
        obtain ⟨blineCountG_86, blinesG_87⟩ := u83
        try dsimp only at p84
        obtain ⟨p88, p89, p90⟩ := p84
        refine W.widen (k := 0) (n := 0) (Nat.le_of_ble_eq_true rfl) (Nat.le_of_ble_eq_true rfl) ?_
        have hP : va_P (dC, dI) vwCl [(reader, .inr (5, [.ref rtape, .int (nI rlength), .int (nI rmostBytes), .int (nI rplaceG_60), .int rkindG_61, .int (nI rbeginG_62), .int rwordG_63, .int rnumberG_64, .long rlettersG_65, .int rfaultKindG_66, .int rfaultPlaceG_67])), (rtape, .inl (ky 2, 940, .inl rtapeF)), (bk, .inr (0, [.ref blines, .int (nI blineCountG_86), .int blived, .int bwhyWrong, .int bfineLines, .int bdayThen, .int beatenThen])), (blines, .inl (ky 0, 160, .inl blinesG_87))] H := hP
        have hD : va_D A [(reader, .inr (5, [.ref rtape, .int (nI rlength), .int (nI rmostBytes), .int (nI rplaceG_60), .int rkindG_61, .int (nI rbeginG_62), .int rwordG_63, .int rnumberG_64, .long rlettersG_65, .int rfaultKindG_66, .int rfaultPlaceG_67])), (rtape, .inl (ky 2, 940, .inl rtapeF)), (bk, .inr (0, [.ref blines, .int (nI blineCountG_86), .int blived, .int bwhyWrong, .int bfineLines, .int bdayThen, .int beatenThen])), (blines, .inl (ky 0, 160, .inl blinesG_87))] := hD
        subst p88
        refine lv_if_eq (tgt := 104) hx hb dX0_readRest_97 (by decide) (fun c91 => absurd c91 (by decide)) (fun c91 => ?_)
        refine lv_iconst (v := nI 1) hx hb dX0_readRest_100 (by decide) ?_
        refine lv_goto (tgt := 105) hx hb dX0_readRest_101 (by decide) ?_
        rw [hQ]
        have hP9 := hP.sub (ws' := [(bk, .inr (0, [.ref blines, .int (nI blineCountG_86), .int blived, .int bwhyWrong, .int bfineLines, .int bdayThen, .int beatenThen])), (blines, .inl (ky 0, 160, .inl blinesG_87)), (reader, .inr (5, [.ref rtape, .int (nI rlength), .int (nI rmostBytes), .int (nI rplaceG_60), .int rkindG_61, .int (nI rbeginG_62), .int rwordG_63, .int rnumberG_64, .long rlettersG_65, .int rfaultKindG_66, .int rfaultPlaceG_67])), (rtape, .inl (ky 2, 940, .inl rtapeF))]) [2, 3, 0, 1] rfl
        have hD9 := hD.sub (ws' := [(bk, .inr (0, [.ref blines, .int (nI blineCountG_86), .int blived, .int bwhyWrong, .int bfineLines, .int bdayThen, .int beatenThen])), (blines, .inl (ky 0, 160, .inl blinesG_87)), (reader, .inr (5, [.ref rtape, .int (nI rlength), .int (nI rmostBytes), .int (nI rplaceG_60), .int rkindG_61, .int (nI rbeginG_62), .int rwordG_63, .int rnumberG_64, .long rlettersG_65, .int rfaultKindG_66, .int rfaultPlaceG_67])), (rtape, .inl (ky 2, 940, .inl rtapeF))]) [2, 3, 0, 1] (by decide) rfl
        exact W.zret (v := nI 1) hx hb hr (by decide) (fun t9 ht9 hW9 => ⟨⟨nI 1, (blineCountG_86, blinesG_87, rplaceG_60, rkindG_61, rbeginG_62, rwordG_63, rnumberG_64, rlettersG_65, rfaultKindG_66, rfaultPlaceG_67), rfl, ⟨(lf_f_rest0_9 blineCount bt rlength rmostBytes rplace rkind rbegin rword rnumber rletters rfaultKind rfaultPlace rtapeF gp rplaceG_4 rkindG_5 rbeginG_6 rwordG_7 rnumberG_8 rlettersG_9 rfaultKindG_10 rfaultPlaceG_11 rplaceG_32 rkindG_33 rbeginG_34 rwordG_35 rnumberG_36 rlettersG_37 rfaultKindG_38 rfaultPlaceG_39 k43 rplaceG_60 rkindG_61 rbeginG_62 rwordG_63 rnumberG_64 rlettersG_65 rfaultKindG_66 rfaultPlaceG_67 blineCountG_86 iv_bbk_0 iv_rreader_0 iv_rreader_1 iv_rreader_2 iv_rreader_3 hTC hRT hl9 p13 p14 h18 h19 h20 h21 p41 p42 h45 h46 h47 h48 h49 h50 p69 p70 h74 h75 h76 h77 p89 p90), p89, p69, p70⟩, by rw [ht9]; exact hP9, va_K.moved hW9.alike hK, hD9⟩, hS.F ht9⟩) hS.2.2 dX0_readRest_105
set_option maxRecDepth 20000 in
theorem lf_f_rest1_1 (blineCount : Nat) (bt : Nat → Nat) (rlength : Nat) (rmostBytes : Nat) (rplace : Nat) (rkind : Int32) (rbegin : Nat) (rword : Int32) (rnumber : Int32) (rletters : Int64) (rfaultKind : Int32) (rfaultPlace : Int32) (rtapeF : Nat → Int32) (gp : Nat) (rplaceG_4 : Nat) (rkindG_5 : Int32) (rbeginG_6 : Nat) (rwordG_7 : Int32) (rnumberG_8 : Int32) (rlettersG_9 : Int64) (rfaultKindG_10 : Int32) (rfaultPlaceG_11 : Int32) (iv_bbk_0 : blineCount ≤ 40) (iv_rreader_0 : rlength ≤ 940) (iv_rreader_1 : rplace ≤ rlength) (iv_rreader_2 : rmostBytes ≤ 900) (iv_rreader_3 : rbegin ≤ 940) (hTC : TC bt rtapeF) (hRT : RT bt rlength rmostBytes gp rkind rbegin rplace rword rnumber rletters) (hl9 : blineCount < 40) (p13 : rplaceG_4 ≤ rlength) (p14 : rbeginG_6 ≤ 940) (t22 : isO (pOne bt rlength rmostBytes 12 15 gp) = false) (t23 : rfaultKindG_10 = nI (erA (pOne bt rlength rmostBytes 12 15 gp))) (t24 : rfaultPlaceG_11 = nI (erB (pOne bt rlength rmostBytes 12 15 gp))) : ((nI 0) = nI 1 ∧ (isO (bRest bt rlength rmostBytes 31 gp) = true ∧ RT bt rlength rmostBytes (okV (bRest bt rlength rmostBytes 31 gp)) rkindG_5 rbeginG_6 rplaceG_4 rwordG_7 rnumberG_8 rlettersG_9 ∧ blineCount = blineCount + 1 ∧ rfaultKindG_10 = rfaultKind ∧ rfaultPlaceG_11 = rfaultPlace)) ∨ ((nI 0) = nI 0 ∧ (isO (bRest bt rlength rmostBytes 31 gp) = false ∧ rfaultKindG_10 = nI (erA (bRest bt rlength rmostBytes 31 gp)) ∧ rfaultPlaceG_11 = nI (erB (bRest bt rlength rmostBytes 31 gp)))) := by
  rw [br_31, p1_e (isE ‹isO (pOne bt rlength rmostBytes 12 15 gp) = false›)]
  exact Or.inr ⟨rfl, rfl, ‹_›, ‹_›⟩
set_option maxRecDepth 20000 in
theorem lf_f_rest1_2 (k15 : Nat) (h17 : k15 < 8) : k15 < 2147483648 := by
  try simp only [ia_lt, ia_le, ia_eq, ia_m1, ia_0, ia_1, ne_eq, true_and, and_true, false_and, and_false, or_false, false_or, or_true, true_or, not_true_eq_false, not_false_eq_true] at *
  all_goals omega
set_option maxRecDepth 20000 in
theorem lf_f_rest1_3 (blineCount : Nat) (bt : Nat → Nat) (rlength : Nat) (rmostBytes : Nat) (rplace : Nat) (rkind : Int32) (rbegin : Nat) (rword : Int32) (rnumber : Int32) (rletters : Int64) (rfaultKind : Int32) (rfaultPlace : Int32) (rtapeF : Nat → Int32) (gp : Nat) (rplaceG_4 : Nat) (rkindG_5 : Int32) (rbeginG_6 : Nat) (rwordG_7 : Int32) (rnumberG_8 : Int32) (rlettersG_9 : Int64) (rfaultKindG_10 : Int32) (rfaultPlaceG_11 : Int32) (blineCountG_30 : Nat) (iv_bbk_0 : blineCount ≤ 40) (iv_rreader_0 : rlength ≤ 940) (iv_rreader_1 : rplace ≤ rlength) (iv_rreader_2 : rmostBytes ≤ 900) (iv_rreader_3 : rbegin ≤ 940) (hTC : TC bt rtapeF) (hRT : RT bt rlength rmostBytes gp rkind rbegin rplace rword rnumber rletters) (hl9 : blineCount < 40) (p13 : rplaceG_4 ≤ rlength) (p14 : rbeginG_6 ≤ 940) (h18 : isO (pOne bt rlength rmostBytes 12 15 gp) = true) (h19 : RT bt rlength rmostBytes (tT bt rlength rmostBytes gp) rkindG_5 rbeginG_6 rplaceG_4 rwordG_7 rnumberG_8 rlettersG_9) (h20 : rfaultKindG_10 = rfaultKind) (h21 : rfaultPlaceG_11 = rfaultPlace) (p33 : blineCountG_30 ≤ 40) (p34 : blineCountG_30 = blineCount + 1) : ((nI 1) = nI 1 ∧ (isO (bRest bt rlength rmostBytes 31 gp) = true ∧ RT bt rlength rmostBytes (okV (bRest bt rlength rmostBytes 31 gp)) rkindG_5 rbeginG_6 rplaceG_4 rwordG_7 rnumberG_8 rlettersG_9 ∧ blineCountG_30 = blineCount + 1 ∧ rfaultKindG_10 = rfaultKind ∧ rfaultPlaceG_11 = rfaultPlace)) ∨ ((nI 1) = nI 0 ∧ (isO (bRest bt rlength rmostBytes 31 gp) = false ∧ rfaultKindG_10 = nI (erA (bRest bt rlength rmostBytes 31 gp)) ∧ rfaultPlaceG_11 = nI (erB (bRest bt rlength rmostBytes 31 gp)))) := by
  obtain ⟨e1v, e1⟩ := isOk ‹isO (pOne bt rlength rmostBytes 12 15 gp) = true›
  rw [br_31, p1_o e1]
  exact Or.inl ⟨rfl, rfl, ‹_›, (by first | rfl | assumption | (subst_vars; rfl) | (subst_vars; assumption)), (by first | rfl | assumption | (subst_vars; rfl) | (subst_vars; assumption)), (by first | rfl | assumption | (subst_vars; rfl) | (subst_vars; assumption))⟩
set_option maxHeartbeats 4000000 in
set_option maxRecDepth 100000 in
theorem c_f_rest1 (l : Launch) (dC : Nat → ClassId) (dI : Nat → Nat → Nat) (ky : Nat → ClassId) (sz : Nat) (adK : Nat → Nat) (adV : Nat → Nat) (bk : Nat) (blines : Nat) (blineCount : Nat) (blived : Int32) (bwhyWrong : Int32) (bfineLines : Int32) (bdayThen : Int32) (beatenThen : Int32) (blinesF : Nat → Int32) (bt : Nat → Nat) (reader : Nat) (rtape : Nat) (rlength : Nat) (rmostBytes : Nat) (rplace : Nat) (rkind : Int32) (rbegin : Nat) (rword : Int32) (rnumber : Int32) (rletters : Int64) (rfaultKind : Int32) (rfaultPlace : Int32) (rtapeF : Nat → Int32) (gp : Nat) (y : Int32) (iv_bbk_0 : blineCount ≤ 40) (iv_rreader_0 : rlength ≤ 940) (iv_rreader_1 : rplace ≤ rlength) (iv_rreader_2 : rmostBytes ≤ 900) (iv_rreader_3 : rbegin ≤ 940) (hTC : TC bt rtapeF) (hRT : RT bt rlength rmostBytes gp rkind rbegin rplace rword rnumber rletters) (hl9 : blineCount < 40) : Met l yX0_readRest wsX0_readRest ({ frames := 7, cells := 0, slots := 0, locals := 154 }) (PcUE dC dI ky adK adV [.ref bk, .ref reader, .int (nI 1), .int y] [(bk, .inr (0, [.ref blines, .int (nI blineCount), .int blived, .int bwhyWrong, .int bfineLines, .int bdayThen, .int beatenThen])), (blines, .inl (ky 0, 160, .inl blinesF)), (reader, .inr (5, [.ref rtape, .int (nI rlength), .int (nI rmostBytes), .int (nI rplace), .int rkind, .int (nI rbegin), .int rword, .int rnumber, .long rletters, .int rfaultKind, .int rfaultPlace])), (rtape, .inl (ky 2, 940, .inl rtapeF))] sz) (va_Qi (fun (r : Int32) (u : Nat × (Nat → Int32) × Nat × Int32 × Nat × Int32 × Int32 × Int64 × Int32 × Int32) => match u with | (blineCountG, blinesG, rplaceG, rkindG, rbeginG, rwordG, rnumberG, rlettersG, rfaultKindG, rfaultPlaceG) => ((r = nI 1 ∧ (isO (bRest bt rlength rmostBytes 31 gp) = true ∧ RT bt rlength rmostBytes (okV (bRest bt rlength rmostBytes 31 gp)) rkindG rbeginG rplaceG rwordG rnumberG rlettersG ∧ blineCountG = blineCount + 1 ∧ rfaultKindG = rfaultKind ∧ rfaultPlaceG = rfaultPlace)) ∨ (r = nI 0 ∧ (isO (bRest bt rlength rmostBytes 31 gp) = false ∧ rfaultKindG = nI (erA (bRest bt rlength rmostBytes 31 gp)) ∧ rfaultPlaceG = nI (erB (bRest bt rlength rmostBytes 31 gp))))) ∧ (blineCountG ≤ 40) ∧ (rplaceG ≤ rlength) ∧ (rbeginG ≤ 940)) (BU dC dI ky (fun (u : Nat × (Nat → Int32) × Nat × Int32 × Nat × Int32 × Int32 × Int64 × Int32 × Int32) => match u with | (blineCountG, blinesG, rplaceG, rkindG, rbeginG, rwordG, rnumberG, rlettersG, rfaultKindG, rfaultPlaceG) => [(bk, .inr (0, [.ref blines, .int (nI blineCountG), .int blived, .int bwhyWrong, .int bfineLines, .int bdayThen, .int beatenThen])), (blines, .inl (ky 0, 160, .inl blinesG)), (reader, .inr (5, [.ref rtape, .int (nI rlength), .int (nI rmostBytes), .int (nI rplaceG), .int rkindG, .int (nI rbeginG), .int rwordG, .int rnumberG, .long rlettersG, .int rfaultKindG, .int rfaultPlaceG])), (rtape, .inl (ky 2, 940, .inl rtapeF))]) (va_A [(bk, .inr (0, [.ref blines, .int (nI blineCount), .int blived, .int bwhyWrong, .int bfineLines, .int bdayThen, .int beatenThen])), (blines, .inl (ky 0, 160, .inl blinesF)), (reader, .inr (5, [.ref rtape, .int (nI rlength), .int (nI rmostBytes), .int (nI rplace), .int rkind, .int (nI rbegin), .int rword, .int rnumber, .long rletters, .int rfaultKind, .int rfaultPlace])), (rtape, .inl (ky 2, 940, .inl rtapeF))] sz)) (va_A [(bk, .inr (0, [.ref blines, .int (nI blineCount), .int blived, .int bwhyWrong, .int bfineLines, .int bdayThen, .int beatenThen])), (blines, .inl (ky 0, 160, .inl blinesF)), (reader, .inr (5, [.ref rtape, .int (nI rlength), .int (nI rmostBytes), .int (nI rplace), .int rkind, .int (nI rbegin), .int rword, .int rnumber, .long rletters, .int rfaultKind, .int rfaultPlace])), (rtape, .inl (ky 2, 940, .inl rtapeF))] sz)) 0 0 (va_A [(bk, .inr (0, [.ref blines, .int (nI blineCount), .int blived, .int bwhyWrong, .int bfineLines, .int bdayThen, .int beatenThen])), (blines, .inl (ky 0, 160, .inl blinesF)), (reader, .inr (5, [.ref rtape, .int (nI rlength), .int (nI rmostBytes), .int (nI rplace), .int rkind, .int (nI rbegin), .int rword, .int rnumber, .long rletters, .int rfaultKind, .int rfaultPlace])), (rtape, .inl (ky 2, 940, .inl rtapeF))] sz) := by
  refine Met.ofW (cc := cX0_readRest) (maxL := 12) (ret := (some .boolean)) (by decide) rfl ?_
  intro p e s m args below meth c s₁ B hml hv
  obtain ⟨rfl, hsz, hP, hK, hD0, hE⟩ := hv
  have hx := B.exec
  have hb := B.bytes
  have hr := B.returns
  have hts := atoms_spec (ws := wsX0_readRest) B.pre
  have hown : s.vm.findClass RX0 = some m.cls := findClass_of_methodNamed B.named
  have hlocks := B.notSynchronized
  subst hsz
  have hD := hD0.self (sz := s.heap.size)
  generalize hAe : va_A [(bk, .inr (0, [.ref blines, .int (nI blineCount), .int blived, .int bwhyWrong, .int bfineLines, .int bdayThen, .int beatenThen])), (blines, .inl (ky 0, 160, .inl blinesF)), (reader, .inr (5, [.ref rtape, .int (nI rlength), .int (nI rmostBytes), .int (nI rplace), .int rkind, .int (nI rbegin), .int rword, .int rnumber, .long rletters, .int rfaultKind, .int rfaultPlace])), (rtape, .inl (ky 2, 940, .inl rtapeF))] s.heap.size = A at hD hE ⊢
  have hA : ∀ q : Nat, s.heap.size ≤ q → A q := fun q h => by rw [← hAe]; exact Or.inr h
  have hS : va_S A s.heap s.heap [] := va_S.rf
  have hl := lv_entry ([.ref bk, .ref reader, .int (nI 1), .int y]) (n := 12) (Nat.le_of_ble_eq_true rfl)
  rw [lg_entry_eq]
  generalize (lg_sl ([.ref bk, .ref reader, .int (nI 1), .int y]) ++ List.replicate (12 - (lg_sl ([.ref bk, .ref reader, .int (nI 1), .int y])).length) Slot.unset).toArray = ls at hl ⊢
  have hl : lv_has ls 12 [(0, .ref bk), (1, .ref reader), (2, .int (nI 1)), (3, .int y)] := hl
  refine q_name (fun Q hQ => ?_)
  generalize ([.ref bk, .ref reader, .int (nI 1), .int y] : List Value).toArray = args at hts hQ ⊢
  refine lv_iload_n hx hb dX0_readRest_0 rfl (lv_at hl 2 rfl) ?_
  refine lv_tableIn (off := 105) (tgt := 106) hx hb dX0_readRest_1 (by decide) (by decide) rfl (by decide) ?_
  refine lv_aload_n hx hb dX0_readRest_106 rfl (lv_at hl 1 rfl) ?_
  refine lv_bipush (v := nI 12) hx hb dX0_readRest_107 (by decide) ?_
  refine lv_bipush (v := nI 15) hx hb dX0_readRest_109 (by decide) ?_
  refine r_call_i (wr := [(bk, .inr (0, [.ref blines, .int (nI blineCount), .int blived, .int bwhyWrong, .int bfineLines, .int bdayThen, .int beatenThen])), (blines, .inl (ky 0, 160, .inl blinesF))]) (va_runV (As := [.int (nI 12), .int (nI 15)]) (rest := []) ⟨hx, hb, hml, hown, hts⟩ (c_f_takeWord12 l dC dI ky s.heap.size adK adV bt reader rtape rlength rmostBytes rplace rkind rbegin rword rnumber rletters rfaultKind rfaultPlace rtapeF gp iv_rreader_0 iv_rreader_1 iv_rreader_2 iv_rreader_3 hTC hRT) (cwV 2 hts gX0_readRest_X5_takeWord rfl rfl rfl (by decide +kernel) ⟨(Nat.le_of_ble_eq_true rfl), (Nat.le_of_ble_eq_true rfl)⟩) (pre_UEV hE hS hA hK hP hD [2, 3] (by decide) rfl (va_recv hK hP (ci := 5) (q0 := 2) rfl rfl)) rfl rfl hl.1 rfl (lv_room (Nat.le_of_ble_eq_true rfl)) dX0_readRest_111 ⟨(Nat.le_of_ble_eq_true rfl), (Nat.le_of_ble_eq_true rfl)⟩) hP hD hS hA [2, 3] [0, 1] rfl rfl (by decide) (by decide) (fun r3 u1 H locs p2 hP hD hS => ?_)
  obtain ⟨rplaceG_4, rkindG_5, rbeginG_6, rwordG_7, rnumberG_8, rlettersG_9, rfaultKindG_10, rfaultPlaceG_11⟩ := u1
  try dsimp only at p2
  obtain ⟨p12, p13, p14⟩ := p2
  refine W.widen (k := 0) (n := 0) (Nat.le_of_ble_eq_true rfl) (Nat.le_of_ble_eq_true rfl) ?_
  have hP : va_P (dC, dI) vwCl [(bk, .inr (0, [.ref blines, .int (nI blineCount), .int blived, .int bwhyWrong, .int bfineLines, .int bdayThen, .int beatenThen])), (blines, .inl (ky 0, 160, .inl blinesF)), (reader, .inr (5, [.ref rtape, .int (nI rlength), .int (nI rmostBytes), .int (nI rplaceG_4), .int rkindG_5, .int (nI rbeginG_6), .int rwordG_7, .int rnumberG_8, .long rlettersG_9, .int rfaultKindG_10, .int rfaultPlaceG_11])), (rtape, .inl (ky 2, 940, .inl rtapeF))] H := hP
  have hD : va_D A [(bk, .inr (0, [.ref blines, .int (nI blineCount), .int blived, .int bwhyWrong, .int bfineLines, .int bdayThen, .int beatenThen])), (blines, .inl (ky 0, 160, .inl blinesF)), (reader, .inr (5, [.ref rtape, .int (nI rlength), .int (nI rmostBytes), .int (nI rplaceG_4), .int rkindG_5, .int (nI rbeginG_6), .int rwordG_7, .int rnumberG_8, .long rlettersG_9, .int rfaultKindG_10, .int rfaultPlaceG_11])), (rtape, .inl (ky 2, 940, .inl rtapeF))] := hD
  rcases p12 with ⟨rfl, t22, t23, t24⟩ | ⟨k15, ⟨h17, h18, h19, h20, h21⟩, rfl⟩
  · refine lv_istore (lv' := [(7, .int (-1 : Int32)), (0, .ref bk), (1, .ref reader), (2, .int (nI 1)), (3, .int y)]) hx hb dX0_readRest_114 hl (by decide) rfl (fun ls hl => ?_)
    refine lv_iload hx hb dX0_readRest_116 (lv_at hl 0 rfl) ?_
    refine lv_iconst (v := (-1 : Int32)) hx hb dX0_readRest_118 (by decide) ?_
    refine lv_icmp_eq (tgt := 138) hx hb dX0_readRest_119 (by decide) (fun c25 => ?_) (fun c25 => absurd (by decide) c25)
    refine lv_iconst (v := nI 0) hx hb dX0_readRest_138 (by decide) ?_
    rw [hQ]
    exact W.zret (v := nI 0) hx hb hr (by decide) (fun t9 ht9 hW9 => ⟨⟨nI 0, (blineCount, blinesF, rplaceG_4, rkindG_5, rbeginG_6, rwordG_7, rnumberG_8, rlettersG_9, rfaultKindG_10, rfaultPlaceG_11), rfl, ⟨(lf_f_rest1_1 blineCount bt rlength rmostBytes rplace rkind rbegin rword rnumber rletters rfaultKind rfaultPlace rtapeF gp rplaceG_4 rkindG_5 rbeginG_6 rwordG_7 rnumberG_8 rlettersG_9 rfaultKindG_10 rfaultPlaceG_11 iv_bbk_0 iv_rreader_0 iv_rreader_1 iv_rreader_2 iv_rreader_3 hTC hRT hl9 p13 p14 t22 t23 t24), iv_bbk_0, p13, p14⟩, by rw [ht9]; exact hP, va_K.moved hW9.alike hK, hD⟩, hS.F ht9⟩) hS.2.2 dX0_readRest_139
  · refine lv_istore (lv' := [(7, .int (nI k15)), (0, .ref bk), (1, .ref reader), (2, .int (nI 1)), (3, .int y)]) hx hb dX0_readRest_114 hl (by decide) rfl (fun ls hl => ?_)
    refine lv_iload hx hb dX0_readRest_116 (lv_at hl 0 rfl) ?_
    refine lv_iconst (v := (-1 : Int32)) hx hb dX0_readRest_118 (by decide) ?_
    refine lv_icmp_eq (tgt := 138) hx hb dX0_readRest_119 (by decide) (fun c26 => absurd c26 (nI_neg (lf_f_rest1_2 k15 h17))) (fun c26 => ?_)
    refine lv_aload_n hx hb dX0_readRest_122 rfl (lv_at hl 1 rfl) ?_
    refine lv_iload_n hx hb dX0_readRest_123 rfl (lv_at hl 3 rfl) ?_
    refine lv_iload_n hx hb dX0_readRest_124 rfl (lv_at hl 4 rfl) ?_
    refine lv_iload hx hb dX0_readRest_125 (lv_at hl 0 rfl) ?_
    refine lv_iconst (v := nI 0) hx hb dX0_readRest_127 (by decide) ?_
    refine r_call_i (wr := [(reader, .inr (5, [.ref rtape, .int (nI rlength), .int (nI rmostBytes), .int (nI rplaceG_4), .int rkindG_5, .int (nI rbeginG_6), .int rwordG_7, .int rnumberG_8, .long rlettersG_9, .int rfaultKindG_10, .int rfaultPlaceG_11])), (rtape, .inl (ky 2, 940, .inl rtapeF))]) (va_runV (As := [.int (nI 1), .int y, .int (nI k15), .int (nI 0)]) (rest := []) ⟨hx, hb, hml, hown, hts⟩ (c_f_bput l dC dI ky H.size bk blines blineCount blived bwhyWrong bfineLines bdayThen beatenThen blinesF (nI 1) y (nI k15) (nI 0) iv_bbk_0 hl9) (cwV 4 hts gX0_readRest_X0_put rfl rfl rfl (by decide +kernel) ⟨(Nat.le_of_ble_eq_true rfl), (Nat.le_of_ble_eq_true rfl)⟩) (pre_UV hK hP hD [0, 1] (by decide) rfl (ci := 0) (q0 := 0) rfl rfl) rfl rfl hl.1 rfl (lv_room (Nat.le_of_ble_eq_true rfl)) dX0_readRest_128 ⟨(Nat.le_of_ble_eq_true rfl), (Nat.le_of_ble_eq_true rfl)⟩) hP hD hS hA [0, 1] [2, 3] rfl rfl (by decide) (by decide) (fun r29 u27 H locs p28 hP hD hS => ?_)
    obtain ⟨blineCountG_30, blinesG_31⟩ := u27
    try dsimp only at p28
    obtain ⟨p32, p33, p34⟩ := p28
    refine W.widen (k := 0) (n := 0) (Nat.le_of_ble_eq_true rfl) (Nat.le_of_ble_eq_true rfl) ?_
    have hP : va_P (dC, dI) vwCl [(reader, .inr (5, [.ref rtape, .int (nI rlength), .int (nI rmostBytes), .int (nI rplaceG_4), .int rkindG_5, .int (nI rbeginG_6), .int rwordG_7, .int rnumberG_8, .long rlettersG_9, .int rfaultKindG_10, .int rfaultPlaceG_11])), (rtape, .inl (ky 2, 940, .inl rtapeF)), (bk, .inr (0, [.ref blines, .int (nI blineCountG_30), .int blived, .int bwhyWrong, .int bfineLines, .int bdayThen, .int beatenThen])), (blines, .inl (ky 0, 160, .inl blinesG_31))] H := hP
    have hD : va_D A [(reader, .inr (5, [.ref rtape, .int (nI rlength), .int (nI rmostBytes), .int (nI rplaceG_4), .int rkindG_5, .int (nI rbeginG_6), .int rwordG_7, .int rnumberG_8, .long rlettersG_9, .int rfaultKindG_10, .int rfaultPlaceG_11])), (rtape, .inl (ky 2, 940, .inl rtapeF)), (bk, .inr (0, [.ref blines, .int (nI blineCountG_30), .int blived, .int bwhyWrong, .int bfineLines, .int bdayThen, .int beatenThen])), (blines, .inl (ky 0, 160, .inl blinesG_31))] := hD
    subst p32
    refine lv_if_eq (tgt := 138) hx hb dX0_readRest_131 (by decide) (fun c35 => absurd c35 (by decide)) (fun c35 => ?_)
    refine lv_iconst (v := nI 1) hx hb dX0_readRest_134 (by decide) ?_
    refine lv_goto (tgt := 139) hx hb dX0_readRest_135 (by decide) ?_
    rw [hQ]
    have hP9 := hP.sub (ws' := [(bk, .inr (0, [.ref blines, .int (nI blineCountG_30), .int blived, .int bwhyWrong, .int bfineLines, .int bdayThen, .int beatenThen])), (blines, .inl (ky 0, 160, .inl blinesG_31)), (reader, .inr (5, [.ref rtape, .int (nI rlength), .int (nI rmostBytes), .int (nI rplaceG_4), .int rkindG_5, .int (nI rbeginG_6), .int rwordG_7, .int rnumberG_8, .long rlettersG_9, .int rfaultKindG_10, .int rfaultPlaceG_11])), (rtape, .inl (ky 2, 940, .inl rtapeF))]) [2, 3, 0, 1] rfl
    have hD9 := hD.sub (ws' := [(bk, .inr (0, [.ref blines, .int (nI blineCountG_30), .int blived, .int bwhyWrong, .int bfineLines, .int bdayThen, .int beatenThen])), (blines, .inl (ky 0, 160, .inl blinesG_31)), (reader, .inr (5, [.ref rtape, .int (nI rlength), .int (nI rmostBytes), .int (nI rplaceG_4), .int rkindG_5, .int (nI rbeginG_6), .int rwordG_7, .int rnumberG_8, .long rlettersG_9, .int rfaultKindG_10, .int rfaultPlaceG_11])), (rtape, .inl (ky 2, 940, .inl rtapeF))]) [2, 3, 0, 1] (by decide) rfl
    exact W.zret (v := nI 1) hx hb hr (by decide) (fun t9 ht9 hW9 => ⟨⟨nI 1, (blineCountG_30, blinesG_31, rplaceG_4, rkindG_5, rbeginG_6, rwordG_7, rnumberG_8, rlettersG_9, rfaultKindG_10, rfaultPlaceG_11), rfl, ⟨(lf_f_rest1_3 blineCount bt rlength rmostBytes rplace rkind rbegin rword rnumber rletters rfaultKind rfaultPlace rtapeF gp rplaceG_4 rkindG_5 rbeginG_6 rwordG_7 rnumberG_8 rlettersG_9 rfaultKindG_10 rfaultPlaceG_11 blineCountG_30 iv_bbk_0 iv_rreader_0 iv_rreader_1 iv_rreader_2 iv_rreader_3 hTC hRT hl9 p13 p14 h18 h19 h20 h21 p33 p34), p33, p13, p14⟩, by rw [ht9]; exact hP9, va_K.moved hW9.alike hK, hD9⟩, hS.F ht9⟩) hS.2.2 dX0_readRest_139
set_option maxRecDepth 20000 in
theorem lf_f_rest2_1   : 0 ≤ 10 := by
  try simp only [ia_lt, ia_le, ia_eq, ia_m1, ia_0, ia_1, ne_eq, true_and, and_true, false_and, and_false, or_false, false_or, or_true, true_or, not_true_eq_false, not_false_eq_true] at *
  all_goals omega
set_option maxRecDepth 20000 in
theorem lf_f_rest2_2   : 5 ≤ 1000 := by
  try simp only [ia_lt, ia_le, ia_eq, ia_m1, ia_0, ia_1, ne_eq, true_and, and_true, false_and, and_false, or_false, false_or, or_true, true_or, not_true_eq_false, not_false_eq_true] at *
  all_goals omega
set_option maxRecDepth 20000 in
theorem lf_f_rest2_3 (blineCount : Nat) (bt : Nat → Nat) (rlength : Nat) (rmostBytes : Nat) (rplace : Nat) (rkind : Int32) (rbegin : Nat) (rword : Int32) (rnumber : Int32) (rletters : Int64) (rfaultKind : Int32) (rfaultPlace : Int32) (rtapeF : Nat → Int32) (gp : Nat) (rplaceG_4 : Nat) (rkindG_5 : Int32) (rbeginG_6 : Nat) (rwordG_7 : Int32) (rnumberG_8 : Int32) (rlettersG_9 : Int64) (rfaultKindG_10 : Int32) (rfaultPlaceG_11 : Int32) (iv_bbk_0 : blineCount ≤ 40) (iv_rreader_0 : rlength ≤ 940) (iv_rreader_1 : rplace ≤ rlength) (iv_rreader_2 : rmostBytes ≤ 900) (iv_rreader_3 : rbegin ≤ 940) (hTC : TC bt rtapeF) (hRT : RT bt rlength rmostBytes gp rkind rbegin rplace rword rnumber rletters) (hl9 : blineCount < 40) (p13 : rplaceG_4 ≤ rlength) (p14 : rbeginG_6 ≤ 940) (t23 : pNum bt rlength rmostBytes 0 5 gp = .error (nER bt rlength rmostBytes gp, tF bt rlength rmostBytes gp)) (t24 : rfaultKindG_10 = nI (nER bt rlength rmostBytes gp)) (t25 : rfaultPlaceG_11 = nI (tF bt rlength rmostBytes gp)) : ((nI 0) = nI 1 ∧ (isO (bRest bt rlength rmostBytes 16 gp) = true ∧ RT bt rlength rmostBytes (okV (bRest bt rlength rmostBytes 16 gp)) rkindG_5 rbeginG_6 rplaceG_4 rwordG_7 rnumberG_8 rlettersG_9 ∧ blineCount = blineCount + 1 ∧ rfaultKindG_10 = rfaultKind ∧ rfaultPlaceG_11 = rfaultPlace)) ∨ ((nI 0) = nI 0 ∧ (isO (bRest bt rlength rmostBytes 16 gp) = false ∧ rfaultKindG_10 = nI (erA (bRest bt rlength rmostBytes 16 gp)) ∧ rfaultPlaceG_11 = nI (erB (bRest bt rlength rmostBytes 16 gp)))) := by
  rw [br_16, p3_1 (by assumption)]
  exact Or.inr ⟨rfl, rfl, ‹_›, ‹_›⟩
set_option maxRecDepth 20000 in
theorem lf_f_rest2_4 (bt : Nat → Nat) (rlength : Nat) (rmostBytes : Nat) (rplace : Nat) (rkind : Int32) (rbegin : Nat) (rword : Int32) (rnumber : Int32) (rletters : Int64) (rtapeF : Nat → Int32) (gp : Nat) (rplaceG_4 : Nat) (rkindG_5 : Int32) (rbeginG_6 : Nat) (rwordG_7 : Int32) (rnumberG_8 : Int32) (rlettersG_9 : Int64) (k15 : Nat) (iv_rreader_0 : rlength ≤ 940) (iv_rreader_1 : rplace ≤ rlength) (iv_rreader_2 : rmostBytes ≤ 900) (iv_rreader_3 : rbegin ≤ 940) (hTC : TC bt rtapeF) (hRT : RT bt rlength rmostBytes gp rkind rbegin rplace rword rnumber rletters) (p13 : rplaceG_4 ≤ rlength) (p14 : rbeginG_6 ≤ 940) (h17 : pNum bt rlength rmostBytes 0 5 gp = .ok k15) (h18 : 0 ≤ k15) (h19 : k15 ≤ 5) (h20 : RT bt rlength rmostBytes (tT bt rlength rmostBytes gp) rkindG_5 rbeginG_6 rplaceG_4 rwordG_7 rnumberG_8 rlettersG_9) : k15 < 2147483648 := by
  have b_rkind := ia_b rkind
  have b_rword := ia_b rword
  have b_rnumber := ia_b rnumber
  have b_rkindG_5 := ia_b rkindG_5
  have b_rwordG_7 := ia_b rwordG_7
  have b_rnumberG_8 := ia_b rnumberG_8
  have b_rletters := Int64.toInt_lt rletters
  have b_rlettersG_9 := Int64.toInt_lt rlettersG_9
  try simp only [ia_lt, ia_le, ia_eq, ia_m1, ia_0, ia_1, ne_eq, true_and, and_true, false_and, and_false, or_false, false_or, or_true, true_or, not_true_eq_false, not_false_eq_true] at *
  all_goals omega
set_option maxRecDepth 20000 in
theorem lf_f_rest2_5   : 0 ≤ 10 := by
  try simp only [ia_lt, ia_le, ia_eq, ia_m1, ia_0, ia_1, ne_eq, true_and, and_true, false_and, and_false, or_false, false_or, or_true, true_or, not_true_eq_false, not_false_eq_true] at *
  all_goals omega
set_option maxRecDepth 20000 in
theorem lf_f_rest2_6   : 5 ≤ 1000 := by
  try simp only [ia_lt, ia_le, ia_eq, ia_m1, ia_0, ia_1, ne_eq, true_and, and_true, false_and, and_false, or_false, false_or, or_true, true_or, not_true_eq_false, not_false_eq_true] at *
  all_goals omega
set_option maxRecDepth 20000 in
theorem lf_f_rest2_7 (blineCount : Nat) (bt : Nat → Nat) (rlength : Nat) (rmostBytes : Nat) (rplace : Nat) (rkind : Int32) (rbegin : Nat) (rword : Int32) (rnumber : Int32) (rletters : Int64) (rfaultKind : Int32) (rfaultPlace : Int32) (rtapeF : Nat → Int32) (gp : Nat) (rplaceG_4 : Nat) (rkindG_5 : Int32) (rbeginG_6 : Nat) (rwordG_7 : Int32) (rnumberG_8 : Int32) (rlettersG_9 : Int64) (rfaultKindG_10 : Int32) (rfaultPlaceG_11 : Int32) (k15 : Nat) (rplaceG_33 : Nat) (rkindG_34 : Int32) (rbeginG_35 : Nat) (rwordG_36 : Int32) (rnumberG_37 : Int32) (rlettersG_38 : Int64) (rfaultKindG_39 : Int32) (rfaultPlaceG_40 : Int32) (iv_bbk_0 : blineCount ≤ 40) (iv_rreader_0 : rlength ≤ 940) (iv_rreader_1 : rplace ≤ rlength) (iv_rreader_2 : rmostBytes ≤ 900) (iv_rreader_3 : rbegin ≤ 940) (hTC : TC bt rtapeF) (hRT : RT bt rlength rmostBytes gp rkind rbegin rplace rword rnumber rletters) (hl9 : blineCount < 40) (p13 : rplaceG_4 ≤ rlength) (p14 : rbeginG_6 ≤ 940) (h17 : pNum bt rlength rmostBytes 0 5 gp = .ok k15) (h18 : 0 ≤ k15) (h19 : k15 ≤ 5) (h20 : RT bt rlength rmostBytes (tT bt rlength rmostBytes gp) rkindG_5 rbeginG_6 rplaceG_4 rwordG_7 rnumberG_8 rlettersG_9) (h21 : rfaultKindG_10 = rfaultKind) (h22 : rfaultPlaceG_11 = rfaultPlace) (p42 : rplaceG_33 ≤ rlength) (p43 : rbeginG_35 ≤ 940) (t52 : pNum bt rlength rmostBytes 0 5 (tT bt rlength rmostBytes gp) = .error (nER bt rlength rmostBytes (tT bt rlength rmostBytes gp), tF bt rlength rmostBytes (tT bt rlength rmostBytes gp))) (t53 : rfaultKindG_39 = nI (nER bt rlength rmostBytes (tT bt rlength rmostBytes gp))) (t54 : rfaultPlaceG_40 = nI (tF bt rlength rmostBytes (tT bt rlength rmostBytes gp))) : ((nI 0) = nI 1 ∧ (isO (bRest bt rlength rmostBytes 16 gp) = true ∧ RT bt rlength rmostBytes (okV (bRest bt rlength rmostBytes 16 gp)) rkindG_34 rbeginG_35 rplaceG_33 rwordG_36 rnumberG_37 rlettersG_38 ∧ blineCount = blineCount + 1 ∧ rfaultKindG_39 = rfaultKind ∧ rfaultPlaceG_40 = rfaultPlace)) ∨ ((nI 0) = nI 0 ∧ (isO (bRest bt rlength rmostBytes 16 gp) = false ∧ rfaultKindG_39 = nI (erA (bRest bt rlength rmostBytes 16 gp)) ∧ rfaultPlaceG_40 = nI (erB (bRest bt rlength rmostBytes 16 gp)))) := by
  rw [br_16, p3_2 (by assumption) (by assumption)]
  exact Or.inr ⟨rfl, rfl, ‹_›, ‹_›⟩
set_option maxRecDepth 20000 in
theorem lf_f_rest2_8 (bt : Nat → Nat) (rlength : Nat) (rmostBytes : Nat) (rplace : Nat) (rkind : Int32) (rbegin : Nat) (rword : Int32) (rnumber : Int32) (rletters : Int64) (rtapeF : Nat → Int32) (gp : Nat) (rplaceG_4 : Nat) (rkindG_5 : Int32) (rbeginG_6 : Nat) (rwordG_7 : Int32) (rnumberG_8 : Int32) (rlettersG_9 : Int64) (k15 : Nat) (rplaceG_33 : Nat) (rkindG_34 : Int32) (rbeginG_35 : Nat) (rwordG_36 : Int32) (rnumberG_37 : Int32) (rlettersG_38 : Int64) (k44 : Nat) (iv_rreader_0 : rlength ≤ 940) (iv_rreader_1 : rplace ≤ rlength) (iv_rreader_2 : rmostBytes ≤ 900) (iv_rreader_3 : rbegin ≤ 940) (hTC : TC bt rtapeF) (hRT : RT bt rlength rmostBytes gp rkind rbegin rplace rword rnumber rletters) (p13 : rplaceG_4 ≤ rlength) (p14 : rbeginG_6 ≤ 940) (h17 : pNum bt rlength rmostBytes 0 5 gp = .ok k15) (h18 : 0 ≤ k15) (h19 : k15 ≤ 5) (h20 : RT bt rlength rmostBytes (tT bt rlength rmostBytes gp) rkindG_5 rbeginG_6 rplaceG_4 rwordG_7 rnumberG_8 rlettersG_9) (p42 : rplaceG_33 ≤ rlength) (p43 : rbeginG_35 ≤ 940) (h46 : pNum bt rlength rmostBytes 0 5 (tT bt rlength rmostBytes gp) = .ok k44) (h47 : 0 ≤ k44) (h48 : k44 ≤ 5) (h49 : RT bt rlength rmostBytes (tT bt rlength rmostBytes (tT bt rlength rmostBytes gp)) rkindG_34 rbeginG_35 rplaceG_33 rwordG_36 rnumberG_37 rlettersG_38) : k44 < 2147483648 := by
  have b_rkind := ia_b rkind
  have b_rword := ia_b rword
  have b_rnumber := ia_b rnumber
  have b_rkindG_5 := ia_b rkindG_5
  have b_rwordG_7 := ia_b rwordG_7
  have b_rnumberG_8 := ia_b rnumberG_8
  have b_rkindG_34 := ia_b rkindG_34
  have b_rwordG_36 := ia_b rwordG_36
  have b_rnumberG_37 := ia_b rnumberG_37
  have b_rletters := Int64.toInt_lt rletters
  have b_rlettersG_9 := Int64.toInt_lt rlettersG_9
  have b_rlettersG_38 := Int64.toInt_lt rlettersG_38
  try simp only [ia_lt, ia_le, ia_eq, ia_m1, ia_0, ia_1, ne_eq, true_and, and_true, false_and, and_false, or_false, false_or, or_true, true_or, not_true_eq_false, not_false_eq_true] at *
  all_goals omega
set_option maxRecDepth 20000 in
theorem lf_f_rest2_9   : 1 ≤ 10 := by
  try simp only [ia_lt, ia_le, ia_eq, ia_m1, ia_0, ia_1, ne_eq, true_and, and_true, false_and, and_false, or_false, false_or, or_true, true_or, not_true_eq_false, not_false_eq_true] at *
  all_goals omega
set_option maxRecDepth 20000 in
theorem lf_f_rest2_10   : 9 ≤ 1000 := by
  try simp only [ia_lt, ia_le, ia_eq, ia_m1, ia_0, ia_1, ne_eq, true_and, and_true, false_and, and_false, or_false, false_or, or_true, true_or, not_true_eq_false, not_false_eq_true] at *
  all_goals omega
set_option maxRecDepth 20000 in
theorem lf_f_rest2_11 (blineCount : Nat) (bt : Nat → Nat) (rlength : Nat) (rmostBytes : Nat) (rplace : Nat) (rkind : Int32) (rbegin : Nat) (rword : Int32) (rnumber : Int32) (rletters : Int64) (rfaultKind : Int32) (rfaultPlace : Int32) (rtapeF : Nat → Int32) (gp : Nat) (rplaceG_4 : Nat) (rkindG_5 : Int32) (rbeginG_6 : Nat) (rwordG_7 : Int32) (rnumberG_8 : Int32) (rlettersG_9 : Int64) (rfaultKindG_10 : Int32) (rfaultPlaceG_11 : Int32) (k15 : Nat) (rplaceG_33 : Nat) (rkindG_34 : Int32) (rbeginG_35 : Nat) (rwordG_36 : Int32) (rnumberG_37 : Int32) (rlettersG_38 : Int64) (rfaultKindG_39 : Int32) (rfaultPlaceG_40 : Int32) (k44 : Nat) (rplaceG_61 : Nat) (rkindG_62 : Int32) (rbeginG_63 : Nat) (rwordG_64 : Int32) (rnumberG_65 : Int32) (rlettersG_66 : Int64) (rfaultKindG_67 : Int32) (rfaultPlaceG_68 : Int32) (iv_bbk_0 : blineCount ≤ 40) (iv_rreader_0 : rlength ≤ 940) (iv_rreader_1 : rplace ≤ rlength) (iv_rreader_2 : rmostBytes ≤ 900) (iv_rreader_3 : rbegin ≤ 940) (hTC : TC bt rtapeF) (hRT : RT bt rlength rmostBytes gp rkind rbegin rplace rword rnumber rletters) (hl9 : blineCount < 40) (p13 : rplaceG_4 ≤ rlength) (p14 : rbeginG_6 ≤ 940) (h17 : pNum bt rlength rmostBytes 0 5 gp = .ok k15) (h18 : 0 ≤ k15) (h19 : k15 ≤ 5) (h20 : RT bt rlength rmostBytes (tT bt rlength rmostBytes gp) rkindG_5 rbeginG_6 rplaceG_4 rwordG_7 rnumberG_8 rlettersG_9) (h21 : rfaultKindG_10 = rfaultKind) (h22 : rfaultPlaceG_11 = rfaultPlace) (p42 : rplaceG_33 ≤ rlength) (p43 : rbeginG_35 ≤ 940) (h46 : pNum bt rlength rmostBytes 0 5 (tT bt rlength rmostBytes gp) = .ok k44) (h47 : 0 ≤ k44) (h48 : k44 ≤ 5) (h49 : RT bt rlength rmostBytes (tT bt rlength rmostBytes (tT bt rlength rmostBytes gp)) rkindG_34 rbeginG_35 rplaceG_33 rwordG_36 rnumberG_37 rlettersG_38) (h50 : rfaultKindG_39 = rfaultKindG_10) (h51 : rfaultPlaceG_40 = rfaultPlaceG_11) (p70 : rplaceG_61 ≤ rlength) (p71 : rbeginG_63 ≤ 940) (t80 : pNum bt rlength rmostBytes 1 9 (tT bt rlength rmostBytes (tT bt rlength rmostBytes gp)) = .error (nER bt rlength rmostBytes (tT bt rlength rmostBytes (tT bt rlength rmostBytes gp)), tF bt rlength rmostBytes (tT bt rlength rmostBytes (tT bt rlength rmostBytes gp)))) (t81 : rfaultKindG_67 = nI (nER bt rlength rmostBytes (tT bt rlength rmostBytes (tT bt rlength rmostBytes gp)))) (t82 : rfaultPlaceG_68 = nI (tF bt rlength rmostBytes (tT bt rlength rmostBytes (tT bt rlength rmostBytes gp)))) : ((nI 0) = nI 1 ∧ (isO (bRest bt rlength rmostBytes 16 gp) = true ∧ RT bt rlength rmostBytes (okV (bRest bt rlength rmostBytes 16 gp)) rkindG_62 rbeginG_63 rplaceG_61 rwordG_64 rnumberG_65 rlettersG_66 ∧ blineCount = blineCount + 1 ∧ rfaultKindG_67 = rfaultKind ∧ rfaultPlaceG_68 = rfaultPlace)) ∨ ((nI 0) = nI 0 ∧ (isO (bRest bt rlength rmostBytes 16 gp) = false ∧ rfaultKindG_67 = nI (erA (bRest bt rlength rmostBytes 16 gp)) ∧ rfaultPlaceG_68 = nI (erB (bRest bt rlength rmostBytes 16 gp)))) := by
  rw [br_16, p3_3 (by assumption) (by assumption) (by assumption)]
  exact Or.inr ⟨rfl, rfl, ‹_›, ‹_›⟩
set_option maxRecDepth 20000 in
theorem lf_f_rest2_12 (bt : Nat → Nat) (rlength : Nat) (rmostBytes : Nat) (rplace : Nat) (rkind : Int32) (rbegin : Nat) (rword : Int32) (rnumber : Int32) (rletters : Int64) (rtapeF : Nat → Int32) (gp : Nat) (rplaceG_4 : Nat) (rkindG_5 : Int32) (rbeginG_6 : Nat) (rwordG_7 : Int32) (rnumberG_8 : Int32) (rlettersG_9 : Int64) (k15 : Nat) (rplaceG_33 : Nat) (rkindG_34 : Int32) (rbeginG_35 : Nat) (rwordG_36 : Int32) (rnumberG_37 : Int32) (rlettersG_38 : Int64) (k44 : Nat) (rplaceG_61 : Nat) (rkindG_62 : Int32) (rbeginG_63 : Nat) (rwordG_64 : Int32) (rnumberG_65 : Int32) (rlettersG_66 : Int64) (k72 : Nat) (iv_rreader_0 : rlength ≤ 940) (iv_rreader_1 : rplace ≤ rlength) (iv_rreader_2 : rmostBytes ≤ 900) (iv_rreader_3 : rbegin ≤ 940) (hTC : TC bt rtapeF) (hRT : RT bt rlength rmostBytes gp rkind rbegin rplace rword rnumber rletters) (p13 : rplaceG_4 ≤ rlength) (p14 : rbeginG_6 ≤ 940) (h17 : pNum bt rlength rmostBytes 0 5 gp = .ok k15) (h18 : 0 ≤ k15) (h19 : k15 ≤ 5) (h20 : RT bt rlength rmostBytes (tT bt rlength rmostBytes gp) rkindG_5 rbeginG_6 rplaceG_4 rwordG_7 rnumberG_8 rlettersG_9) (p42 : rplaceG_33 ≤ rlength) (p43 : rbeginG_35 ≤ 940) (h46 : pNum bt rlength rmostBytes 0 5 (tT bt rlength rmostBytes gp) = .ok k44) (h47 : 0 ≤ k44) (h48 : k44 ≤ 5) (h49 : RT bt rlength rmostBytes (tT bt rlength rmostBytes (tT bt rlength rmostBytes gp)) rkindG_34 rbeginG_35 rplaceG_33 rwordG_36 rnumberG_37 rlettersG_38) (p70 : rplaceG_61 ≤ rlength) (p71 : rbeginG_63 ≤ 940) (h74 : pNum bt rlength rmostBytes 1 9 (tT bt rlength rmostBytes (tT bt rlength rmostBytes gp)) = .ok k72) (h75 : 1 ≤ k72) (h76 : k72 ≤ 9) (h77 : RT bt rlength rmostBytes (tT bt rlength rmostBytes (tT bt rlength rmostBytes (tT bt rlength rmostBytes gp))) rkindG_62 rbeginG_63 rplaceG_61 rwordG_64 rnumberG_65 rlettersG_66) : k72 < 2147483648 := by
  have b_rkind := ia_b rkind
  have b_rword := ia_b rword
  have b_rnumber := ia_b rnumber
  have b_rkindG_5 := ia_b rkindG_5
  have b_rwordG_7 := ia_b rwordG_7
  have b_rnumberG_8 := ia_b rnumberG_8
  have b_rkindG_34 := ia_b rkindG_34
  have b_rwordG_36 := ia_b rwordG_36
  have b_rnumberG_37 := ia_b rnumberG_37
  have b_rkindG_62 := ia_b rkindG_62
  have b_rwordG_64 := ia_b rwordG_64
  have b_rnumberG_65 := ia_b rnumberG_65
  have b_rletters := Int64.toInt_lt rletters
  have b_rlettersG_9 := Int64.toInt_lt rlettersG_9
  have b_rlettersG_38 := Int64.toInt_lt rlettersG_38
  have b_rlettersG_66 := Int64.toInt_lt rlettersG_66
  try simp only [ia_lt, ia_le, ia_eq, ia_m1, ia_0, ia_1, ne_eq, true_and, and_true, false_and, and_false, or_false, false_or, or_true, true_or, not_true_eq_false, not_false_eq_true] at *
  all_goals omega
set_option maxRecDepth 20000 in
theorem lf_f_rest2_13 (blineCount : Nat) (bt : Nat → Nat) (rlength : Nat) (rmostBytes : Nat) (rplace : Nat) (rkind : Int32) (rbegin : Nat) (rword : Int32) (rnumber : Int32) (rletters : Int64) (rfaultKind : Int32) (rfaultPlace : Int32) (rtapeF : Nat → Int32) (gp : Nat) (rplaceG_4 : Nat) (rkindG_5 : Int32) (rbeginG_6 : Nat) (rwordG_7 : Int32) (rnumberG_8 : Int32) (rlettersG_9 : Int64) (rfaultKindG_10 : Int32) (rfaultPlaceG_11 : Int32) (k15 : Nat) (rplaceG_33 : Nat) (rkindG_34 : Int32) (rbeginG_35 : Nat) (rwordG_36 : Int32) (rnumberG_37 : Int32) (rlettersG_38 : Int64) (rfaultKindG_39 : Int32) (rfaultPlaceG_40 : Int32) (k44 : Nat) (rplaceG_61 : Nat) (rkindG_62 : Int32) (rbeginG_63 : Nat) (rwordG_64 : Int32) (rnumberG_65 : Int32) (rlettersG_66 : Int64) (rfaultKindG_67 : Int32) (rfaultPlaceG_68 : Int32) (k72 : Nat) (blineCountG_88 : Nat) (iv_bbk_0 : blineCount ≤ 40) (iv_rreader_0 : rlength ≤ 940) (iv_rreader_1 : rplace ≤ rlength) (iv_rreader_2 : rmostBytes ≤ 900) (iv_rreader_3 : rbegin ≤ 940) (hTC : TC bt rtapeF) (hRT : RT bt rlength rmostBytes gp rkind rbegin rplace rword rnumber rletters) (hl9 : blineCount < 40) (p13 : rplaceG_4 ≤ rlength) (p14 : rbeginG_6 ≤ 940) (h17 : pNum bt rlength rmostBytes 0 5 gp = .ok k15) (h18 : 0 ≤ k15) (h19 : k15 ≤ 5) (h20 : RT bt rlength rmostBytes (tT bt rlength rmostBytes gp) rkindG_5 rbeginG_6 rplaceG_4 rwordG_7 rnumberG_8 rlettersG_9) (h21 : rfaultKindG_10 = rfaultKind) (h22 : rfaultPlaceG_11 = rfaultPlace) (p42 : rplaceG_33 ≤ rlength) (p43 : rbeginG_35 ≤ 940) (h46 : pNum bt rlength rmostBytes 0 5 (tT bt rlength rmostBytes gp) = .ok k44) (h47 : 0 ≤ k44) (h48 : k44 ≤ 5) (h49 : RT bt rlength rmostBytes (tT bt rlength rmostBytes (tT bt rlength rmostBytes gp)) rkindG_34 rbeginG_35 rplaceG_33 rwordG_36 rnumberG_37 rlettersG_38) (h50 : rfaultKindG_39 = rfaultKindG_10) (h51 : rfaultPlaceG_40 = rfaultPlaceG_11) (p70 : rplaceG_61 ≤ rlength) (p71 : rbeginG_63 ≤ 940) (h74 : pNum bt rlength rmostBytes 1 9 (tT bt rlength rmostBytes (tT bt rlength rmostBytes gp)) = .ok k72) (h75 : 1 ≤ k72) (h76 : k72 ≤ 9) (h77 : RT bt rlength rmostBytes (tT bt rlength rmostBytes (tT bt rlength rmostBytes (tT bt rlength rmostBytes gp))) rkindG_62 rbeginG_63 rplaceG_61 rwordG_64 rnumberG_65 rlettersG_66) (h78 : rfaultKindG_67 = rfaultKindG_39) (h79 : rfaultPlaceG_68 = rfaultPlaceG_40) (p91 : blineCountG_88 ≤ 40) (p92 : blineCountG_88 = blineCount + 1) : ((nI 1) = nI 1 ∧ (isO (bRest bt rlength rmostBytes 16 gp) = true ∧ RT bt rlength rmostBytes (okV (bRest bt rlength rmostBytes 16 gp)) rkindG_62 rbeginG_63 rplaceG_61 rwordG_64 rnumberG_65 rlettersG_66 ∧ blineCountG_88 = blineCount + 1 ∧ rfaultKindG_67 = rfaultKind ∧ rfaultPlaceG_68 = rfaultPlace)) ∨ ((nI 1) = nI 0 ∧ (isO (bRest bt rlength rmostBytes 16 gp) = false ∧ rfaultKindG_67 = nI (erA (bRest bt rlength rmostBytes 16 gp)) ∧ rfaultPlaceG_68 = nI (erB (bRest bt rlength rmostBytes 16 gp)))) := by
  rw [br_16, p3_o (by assumption) (by assumption) (by assumption)]
  exact Or.inl ⟨rfl, rfl, ‹_›, (by first | rfl | assumption | (subst_vars; rfl) | (subst_vars; assumption)), (by first | rfl | assumption | (subst_vars; rfl) | (subst_vars; assumption)), (by first | rfl | assumption | (subst_vars; rfl) | (subst_vars; assumption))⟩
set_option maxHeartbeats 4000000 in
set_option maxRecDepth 100000 in
theorem c_f_rest2 (l : Launch) (dC : Nat → ClassId) (dI : Nat → Nat → Nat) (ky : Nat → ClassId) (sz : Nat) (adK : Nat → Nat) (adV : Nat → Nat) (bk : Nat) (blines : Nat) (blineCount : Nat) (blived : Int32) (bwhyWrong : Int32) (bfineLines : Int32) (bdayThen : Int32) (beatenThen : Int32) (blinesF : Nat → Int32) (bt : Nat → Nat) (reader : Nat) (rtape : Nat) (rlength : Nat) (rmostBytes : Nat) (rplace : Nat) (rkind : Int32) (rbegin : Nat) (rword : Int32) (rnumber : Int32) (rletters : Int64) (rfaultKind : Int32) (rfaultPlace : Int32) (rtapeF : Nat → Int32) (gp : Nat) (y : Int32) (iv_bbk_0 : blineCount ≤ 40) (iv_rreader_0 : rlength ≤ 940) (iv_rreader_1 : rplace ≤ rlength) (iv_rreader_2 : rmostBytes ≤ 900) (iv_rreader_3 : rbegin ≤ 940) (hTC : TC bt rtapeF) (hRT : RT bt rlength rmostBytes gp rkind rbegin rplace rword rnumber rletters) (hl9 : blineCount < 40) : Met l yX0_readRest wsX0_readRest ({ frames := 7, cells := 0, slots := 0, locals := 154 }) (PcUE dC dI ky adK adV [.ref bk, .ref reader, .int (nI 2), .int y] [(bk, .inr (0, [.ref blines, .int (nI blineCount), .int blived, .int bwhyWrong, .int bfineLines, .int bdayThen, .int beatenThen])), (blines, .inl (ky 0, 160, .inl blinesF)), (reader, .inr (5, [.ref rtape, .int (nI rlength), .int (nI rmostBytes), .int (nI rplace), .int rkind, .int (nI rbegin), .int rword, .int rnumber, .long rletters, .int rfaultKind, .int rfaultPlace])), (rtape, .inl (ky 2, 940, .inl rtapeF))] sz) (va_Qi (fun (r : Int32) (u : Nat × (Nat → Int32) × Nat × Int32 × Nat × Int32 × Int32 × Int64 × Int32 × Int32) => match u with | (blineCountG, blinesG, rplaceG, rkindG, rbeginG, rwordG, rnumberG, rlettersG, rfaultKindG, rfaultPlaceG) => ((r = nI 1 ∧ (isO (bRest bt rlength rmostBytes 16 gp) = true ∧ RT bt rlength rmostBytes (okV (bRest bt rlength rmostBytes 16 gp)) rkindG rbeginG rplaceG rwordG rnumberG rlettersG ∧ blineCountG = blineCount + 1 ∧ rfaultKindG = rfaultKind ∧ rfaultPlaceG = rfaultPlace)) ∨ (r = nI 0 ∧ (isO (bRest bt rlength rmostBytes 16 gp) = false ∧ rfaultKindG = nI (erA (bRest bt rlength rmostBytes 16 gp)) ∧ rfaultPlaceG = nI (erB (bRest bt rlength rmostBytes 16 gp))))) ∧ (blineCountG ≤ 40) ∧ (rplaceG ≤ rlength) ∧ (rbeginG ≤ 940)) (BU dC dI ky (fun (u : Nat × (Nat → Int32) × Nat × Int32 × Nat × Int32 × Int32 × Int64 × Int32 × Int32) => match u with | (blineCountG, blinesG, rplaceG, rkindG, rbeginG, rwordG, rnumberG, rlettersG, rfaultKindG, rfaultPlaceG) => [(bk, .inr (0, [.ref blines, .int (nI blineCountG), .int blived, .int bwhyWrong, .int bfineLines, .int bdayThen, .int beatenThen])), (blines, .inl (ky 0, 160, .inl blinesG)), (reader, .inr (5, [.ref rtape, .int (nI rlength), .int (nI rmostBytes), .int (nI rplaceG), .int rkindG, .int (nI rbeginG), .int rwordG, .int rnumberG, .long rlettersG, .int rfaultKindG, .int rfaultPlaceG])), (rtape, .inl (ky 2, 940, .inl rtapeF))]) (va_A [(bk, .inr (0, [.ref blines, .int (nI blineCount), .int blived, .int bwhyWrong, .int bfineLines, .int bdayThen, .int beatenThen])), (blines, .inl (ky 0, 160, .inl blinesF)), (reader, .inr (5, [.ref rtape, .int (nI rlength), .int (nI rmostBytes), .int (nI rplace), .int rkind, .int (nI rbegin), .int rword, .int rnumber, .long rletters, .int rfaultKind, .int rfaultPlace])), (rtape, .inl (ky 2, 940, .inl rtapeF))] sz)) (va_A [(bk, .inr (0, [.ref blines, .int (nI blineCount), .int blived, .int bwhyWrong, .int bfineLines, .int bdayThen, .int beatenThen])), (blines, .inl (ky 0, 160, .inl blinesF)), (reader, .inr (5, [.ref rtape, .int (nI rlength), .int (nI rmostBytes), .int (nI rplace), .int rkind, .int (nI rbegin), .int rword, .int rnumber, .long rletters, .int rfaultKind, .int rfaultPlace])), (rtape, .inl (ky 2, 940, .inl rtapeF))] sz)) 0 0 (va_A [(bk, .inr (0, [.ref blines, .int (nI blineCount), .int blived, .int bwhyWrong, .int bfineLines, .int bdayThen, .int beatenThen])), (blines, .inl (ky 0, 160, .inl blinesF)), (reader, .inr (5, [.ref rtape, .int (nI rlength), .int (nI rmostBytes), .int (nI rplace), .int rkind, .int (nI rbegin), .int rword, .int rnumber, .long rletters, .int rfaultKind, .int rfaultPlace])), (rtape, .inl (ky 2, 940, .inl rtapeF))] sz) := by
  refine Met.ofW (cc := cX0_readRest) (maxL := 12) (ret := (some .boolean)) (by decide) rfl ?_
  intro p e s m args below meth c s₁ B hml hv
  obtain ⟨rfl, hsz, hP, hK, hD0, hE⟩ := hv
  have hx := B.exec
  have hb := B.bytes
  have hr := B.returns
  have hts := atoms_spec (ws := wsX0_readRest) B.pre
  have hown : s.vm.findClass RX0 = some m.cls := findClass_of_methodNamed B.named
  have hlocks := B.notSynchronized
  subst hsz
  have hD := hD0.self (sz := s.heap.size)
  generalize hAe : va_A [(bk, .inr (0, [.ref blines, .int (nI blineCount), .int blived, .int bwhyWrong, .int bfineLines, .int bdayThen, .int beatenThen])), (blines, .inl (ky 0, 160, .inl blinesF)), (reader, .inr (5, [.ref rtape, .int (nI rlength), .int (nI rmostBytes), .int (nI rplace), .int rkind, .int (nI rbegin), .int rword, .int rnumber, .long rletters, .int rfaultKind, .int rfaultPlace])), (rtape, .inl (ky 2, 940, .inl rtapeF))] s.heap.size = A at hD hE ⊢
  have hA : ∀ q : Nat, s.heap.size ≤ q → A q := fun q h => by rw [← hAe]; exact Or.inr h
  have hS : va_S A s.heap s.heap [] := va_S.rf
  have hl := lv_entry ([.ref bk, .ref reader, .int (nI 2), .int y]) (n := 12) (Nat.le_of_ble_eq_true rfl)
  rw [lg_entry_eq]
  generalize (lg_sl ([.ref bk, .ref reader, .int (nI 2), .int y]) ++ List.replicate (12 - (lg_sl ([.ref bk, .ref reader, .int (nI 2), .int y])).length) Slot.unset).toArray = ls at hl ⊢
  have hl : lv_has ls 12 [(0, .ref bk), (1, .ref reader), (2, .int (nI 2)), (3, .int y)] := hl
  refine q_name (fun Q hQ => ?_)
  generalize ([.ref bk, .ref reader, .int (nI 2), .int y] : List Value).toArray = args at hts hQ ⊢
  refine lv_iload_n hx hb dX0_readRest_0 rfl (lv_at hl 2 rfl) ?_
  refine lv_tableIn (off := 139) (tgt := 140) hx hb dX0_readRest_1 (by decide) (by decide) rfl (by decide) ?_
  refine lv_aload_n hx hb dX0_readRest_140 rfl (lv_at hl 1 rfl) ?_
  refine lv_iconst (v := nI 0) hx hb dX0_readRest_141 (by decide) ?_
  refine lv_iconst (v := nI 5) hx hb dX0_readRest_142 (by decide) ?_
  refine r_call_i (wr := [(bk, .inr (0, [.ref blines, .int (nI blineCount), .int blived, .int bwhyWrong, .int bfineLines, .int bdayThen, .int beatenThen])), (blines, .inl (ky 0, 160, .inl blinesF))]) (va_runV (As := [.int (nI 0), .int (nI 5)]) (rest := []) ⟨hx, hb, hml, hown, hts⟩ (c_f_takeNumber l dC dI ky s.heap.size adK adV bt reader rtape rlength rmostBytes rplace rkind rbegin rword rnumber rletters rfaultKind rfaultPlace rtapeF gp 0 5 iv_rreader_0 iv_rreader_1 iv_rreader_2 iv_rreader_3 hTC (lf_f_rest2_1) (lf_f_rest2_2) hRT) (cwV 2 hts gX0_readRest_X5_takeNumber rfl rfl rfl (by decide +kernel) ⟨(Nat.le_of_ble_eq_true rfl), (Nat.le_of_ble_eq_true rfl)⟩) (pre_UEV hE hS hA hK hP hD [2, 3] (by decide) rfl (va_recv hK hP (ci := 5) (q0 := 2) rfl rfl)) rfl rfl hl.1 rfl (lv_room (Nat.le_of_ble_eq_true rfl)) dX0_readRest_143 ⟨(Nat.le_of_ble_eq_true rfl), (Nat.le_of_ble_eq_true rfl)⟩) hP hD hS hA [2, 3] [0, 1] rfl rfl (by decide) (by decide) (fun r3 u1 H locs p2 hP hD hS => ?_)
  obtain ⟨rplaceG_4, rkindG_5, rbeginG_6, rwordG_7, rnumberG_8, rlettersG_9, rfaultKindG_10, rfaultPlaceG_11⟩ := u1
  try dsimp only at p2
  obtain ⟨p12, p13, p14⟩ := p2
  refine W.widen (k := 0) (n := 0) (Nat.le_of_ble_eq_true rfl) (Nat.le_of_ble_eq_true rfl) ?_
  have hP : va_P (dC, dI) vwCl [(bk, .inr (0, [.ref blines, .int (nI blineCount), .int blived, .int bwhyWrong, .int bfineLines, .int bdayThen, .int beatenThen])), (blines, .inl (ky 0, 160, .inl blinesF)), (reader, .inr (5, [.ref rtape, .int (nI rlength), .int (nI rmostBytes), .int (nI rplaceG_4), .int rkindG_5, .int (nI rbeginG_6), .int rwordG_7, .int rnumberG_8, .long rlettersG_9, .int rfaultKindG_10, .int rfaultPlaceG_11])), (rtape, .inl (ky 2, 940, .inl rtapeF))] H := hP
  have hD : va_D A [(bk, .inr (0, [.ref blines, .int (nI blineCount), .int blived, .int bwhyWrong, .int bfineLines, .int bdayThen, .int beatenThen])), (blines, .inl (ky 0, 160, .inl blinesF)), (reader, .inr (5, [.ref rtape, .int (nI rlength), .int (nI rmostBytes), .int (nI rplaceG_4), .int rkindG_5, .int (nI rbeginG_6), .int rwordG_7, .int rnumberG_8, .long rlettersG_9, .int rfaultKindG_10, .int rfaultPlaceG_11])), (rtape, .inl (ky 2, 940, .inl rtapeF))] := hD
  rcases p12 with ⟨rfl, t23, t24, t25⟩ | ⟨k15, ⟨h17, h18, h19, h20, h21, h22⟩, rfl⟩
  · refine lv_istore (lv' := [(8, .int (-1 : Int32)), (0, .ref bk), (1, .ref reader), (2, .int (nI 2)), (3, .int y)]) hx hb dX0_readRest_146 hl (by decide) rfl (fun ls hl => ?_)
    refine lv_iload hx hb dX0_readRest_148 (lv_at hl 0 rfl) ?_
    refine lv_iconst (v := (-1 : Int32)) hx hb dX0_readRest_150 (by decide) ?_
    refine lv_icmp_ne (tgt := 158) hx hb dX0_readRest_151 (by decide) (fun c26 => absurd c26 (by decide)) (fun c26 => ?_)
    refine lv_iconst (v := (-1 : Int32)) hx hb dX0_readRest_154 (by decide) ?_
    refine lv_goto (tgt := 164) hx hb dX0_readRest_155 (by decide) ?_
    refine lv_istore (lv' := [(9, .int (-1 : Int32)), (8, .int (-1 : Int32)), (0, .ref bk), (1, .ref reader), (2, .int (nI 2)), (3, .int y)]) hx hb dX0_readRest_164 hl (by decide) rfl (fun ls hl => ?_)
    refine lv_iload hx hb dX0_readRest_166 (lv_at hl 0 rfl) ?_
    refine lv_iconst (v := (-1 : Int32)) hx hb dX0_readRest_168 (by decide) ?_
    refine lv_icmp_ne (tgt := 176) hx hb dX0_readRest_169 (by decide) (fun c27 => absurd c27 (by decide)) (fun c27 => ?_)
    refine lv_iconst (v := (-1 : Int32)) hx hb dX0_readRest_172 (by decide) ?_
    refine lv_goto (tgt := 183) hx hb dX0_readRest_173 (by decide) ?_
    refine lv_istore (lv' := [(10, .int (-1 : Int32)), (9, .int (-1 : Int32)), (8, .int (-1 : Int32)), (0, .ref bk), (1, .ref reader), (2, .int (nI 2)), (3, .int y)]) hx hb dX0_readRest_183 hl (by decide) rfl (fun ls hl => ?_)
    refine lv_iload hx hb dX0_readRest_185 (lv_at hl 0 rfl) ?_
    refine lv_iconst (v := (-1 : Int32)) hx hb dX0_readRest_187 (by decide) ?_
    refine lv_icmp_eq (tgt := 209) hx hb dX0_readRest_188 (by decide) (fun c28 => ?_) (fun c28 => absurd (by decide) c28)
    refine lv_iconst (v := nI 0) hx hb dX0_readRest_209 (by decide) ?_
    rw [hQ]
    exact W.zret (v := nI 0) hx hb hr (by decide) (fun t9 ht9 hW9 => ⟨⟨nI 0, (blineCount, blinesF, rplaceG_4, rkindG_5, rbeginG_6, rwordG_7, rnumberG_8, rlettersG_9, rfaultKindG_10, rfaultPlaceG_11), rfl, ⟨(lf_f_rest2_3 blineCount bt rlength rmostBytes rplace rkind rbegin rword rnumber rletters rfaultKind rfaultPlace rtapeF gp rplaceG_4 rkindG_5 rbeginG_6 rwordG_7 rnumberG_8 rlettersG_9 rfaultKindG_10 rfaultPlaceG_11 iv_bbk_0 iv_rreader_0 iv_rreader_1 iv_rreader_2 iv_rreader_3 hTC hRT hl9 p13 p14 t23 t24 t25), iv_bbk_0, p13, p14⟩, by rw [ht9]; exact hP, va_K.moved hW9.alike hK, hD⟩, hS.F ht9⟩) hS.2.2 dX0_readRest_210
  · refine lv_istore (lv' := [(8, .int (nI k15)), (0, .ref bk), (1, .ref reader), (2, .int (nI 2)), (3, .int y)]) hx hb dX0_readRest_146 hl (by decide) rfl (fun ls hl => ?_)
    refine lv_iload hx hb dX0_readRest_148 (lv_at hl 0 rfl) ?_
    refine lv_iconst (v := (-1 : Int32)) hx hb dX0_readRest_150 (by decide) ?_
    refine lv_icmp_ne (tgt := 158) hx hb dX0_readRest_151 (by decide) (fun c29 => ?_) (fun c29 => absurd c29 (nI_neg (lf_f_rest2_4 bt rlength rmostBytes rplace rkind rbegin rword rnumber rletters rtapeF gp rplaceG_4 rkindG_5 rbeginG_6 rwordG_7 rnumberG_8 rlettersG_9 k15 iv_rreader_0 iv_rreader_1 iv_rreader_2 iv_rreader_3 hTC hRT p13 p14 h17 h18 h19 h20)))
    refine lv_aload_n hx hb dX0_readRest_158 rfl (lv_at hl 2 rfl) ?_
    refine lv_iconst (v := nI 0) hx hb dX0_readRest_159 (by decide) ?_
    refine lv_iconst (v := nI 5) hx hb dX0_readRest_160 (by decide) ?_
    refine r_call_i (wr := [(bk, .inr (0, [.ref blines, .int (nI blineCount), .int blived, .int bwhyWrong, .int bfineLines, .int bdayThen, .int beatenThen])), (blines, .inl (ky 0, 160, .inl blinesF))]) (va_runV (As := [.int (nI 0), .int (nI 5)]) (rest := []) ⟨hx, hb, hml, hown, hts⟩ (c_f_takeNumber l dC dI ky H.size adK adV bt reader rtape rlength rmostBytes rplaceG_4 rkindG_5 rbeginG_6 rwordG_7 rnumberG_8 rlettersG_9 rfaultKindG_10 rfaultPlaceG_11 rtapeF (tT bt rlength rmostBytes gp) 0 5 iv_rreader_0 p13 iv_rreader_2 p14 hTC (lf_f_rest2_5) (lf_f_rest2_6) h20) (cwV 2 hts gX0_readRest_X5_takeNumber rfl rfl rfl (by decide +kernel) ⟨(Nat.le_of_ble_eq_true rfl), (Nat.le_of_ble_eq_true rfl)⟩) (pre_UEV hE hS hA hK hP hD [2, 3] (by decide) rfl (va_recv hK hP (ci := 5) (q0 := 2) rfl rfl)) rfl rfl hl.1 rfl (lv_room (Nat.le_of_ble_eq_true rfl)) dX0_readRest_161 ⟨(Nat.le_of_ble_eq_true rfl), (Nat.le_of_ble_eq_true rfl)⟩) hP hD hS hA [2, 3] [0, 1] rfl rfl (by decide) (by decide) (fun r32 u30 H locs p31 hP hD hS => ?_)
    obtain ⟨rplaceG_33, rkindG_34, rbeginG_35, rwordG_36, rnumberG_37, rlettersG_38, rfaultKindG_39, rfaultPlaceG_40⟩ := u30
    try dsimp only at p31
    obtain ⟨p41, p42, p43⟩ := p31
    refine W.widen (k := 0) (n := 0) (Nat.le_of_ble_eq_true rfl) (Nat.le_of_ble_eq_true rfl) ?_
    have hP : va_P (dC, dI) vwCl [(bk, .inr (0, [.ref blines, .int (nI blineCount), .int blived, .int bwhyWrong, .int bfineLines, .int bdayThen, .int beatenThen])), (blines, .inl (ky 0, 160, .inl blinesF)), (reader, .inr (5, [.ref rtape, .int (nI rlength), .int (nI rmostBytes), .int (nI rplaceG_33), .int rkindG_34, .int (nI rbeginG_35), .int rwordG_36, .int rnumberG_37, .long rlettersG_38, .int rfaultKindG_39, .int rfaultPlaceG_40])), (rtape, .inl (ky 2, 940, .inl rtapeF))] H := hP
    have hD : va_D A [(bk, .inr (0, [.ref blines, .int (nI blineCount), .int blived, .int bwhyWrong, .int bfineLines, .int bdayThen, .int beatenThen])), (blines, .inl (ky 0, 160, .inl blinesF)), (reader, .inr (5, [.ref rtape, .int (nI rlength), .int (nI rmostBytes), .int (nI rplaceG_33), .int rkindG_34, .int (nI rbeginG_35), .int rwordG_36, .int rnumberG_37, .long rlettersG_38, .int rfaultKindG_39, .int rfaultPlaceG_40])), (rtape, .inl (ky 2, 940, .inl rtapeF))] := hD
    rcases p41 with ⟨rfl, t52, t53, t54⟩ | ⟨k44, ⟨h46, h47, h48, h49, h50, h51⟩, rfl⟩
    · refine lv_istore (lv' := [(9, .int (-1 : Int32)), (8, .int (nI k15)), (0, .ref bk), (1, .ref reader), (2, .int (nI 2)), (3, .int y)]) hx hb dX0_readRest_164 hl (by decide) rfl (fun ls hl => ?_)
      refine lv_iload hx hb dX0_readRest_166 (lv_at hl 0 rfl) ?_
      refine lv_iconst (v := (-1 : Int32)) hx hb dX0_readRest_168 (by decide) ?_
      refine lv_icmp_ne (tgt := 176) hx hb dX0_readRest_169 (by decide) (fun c55 => absurd c55 (by decide)) (fun c55 => ?_)
      refine lv_iconst (v := (-1 : Int32)) hx hb dX0_readRest_172 (by decide) ?_
      refine lv_goto (tgt := 183) hx hb dX0_readRest_173 (by decide) ?_
      refine lv_istore (lv' := [(10, .int (-1 : Int32)), (9, .int (-1 : Int32)), (8, .int (nI k15)), (0, .ref bk), (1, .ref reader), (2, .int (nI 2)), (3, .int y)]) hx hb dX0_readRest_183 hl (by decide) rfl (fun ls hl => ?_)
      refine lv_iload hx hb dX0_readRest_185 (lv_at hl 0 rfl) ?_
      refine lv_iconst (v := (-1 : Int32)) hx hb dX0_readRest_187 (by decide) ?_
      refine lv_icmp_eq (tgt := 209) hx hb dX0_readRest_188 (by decide) (fun c56 => ?_) (fun c56 => absurd (by decide) c56)
      refine lv_iconst (v := nI 0) hx hb dX0_readRest_209 (by decide) ?_
      rw [hQ]
      exact W.zret (v := nI 0) hx hb hr (by decide) (fun t9 ht9 hW9 => ⟨⟨nI 0, (blineCount, blinesF, rplaceG_33, rkindG_34, rbeginG_35, rwordG_36, rnumberG_37, rlettersG_38, rfaultKindG_39, rfaultPlaceG_40), rfl, ⟨(lf_f_rest2_7 blineCount bt rlength rmostBytes rplace rkind rbegin rword rnumber rletters rfaultKind rfaultPlace rtapeF gp rplaceG_4 rkindG_5 rbeginG_6 rwordG_7 rnumberG_8 rlettersG_9 rfaultKindG_10 rfaultPlaceG_11 k15 rplaceG_33 rkindG_34 rbeginG_35 rwordG_36 rnumberG_37 rlettersG_38 rfaultKindG_39 rfaultPlaceG_40 iv_bbk_0 iv_rreader_0 iv_rreader_1 iv_rreader_2 iv_rreader_3 hTC hRT hl9 p13 p14 h17 h18 h19 h20 h21 h22 p42 p43 t52 t53 t54), iv_bbk_0, p42, p43⟩, by rw [ht9]; exact hP, va_K.moved hW9.alike hK, hD⟩, hS.F ht9⟩) hS.2.2 dX0_readRest_210
    · refine lv_istore (lv' := [(9, .int (nI k44)), (8, .int (nI k15)), (0, .ref bk), (1, .ref reader), (2, .int (nI 2)), (3, .int y)]) hx hb dX0_readRest_164 hl (by decide) rfl (fun ls hl => ?_)
      refine lv_iload hx hb dX0_readRest_166 (lv_at hl 0 rfl) ?_
      refine lv_iconst (v := (-1 : Int32)) hx hb dX0_readRest_168 (by decide) ?_
      refine lv_icmp_ne (tgt := 176) hx hb dX0_readRest_169 (by decide) (fun c57 => ?_) (fun c57 => absurd c57 (nI_neg (lf_f_rest2_8 bt rlength rmostBytes rplace rkind rbegin rword rnumber rletters rtapeF gp rplaceG_4 rkindG_5 rbeginG_6 rwordG_7 rnumberG_8 rlettersG_9 k15 rplaceG_33 rkindG_34 rbeginG_35 rwordG_36 rnumberG_37 rlettersG_38 k44 iv_rreader_0 iv_rreader_1 iv_rreader_2 iv_rreader_3 hTC hRT p13 p14 h17 h18 h19 h20 p42 p43 h46 h47 h48 h49)))
      refine lv_aload_n hx hb dX0_readRest_176 rfl (lv_at hl 3 rfl) ?_
      refine lv_iconst (v := nI 1) hx hb dX0_readRest_177 (by decide) ?_
      refine lv_bipush (v := nI 9) hx hb dX0_readRest_178 (by decide) ?_
      refine r_call_i (wr := [(bk, .inr (0, [.ref blines, .int (nI blineCount), .int blived, .int bwhyWrong, .int bfineLines, .int bdayThen, .int beatenThen])), (blines, .inl (ky 0, 160, .inl blinesF))]) (va_runV (As := [.int (nI 1), .int (nI 9)]) (rest := []) ⟨hx, hb, hml, hown, hts⟩ (c_f_takeNumber l dC dI ky H.size adK adV bt reader rtape rlength rmostBytes rplaceG_33 rkindG_34 rbeginG_35 rwordG_36 rnumberG_37 rlettersG_38 rfaultKindG_39 rfaultPlaceG_40 rtapeF (tT bt rlength rmostBytes (tT bt rlength rmostBytes gp)) 1 9 iv_rreader_0 p42 iv_rreader_2 p43 hTC (lf_f_rest2_9) (lf_f_rest2_10) h49) (cwV 2 hts gX0_readRest_X5_takeNumber rfl rfl rfl (by decide +kernel) ⟨(Nat.le_of_ble_eq_true rfl), (Nat.le_of_ble_eq_true rfl)⟩) (pre_UEV hE hS hA hK hP hD [2, 3] (by decide) rfl (va_recv hK hP (ci := 5) (q0 := 2) rfl rfl)) rfl rfl hl.1 rfl (lv_room (Nat.le_of_ble_eq_true rfl)) dX0_readRest_180 ⟨(Nat.le_of_ble_eq_true rfl), (Nat.le_of_ble_eq_true rfl)⟩) hP hD hS hA [2, 3] [0, 1] rfl rfl (by decide) (by decide) (fun r60 u58 H locs p59 hP hD hS => ?_)
      obtain ⟨rplaceG_61, rkindG_62, rbeginG_63, rwordG_64, rnumberG_65, rlettersG_66, rfaultKindG_67, rfaultPlaceG_68⟩ := u58
      try dsimp only at p59
      obtain ⟨p69, p70, p71⟩ := p59
      refine W.widen (k := 0) (n := 0) (Nat.le_of_ble_eq_true rfl) (Nat.le_of_ble_eq_true rfl) ?_
      have hP : va_P (dC, dI) vwCl [(bk, .inr (0, [.ref blines, .int (nI blineCount), .int blived, .int bwhyWrong, .int bfineLines, .int bdayThen, .int beatenThen])), (blines, .inl (ky 0, 160, .inl blinesF)), (reader, .inr (5, [.ref rtape, .int (nI rlength), .int (nI rmostBytes), .int (nI rplaceG_61), .int rkindG_62, .int (nI rbeginG_63), .int rwordG_64, .int rnumberG_65, .long rlettersG_66, .int rfaultKindG_67, .int rfaultPlaceG_68])), (rtape, .inl (ky 2, 940, .inl rtapeF))] H := hP
      have hD : va_D A [(bk, .inr (0, [.ref blines, .int (nI blineCount), .int blived, .int bwhyWrong, .int bfineLines, .int bdayThen, .int beatenThen])), (blines, .inl (ky 0, 160, .inl blinesF)), (reader, .inr (5, [.ref rtape, .int (nI rlength), .int (nI rmostBytes), .int (nI rplaceG_61), .int rkindG_62, .int (nI rbeginG_63), .int rwordG_64, .int rnumberG_65, .long rlettersG_66, .int rfaultKindG_67, .int rfaultPlaceG_68])), (rtape, .inl (ky 2, 940, .inl rtapeF))] := hD
      rcases p69 with ⟨rfl, t80, t81, t82⟩ | ⟨k72, ⟨h74, h75, h76, h77, h78, h79⟩, rfl⟩
      · refine lv_istore (lv' := [(10, .int (-1 : Int32)), (9, .int (nI k44)), (8, .int (nI k15)), (0, .ref bk), (1, .ref reader), (2, .int (nI 2)), (3, .int y)]) hx hb dX0_readRest_183 hl (by decide) rfl (fun ls hl => ?_)
        refine lv_iload hx hb dX0_readRest_185 (lv_at hl 0 rfl) ?_
        refine lv_iconst (v := (-1 : Int32)) hx hb dX0_readRest_187 (by decide) ?_
        refine lv_icmp_eq (tgt := 209) hx hb dX0_readRest_188 (by decide) (fun c83 => ?_) (fun c83 => absurd (by decide) c83)
        refine lv_iconst (v := nI 0) hx hb dX0_readRest_209 (by decide) ?_
        rw [hQ]
        exact W.zret (v := nI 0) hx hb hr (by decide) (fun t9 ht9 hW9 => ⟨⟨nI 0, (blineCount, blinesF, rplaceG_61, rkindG_62, rbeginG_63, rwordG_64, rnumberG_65, rlettersG_66, rfaultKindG_67, rfaultPlaceG_68), rfl, ⟨(lf_f_rest2_11 blineCount bt rlength rmostBytes rplace rkind rbegin rword rnumber rletters rfaultKind rfaultPlace rtapeF gp rplaceG_4 rkindG_5 rbeginG_6 rwordG_7 rnumberG_8 rlettersG_9 rfaultKindG_10 rfaultPlaceG_11 k15 rplaceG_33 rkindG_34 rbeginG_35 rwordG_36 rnumberG_37 rlettersG_38 rfaultKindG_39 rfaultPlaceG_40 k44 rplaceG_61 rkindG_62 rbeginG_63 rwordG_64 rnumberG_65 rlettersG_66 rfaultKindG_67 rfaultPlaceG_68 iv_bbk_0 iv_rreader_0 iv_rreader_1 iv_rreader_2 iv_rreader_3 hTC hRT hl9 p13 p14 h17 h18 h19 h20 h21 h22 p42 p43 h46 h47 h48 h49 h50 h51 p70 p71 t80 t81 t82), iv_bbk_0, p70, p71⟩, by rw [ht9]; exact hP, va_K.moved hW9.alike hK, hD⟩, hS.F ht9⟩) hS.2.2 dX0_readRest_210
      · refine lv_istore (lv' := [(10, .int (nI k72)), (9, .int (nI k44)), (8, .int (nI k15)), (0, .ref bk), (1, .ref reader), (2, .int (nI 2)), (3, .int y)]) hx hb dX0_readRest_183 hl (by decide) rfl (fun ls hl => ?_)
        refine lv_iload hx hb dX0_readRest_185 (lv_at hl 0 rfl) ?_
        refine lv_iconst (v := (-1 : Int32)) hx hb dX0_readRest_187 (by decide) ?_
        refine lv_icmp_eq (tgt := 209) hx hb dX0_readRest_188 (by decide) (fun c84 => absurd c84 (nI_neg (lf_f_rest2_12 bt rlength rmostBytes rplace rkind rbegin rword rnumber rletters rtapeF gp rplaceG_4 rkindG_5 rbeginG_6 rwordG_7 rnumberG_8 rlettersG_9 k15 rplaceG_33 rkindG_34 rbeginG_35 rwordG_36 rnumberG_37 rlettersG_38 k44 rplaceG_61 rkindG_62 rbeginG_63 rwordG_64 rnumberG_65 rlettersG_66 k72 iv_rreader_0 iv_rreader_1 iv_rreader_2 iv_rreader_3 hTC hRT p13 p14 h17 h18 h19 h20 p42 p43 h46 h47 h48 h49 p70 p71 h74 h75 h76 h77))) (fun c84 => ?_)
        refine lv_aload_n hx hb dX0_readRest_191 rfl (lv_at hl 3 rfl) ?_
        refine lv_iload_n hx hb dX0_readRest_192 rfl (lv_at hl 5 rfl) ?_
        refine lv_iload hx hb dX0_readRest_193 (lv_at hl 2 rfl) ?_
        refine lv_iload hx hb dX0_readRest_195 (lv_at hl 1 rfl) ?_
        refine lv_iload hx hb dX0_readRest_197 (lv_at hl 0 rfl) ?_
        refine r_call_i (wr := [(reader, .inr (5, [.ref rtape, .int (nI rlength), .int (nI rmostBytes), .int (nI rplaceG_61), .int rkindG_62, .int (nI rbeginG_63), .int rwordG_64, .int rnumberG_65, .long rlettersG_66, .int rfaultKindG_67, .int rfaultPlaceG_68])), (rtape, .inl (ky 2, 940, .inl rtapeF))]) (va_runV (As := [.int (nI 2), .int (nI k15), .int (nI k44), .int (nI k72)]) (rest := []) ⟨hx, hb, hml, hown, hts⟩ (c_f_bput l dC dI ky H.size bk blines blineCount blived bwhyWrong bfineLines bdayThen beatenThen blinesF (nI 2) (nI k15) (nI k44) (nI k72) iv_bbk_0 hl9) (cwV 4 hts gX0_readRest_X0_put rfl rfl rfl (by decide +kernel) ⟨(Nat.le_of_ble_eq_true rfl), (Nat.le_of_ble_eq_true rfl)⟩) (pre_UV hK hP hD [0, 1] (by decide) rfl (ci := 0) (q0 := 0) rfl rfl) rfl rfl hl.1 rfl (lv_room (Nat.le_of_ble_eq_true rfl)) dX0_readRest_199 ⟨(Nat.le_of_ble_eq_true rfl), (Nat.le_of_ble_eq_true rfl)⟩) hP hD hS hA [0, 1] [2, 3] rfl rfl (by decide) (by decide) (fun r87 u85 H locs p86 hP hD hS => ?_)
        obtain ⟨blineCountG_88, blinesG_89⟩ := u85
        try dsimp only at p86
        obtain ⟨p90, p91, p92⟩ := p86
        refine W.widen (k := 0) (n := 0) (Nat.le_of_ble_eq_true rfl) (Nat.le_of_ble_eq_true rfl) ?_
        have hP : va_P (dC, dI) vwCl [(reader, .inr (5, [.ref rtape, .int (nI rlength), .int (nI rmostBytes), .int (nI rplaceG_61), .int rkindG_62, .int (nI rbeginG_63), .int rwordG_64, .int rnumberG_65, .long rlettersG_66, .int rfaultKindG_67, .int rfaultPlaceG_68])), (rtape, .inl (ky 2, 940, .inl rtapeF)), (bk, .inr (0, [.ref blines, .int (nI blineCountG_88), .int blived, .int bwhyWrong, .int bfineLines, .int bdayThen, .int beatenThen])), (blines, .inl (ky 0, 160, .inl blinesG_89))] H := hP
        have hD : va_D A [(reader, .inr (5, [.ref rtape, .int (nI rlength), .int (nI rmostBytes), .int (nI rplaceG_61), .int rkindG_62, .int (nI rbeginG_63), .int rwordG_64, .int rnumberG_65, .long rlettersG_66, .int rfaultKindG_67, .int rfaultPlaceG_68])), (rtape, .inl (ky 2, 940, .inl rtapeF)), (bk, .inr (0, [.ref blines, .int (nI blineCountG_88), .int blived, .int bwhyWrong, .int bfineLines, .int bdayThen, .int beatenThen])), (blines, .inl (ky 0, 160, .inl blinesG_89))] := hD
        subst p90
        refine lv_if_eq (tgt := 209) hx hb dX0_readRest_202 (by decide) (fun c93 => absurd c93 (by decide)) (fun c93 => ?_)
        refine lv_iconst (v := nI 1) hx hb dX0_readRest_205 (by decide) ?_
        refine lv_goto (tgt := 210) hx hb dX0_readRest_206 (by decide) ?_
        rw [hQ]
        have hP9 := hP.sub (ws' := [(bk, .inr (0, [.ref blines, .int (nI blineCountG_88), .int blived, .int bwhyWrong, .int bfineLines, .int bdayThen, .int beatenThen])), (blines, .inl (ky 0, 160, .inl blinesG_89)), (reader, .inr (5, [.ref rtape, .int (nI rlength), .int (nI rmostBytes), .int (nI rplaceG_61), .int rkindG_62, .int (nI rbeginG_63), .int rwordG_64, .int rnumberG_65, .long rlettersG_66, .int rfaultKindG_67, .int rfaultPlaceG_68])), (rtape, .inl (ky 2, 940, .inl rtapeF))]) [2, 3, 0, 1] rfl
        have hD9 := hD.sub (ws' := [(bk, .inr (0, [.ref blines, .int (nI blineCountG_88), .int blived, .int bwhyWrong, .int bfineLines, .int bdayThen, .int beatenThen])), (blines, .inl (ky 0, 160, .inl blinesG_89)), (reader, .inr (5, [.ref rtape, .int (nI rlength), .int (nI rmostBytes), .int (nI rplaceG_61), .int rkindG_62, .int (nI rbeginG_63), .int rwordG_64, .int rnumberG_65, .long rlettersG_66, .int rfaultKindG_67, .int rfaultPlaceG_68])), (rtape, .inl (ky 2, 940, .inl rtapeF))]) [2, 3, 0, 1] (by decide) rfl
        exact W.zret (v := nI 1) hx hb hr (by decide) (fun t9 ht9 hW9 => ⟨⟨nI 1, (blineCountG_88, blinesG_89, rplaceG_61, rkindG_62, rbeginG_63, rwordG_64, rnumberG_65, rlettersG_66, rfaultKindG_67, rfaultPlaceG_68), rfl, ⟨(lf_f_rest2_13 blineCount bt rlength rmostBytes rplace rkind rbegin rword rnumber rletters rfaultKind rfaultPlace rtapeF gp rplaceG_4 rkindG_5 rbeginG_6 rwordG_7 rnumberG_8 rlettersG_9 rfaultKindG_10 rfaultPlaceG_11 k15 rplaceG_33 rkindG_34 rbeginG_35 rwordG_36 rnumberG_37 rlettersG_38 rfaultKindG_39 rfaultPlaceG_40 k44 rplaceG_61 rkindG_62 rbeginG_63 rwordG_64 rnumberG_65 rlettersG_66 rfaultKindG_67 rfaultPlaceG_68 k72 blineCountG_88 iv_bbk_0 iv_rreader_0 iv_rreader_1 iv_rreader_2 iv_rreader_3 hTC hRT hl9 p13 p14 h17 h18 h19 h20 h21 h22 p42 p43 h46 h47 h48 h49 h50 h51 p70 p71 h74 h75 h76 h77 h78 h79 p91 p92), p91, p70, p71⟩, by rw [ht9]; exact hP9, va_K.moved hW9.alike hK, hD9⟩, hS.F ht9⟩) hS.2.2 dX0_readRest_210
set_option maxRecDepth 20000 in
theorem lf_f_rest3_1   : 0 ≤ 10 := by
  try simp only [ia_lt, ia_le, ia_eq, ia_m1, ia_0, ia_1, ne_eq, true_and, and_true, false_and, and_false, or_false, false_or, or_true, true_or, not_true_eq_false, not_false_eq_true] at *
  all_goals omega
set_option maxRecDepth 20000 in
theorem lf_f_rest3_2   : 5 ≤ 1000 := by
  try simp only [ia_lt, ia_le, ia_eq, ia_m1, ia_0, ia_1, ne_eq, true_and, and_true, false_and, and_false, or_false, false_or, or_true, true_or, not_true_eq_false, not_false_eq_true] at *
  all_goals omega
set_option maxRecDepth 20000 in
theorem lf_f_rest3_3 (blineCount : Nat) (bt : Nat → Nat) (rlength : Nat) (rmostBytes : Nat) (rplace : Nat) (rkind : Int32) (rbegin : Nat) (rword : Int32) (rnumber : Int32) (rletters : Int64) (rfaultKind : Int32) (rfaultPlace : Int32) (rtapeF : Nat → Int32) (gp : Nat) (rplaceG_4 : Nat) (rkindG_5 : Int32) (rbeginG_6 : Nat) (rwordG_7 : Int32) (rnumberG_8 : Int32) (rlettersG_9 : Int64) (rfaultKindG_10 : Int32) (rfaultPlaceG_11 : Int32) (iv_bbk_0 : blineCount ≤ 40) (iv_rreader_0 : rlength ≤ 940) (iv_rreader_1 : rplace ≤ rlength) (iv_rreader_2 : rmostBytes ≤ 900) (iv_rreader_3 : rbegin ≤ 940) (hTC : TC bt rtapeF) (hRT : RT bt rlength rmostBytes gp rkind rbegin rplace rword rnumber rletters) (hl9 : blineCount < 40) (p13 : rplaceG_4 ≤ rlength) (p14 : rbeginG_6 ≤ 940) (t23 : pNum bt rlength rmostBytes 0 5 gp = .error (nER bt rlength rmostBytes gp, tF bt rlength rmostBytes gp)) (t24 : rfaultKindG_10 = nI (nER bt rlength rmostBytes gp)) (t25 : rfaultPlaceG_11 = nI (tF bt rlength rmostBytes gp)) : ((nI 0) = nI 1 ∧ (isO (bRest bt rlength rmostBytes 17 gp) = true ∧ RT bt rlength rmostBytes (okV (bRest bt rlength rmostBytes 17 gp)) rkindG_5 rbeginG_6 rplaceG_4 rwordG_7 rnumberG_8 rlettersG_9 ∧ blineCount = blineCount + 1 ∧ rfaultKindG_10 = rfaultKind ∧ rfaultPlaceG_11 = rfaultPlace)) ∨ ((nI 0) = nI 0 ∧ (isO (bRest bt rlength rmostBytes 17 gp) = false ∧ rfaultKindG_10 = nI (erA (bRest bt rlength rmostBytes 17 gp)) ∧ rfaultPlaceG_11 = nI (erB (bRest bt rlength rmostBytes 17 gp)))) := by
  rw [br_17, p3_1 (by assumption)]
  exact Or.inr ⟨rfl, rfl, ‹_›, ‹_›⟩
set_option maxRecDepth 20000 in
theorem lf_f_rest3_4 (bt : Nat → Nat) (rlength : Nat) (rmostBytes : Nat) (rplace : Nat) (rkind : Int32) (rbegin : Nat) (rword : Int32) (rnumber : Int32) (rletters : Int64) (rtapeF : Nat → Int32) (gp : Nat) (rplaceG_4 : Nat) (rkindG_5 : Int32) (rbeginG_6 : Nat) (rwordG_7 : Int32) (rnumberG_8 : Int32) (rlettersG_9 : Int64) (k15 : Nat) (iv_rreader_0 : rlength ≤ 940) (iv_rreader_1 : rplace ≤ rlength) (iv_rreader_2 : rmostBytes ≤ 900) (iv_rreader_3 : rbegin ≤ 940) (hTC : TC bt rtapeF) (hRT : RT bt rlength rmostBytes gp rkind rbegin rplace rword rnumber rletters) (p13 : rplaceG_4 ≤ rlength) (p14 : rbeginG_6 ≤ 940) (h17 : pNum bt rlength rmostBytes 0 5 gp = .ok k15) (h18 : 0 ≤ k15) (h19 : k15 ≤ 5) (h20 : RT bt rlength rmostBytes (tT bt rlength rmostBytes gp) rkindG_5 rbeginG_6 rplaceG_4 rwordG_7 rnumberG_8 rlettersG_9) : k15 < 2147483648 := by
  have b_rkind := ia_b rkind
  have b_rword := ia_b rword
  have b_rnumber := ia_b rnumber
  have b_rkindG_5 := ia_b rkindG_5
  have b_rwordG_7 := ia_b rwordG_7
  have b_rnumberG_8 := ia_b rnumberG_8
  have b_rletters := Int64.toInt_lt rletters
  have b_rlettersG_9 := Int64.toInt_lt rlettersG_9
  try simp only [ia_lt, ia_le, ia_eq, ia_m1, ia_0, ia_1, ne_eq, true_and, and_true, false_and, and_false, or_false, false_or, or_true, true_or, not_true_eq_false, not_false_eq_true] at *
  all_goals omega
set_option maxRecDepth 20000 in
theorem lf_f_rest3_5   : 0 ≤ 10 := by
  try simp only [ia_lt, ia_le, ia_eq, ia_m1, ia_0, ia_1, ne_eq, true_and, and_true, false_and, and_false, or_false, false_or, or_true, true_or, not_true_eq_false, not_false_eq_true] at *
  all_goals omega
set_option maxRecDepth 20000 in
theorem lf_f_rest3_6   : 5 ≤ 1000 := by
  try simp only [ia_lt, ia_le, ia_eq, ia_m1, ia_0, ia_1, ne_eq, true_and, and_true, false_and, and_false, or_false, false_or, or_true, true_or, not_true_eq_false, not_false_eq_true] at *
  all_goals omega
set_option maxRecDepth 20000 in
theorem lf_f_rest3_7 (blineCount : Nat) (bt : Nat → Nat) (rlength : Nat) (rmostBytes : Nat) (rplace : Nat) (rkind : Int32) (rbegin : Nat) (rword : Int32) (rnumber : Int32) (rletters : Int64) (rfaultKind : Int32) (rfaultPlace : Int32) (rtapeF : Nat → Int32) (gp : Nat) (rplaceG_4 : Nat) (rkindG_5 : Int32) (rbeginG_6 : Nat) (rwordG_7 : Int32) (rnumberG_8 : Int32) (rlettersG_9 : Int64) (rfaultKindG_10 : Int32) (rfaultPlaceG_11 : Int32) (k15 : Nat) (rplaceG_33 : Nat) (rkindG_34 : Int32) (rbeginG_35 : Nat) (rwordG_36 : Int32) (rnumberG_37 : Int32) (rlettersG_38 : Int64) (rfaultKindG_39 : Int32) (rfaultPlaceG_40 : Int32) (iv_bbk_0 : blineCount ≤ 40) (iv_rreader_0 : rlength ≤ 940) (iv_rreader_1 : rplace ≤ rlength) (iv_rreader_2 : rmostBytes ≤ 900) (iv_rreader_3 : rbegin ≤ 940) (hTC : TC bt rtapeF) (hRT : RT bt rlength rmostBytes gp rkind rbegin rplace rword rnumber rletters) (hl9 : blineCount < 40) (p13 : rplaceG_4 ≤ rlength) (p14 : rbeginG_6 ≤ 940) (h17 : pNum bt rlength rmostBytes 0 5 gp = .ok k15) (h18 : 0 ≤ k15) (h19 : k15 ≤ 5) (h20 : RT bt rlength rmostBytes (tT bt rlength rmostBytes gp) rkindG_5 rbeginG_6 rplaceG_4 rwordG_7 rnumberG_8 rlettersG_9) (h21 : rfaultKindG_10 = rfaultKind) (h22 : rfaultPlaceG_11 = rfaultPlace) (p42 : rplaceG_33 ≤ rlength) (p43 : rbeginG_35 ≤ 940) (t52 : pNum bt rlength rmostBytes 0 5 (tT bt rlength rmostBytes gp) = .error (nER bt rlength rmostBytes (tT bt rlength rmostBytes gp), tF bt rlength rmostBytes (tT bt rlength rmostBytes gp))) (t53 : rfaultKindG_39 = nI (nER bt rlength rmostBytes (tT bt rlength rmostBytes gp))) (t54 : rfaultPlaceG_40 = nI (tF bt rlength rmostBytes (tT bt rlength rmostBytes gp))) : ((nI 0) = nI 1 ∧ (isO (bRest bt rlength rmostBytes 17 gp) = true ∧ RT bt rlength rmostBytes (okV (bRest bt rlength rmostBytes 17 gp)) rkindG_34 rbeginG_35 rplaceG_33 rwordG_36 rnumberG_37 rlettersG_38 ∧ blineCount = blineCount + 1 ∧ rfaultKindG_39 = rfaultKind ∧ rfaultPlaceG_40 = rfaultPlace)) ∨ ((nI 0) = nI 0 ∧ (isO (bRest bt rlength rmostBytes 17 gp) = false ∧ rfaultKindG_39 = nI (erA (bRest bt rlength rmostBytes 17 gp)) ∧ rfaultPlaceG_40 = nI (erB (bRest bt rlength rmostBytes 17 gp)))) := by
  rw [br_17, p3_2 (by assumption) (by assumption)]
  exact Or.inr ⟨rfl, rfl, ‹_›, ‹_›⟩
set_option maxRecDepth 20000 in
theorem lf_f_rest3_8 (bt : Nat → Nat) (rlength : Nat) (rmostBytes : Nat) (rplace : Nat) (rkind : Int32) (rbegin : Nat) (rword : Int32) (rnumber : Int32) (rletters : Int64) (rtapeF : Nat → Int32) (gp : Nat) (rplaceG_4 : Nat) (rkindG_5 : Int32) (rbeginG_6 : Nat) (rwordG_7 : Int32) (rnumberG_8 : Int32) (rlettersG_9 : Int64) (k15 : Nat) (rplaceG_33 : Nat) (rkindG_34 : Int32) (rbeginG_35 : Nat) (rwordG_36 : Int32) (rnumberG_37 : Int32) (rlettersG_38 : Int64) (k44 : Nat) (iv_rreader_0 : rlength ≤ 940) (iv_rreader_1 : rplace ≤ rlength) (iv_rreader_2 : rmostBytes ≤ 900) (iv_rreader_3 : rbegin ≤ 940) (hTC : TC bt rtapeF) (hRT : RT bt rlength rmostBytes gp rkind rbegin rplace rword rnumber rletters) (p13 : rplaceG_4 ≤ rlength) (p14 : rbeginG_6 ≤ 940) (h17 : pNum bt rlength rmostBytes 0 5 gp = .ok k15) (h18 : 0 ≤ k15) (h19 : k15 ≤ 5) (h20 : RT bt rlength rmostBytes (tT bt rlength rmostBytes gp) rkindG_5 rbeginG_6 rplaceG_4 rwordG_7 rnumberG_8 rlettersG_9) (p42 : rplaceG_33 ≤ rlength) (p43 : rbeginG_35 ≤ 940) (h46 : pNum bt rlength rmostBytes 0 5 (tT bt rlength rmostBytes gp) = .ok k44) (h47 : 0 ≤ k44) (h48 : k44 ≤ 5) (h49 : RT bt rlength rmostBytes (tT bt rlength rmostBytes (tT bt rlength rmostBytes gp)) rkindG_34 rbeginG_35 rplaceG_33 rwordG_36 rnumberG_37 rlettersG_38) : k44 < 2147483648 := by
  have b_rkind := ia_b rkind
  have b_rword := ia_b rword
  have b_rnumber := ia_b rnumber
  have b_rkindG_5 := ia_b rkindG_5
  have b_rwordG_7 := ia_b rwordG_7
  have b_rnumberG_8 := ia_b rnumberG_8
  have b_rkindG_34 := ia_b rkindG_34
  have b_rwordG_36 := ia_b rwordG_36
  have b_rnumberG_37 := ia_b rnumberG_37
  have b_rletters := Int64.toInt_lt rletters
  have b_rlettersG_9 := Int64.toInt_lt rlettersG_9
  have b_rlettersG_38 := Int64.toInt_lt rlettersG_38
  try simp only [ia_lt, ia_le, ia_eq, ia_m1, ia_0, ia_1, ne_eq, true_and, and_true, false_and, and_false, or_false, false_or, or_true, true_or, not_true_eq_false, not_false_eq_true] at *
  all_goals omega
set_option maxRecDepth 20000 in
theorem lf_f_rest3_9   : 1 ≤ 10 := by
  try simp only [ia_lt, ia_le, ia_eq, ia_m1, ia_0, ia_1, ne_eq, true_and, and_true, false_and, and_false, or_false, false_or, or_true, true_or, not_true_eq_false, not_false_eq_true] at *
  all_goals omega
set_option maxRecDepth 20000 in
theorem lf_f_rest3_10   : 9 ≤ 1000 := by
  try simp only [ia_lt, ia_le, ia_eq, ia_m1, ia_0, ia_1, ne_eq, true_and, and_true, false_and, and_false, or_false, false_or, or_true, true_or, not_true_eq_false, not_false_eq_true] at *
  all_goals omega
set_option maxRecDepth 20000 in
theorem lf_f_rest3_11 (blineCount : Nat) (bt : Nat → Nat) (rlength : Nat) (rmostBytes : Nat) (rplace : Nat) (rkind : Int32) (rbegin : Nat) (rword : Int32) (rnumber : Int32) (rletters : Int64) (rfaultKind : Int32) (rfaultPlace : Int32) (rtapeF : Nat → Int32) (gp : Nat) (rplaceG_4 : Nat) (rkindG_5 : Int32) (rbeginG_6 : Nat) (rwordG_7 : Int32) (rnumberG_8 : Int32) (rlettersG_9 : Int64) (rfaultKindG_10 : Int32) (rfaultPlaceG_11 : Int32) (k15 : Nat) (rplaceG_33 : Nat) (rkindG_34 : Int32) (rbeginG_35 : Nat) (rwordG_36 : Int32) (rnumberG_37 : Int32) (rlettersG_38 : Int64) (rfaultKindG_39 : Int32) (rfaultPlaceG_40 : Int32) (k44 : Nat) (rplaceG_61 : Nat) (rkindG_62 : Int32) (rbeginG_63 : Nat) (rwordG_64 : Int32) (rnumberG_65 : Int32) (rlettersG_66 : Int64) (rfaultKindG_67 : Int32) (rfaultPlaceG_68 : Int32) (iv_bbk_0 : blineCount ≤ 40) (iv_rreader_0 : rlength ≤ 940) (iv_rreader_1 : rplace ≤ rlength) (iv_rreader_2 : rmostBytes ≤ 900) (iv_rreader_3 : rbegin ≤ 940) (hTC : TC bt rtapeF) (hRT : RT bt rlength rmostBytes gp rkind rbegin rplace rword rnumber rletters) (hl9 : blineCount < 40) (p13 : rplaceG_4 ≤ rlength) (p14 : rbeginG_6 ≤ 940) (h17 : pNum bt rlength rmostBytes 0 5 gp = .ok k15) (h18 : 0 ≤ k15) (h19 : k15 ≤ 5) (h20 : RT bt rlength rmostBytes (tT bt rlength rmostBytes gp) rkindG_5 rbeginG_6 rplaceG_4 rwordG_7 rnumberG_8 rlettersG_9) (h21 : rfaultKindG_10 = rfaultKind) (h22 : rfaultPlaceG_11 = rfaultPlace) (p42 : rplaceG_33 ≤ rlength) (p43 : rbeginG_35 ≤ 940) (h46 : pNum bt rlength rmostBytes 0 5 (tT bt rlength rmostBytes gp) = .ok k44) (h47 : 0 ≤ k44) (h48 : k44 ≤ 5) (h49 : RT bt rlength rmostBytes (tT bt rlength rmostBytes (tT bt rlength rmostBytes gp)) rkindG_34 rbeginG_35 rplaceG_33 rwordG_36 rnumberG_37 rlettersG_38) (h50 : rfaultKindG_39 = rfaultKindG_10) (h51 : rfaultPlaceG_40 = rfaultPlaceG_11) (p70 : rplaceG_61 ≤ rlength) (p71 : rbeginG_63 ≤ 940) (t80 : pNum bt rlength rmostBytes 1 9 (tT bt rlength rmostBytes (tT bt rlength rmostBytes gp)) = .error (nER bt rlength rmostBytes (tT bt rlength rmostBytes (tT bt rlength rmostBytes gp)), tF bt rlength rmostBytes (tT bt rlength rmostBytes (tT bt rlength rmostBytes gp)))) (t81 : rfaultKindG_67 = nI (nER bt rlength rmostBytes (tT bt rlength rmostBytes (tT bt rlength rmostBytes gp)))) (t82 : rfaultPlaceG_68 = nI (tF bt rlength rmostBytes (tT bt rlength rmostBytes (tT bt rlength rmostBytes gp)))) : ((nI 0) = nI 1 ∧ (isO (bRest bt rlength rmostBytes 17 gp) = true ∧ RT bt rlength rmostBytes (okV (bRest bt rlength rmostBytes 17 gp)) rkindG_62 rbeginG_63 rplaceG_61 rwordG_64 rnumberG_65 rlettersG_66 ∧ blineCount = blineCount + 1 ∧ rfaultKindG_67 = rfaultKind ∧ rfaultPlaceG_68 = rfaultPlace)) ∨ ((nI 0) = nI 0 ∧ (isO (bRest bt rlength rmostBytes 17 gp) = false ∧ rfaultKindG_67 = nI (erA (bRest bt rlength rmostBytes 17 gp)) ∧ rfaultPlaceG_68 = nI (erB (bRest bt rlength rmostBytes 17 gp)))) := by
  rw [br_17, p3_3 (by assumption) (by assumption) (by assumption)]
  exact Or.inr ⟨rfl, rfl, ‹_›, ‹_›⟩
set_option maxRecDepth 20000 in
theorem lf_f_rest3_12 (bt : Nat → Nat) (rlength : Nat) (rmostBytes : Nat) (rplace : Nat) (rkind : Int32) (rbegin : Nat) (rword : Int32) (rnumber : Int32) (rletters : Int64) (rtapeF : Nat → Int32) (gp : Nat) (rplaceG_4 : Nat) (rkindG_5 : Int32) (rbeginG_6 : Nat) (rwordG_7 : Int32) (rnumberG_8 : Int32) (rlettersG_9 : Int64) (k15 : Nat) (rplaceG_33 : Nat) (rkindG_34 : Int32) (rbeginG_35 : Nat) (rwordG_36 : Int32) (rnumberG_37 : Int32) (rlettersG_38 : Int64) (k44 : Nat) (rplaceG_61 : Nat) (rkindG_62 : Int32) (rbeginG_63 : Nat) (rwordG_64 : Int32) (rnumberG_65 : Int32) (rlettersG_66 : Int64) (k72 : Nat) (iv_rreader_0 : rlength ≤ 940) (iv_rreader_1 : rplace ≤ rlength) (iv_rreader_2 : rmostBytes ≤ 900) (iv_rreader_3 : rbegin ≤ 940) (hTC : TC bt rtapeF) (hRT : RT bt rlength rmostBytes gp rkind rbegin rplace rword rnumber rletters) (p13 : rplaceG_4 ≤ rlength) (p14 : rbeginG_6 ≤ 940) (h17 : pNum bt rlength rmostBytes 0 5 gp = .ok k15) (h18 : 0 ≤ k15) (h19 : k15 ≤ 5) (h20 : RT bt rlength rmostBytes (tT bt rlength rmostBytes gp) rkindG_5 rbeginG_6 rplaceG_4 rwordG_7 rnumberG_8 rlettersG_9) (p42 : rplaceG_33 ≤ rlength) (p43 : rbeginG_35 ≤ 940) (h46 : pNum bt rlength rmostBytes 0 5 (tT bt rlength rmostBytes gp) = .ok k44) (h47 : 0 ≤ k44) (h48 : k44 ≤ 5) (h49 : RT bt rlength rmostBytes (tT bt rlength rmostBytes (tT bt rlength rmostBytes gp)) rkindG_34 rbeginG_35 rplaceG_33 rwordG_36 rnumberG_37 rlettersG_38) (p70 : rplaceG_61 ≤ rlength) (p71 : rbeginG_63 ≤ 940) (h74 : pNum bt rlength rmostBytes 1 9 (tT bt rlength rmostBytes (tT bt rlength rmostBytes gp)) = .ok k72) (h75 : 1 ≤ k72) (h76 : k72 ≤ 9) (h77 : RT bt rlength rmostBytes (tT bt rlength rmostBytes (tT bt rlength rmostBytes (tT bt rlength rmostBytes gp))) rkindG_62 rbeginG_63 rplaceG_61 rwordG_64 rnumberG_65 rlettersG_66) : k72 < 2147483648 := by
  have b_rkind := ia_b rkind
  have b_rword := ia_b rword
  have b_rnumber := ia_b rnumber
  have b_rkindG_5 := ia_b rkindG_5
  have b_rwordG_7 := ia_b rwordG_7
  have b_rnumberG_8 := ia_b rnumberG_8
  have b_rkindG_34 := ia_b rkindG_34
  have b_rwordG_36 := ia_b rwordG_36
  have b_rnumberG_37 := ia_b rnumberG_37
  have b_rkindG_62 := ia_b rkindG_62
  have b_rwordG_64 := ia_b rwordG_64
  have b_rnumberG_65 := ia_b rnumberG_65
  have b_rletters := Int64.toInt_lt rletters
  have b_rlettersG_9 := Int64.toInt_lt rlettersG_9
  have b_rlettersG_38 := Int64.toInt_lt rlettersG_38
  have b_rlettersG_66 := Int64.toInt_lt rlettersG_66
  try simp only [ia_lt, ia_le, ia_eq, ia_m1, ia_0, ia_1, ne_eq, true_and, and_true, false_and, and_false, or_false, false_or, or_true, true_or, not_true_eq_false, not_false_eq_true] at *
  all_goals omega
set_option maxRecDepth 20000 in
theorem lf_f_rest3_13 (blineCount : Nat) (bt : Nat → Nat) (rlength : Nat) (rmostBytes : Nat) (rplace : Nat) (rkind : Int32) (rbegin : Nat) (rword : Int32) (rnumber : Int32) (rletters : Int64) (rfaultKind : Int32) (rfaultPlace : Int32) (rtapeF : Nat → Int32) (gp : Nat) (rplaceG_4 : Nat) (rkindG_5 : Int32) (rbeginG_6 : Nat) (rwordG_7 : Int32) (rnumberG_8 : Int32) (rlettersG_9 : Int64) (rfaultKindG_10 : Int32) (rfaultPlaceG_11 : Int32) (k15 : Nat) (rplaceG_33 : Nat) (rkindG_34 : Int32) (rbeginG_35 : Nat) (rwordG_36 : Int32) (rnumberG_37 : Int32) (rlettersG_38 : Int64) (rfaultKindG_39 : Int32) (rfaultPlaceG_40 : Int32) (k44 : Nat) (rplaceG_61 : Nat) (rkindG_62 : Int32) (rbeginG_63 : Nat) (rwordG_64 : Int32) (rnumberG_65 : Int32) (rlettersG_66 : Int64) (rfaultKindG_67 : Int32) (rfaultPlaceG_68 : Int32) (k72 : Nat) (blineCountG_88 : Nat) (iv_bbk_0 : blineCount ≤ 40) (iv_rreader_0 : rlength ≤ 940) (iv_rreader_1 : rplace ≤ rlength) (iv_rreader_2 : rmostBytes ≤ 900) (iv_rreader_3 : rbegin ≤ 940) (hTC : TC bt rtapeF) (hRT : RT bt rlength rmostBytes gp rkind rbegin rplace rword rnumber rletters) (hl9 : blineCount < 40) (p13 : rplaceG_4 ≤ rlength) (p14 : rbeginG_6 ≤ 940) (h17 : pNum bt rlength rmostBytes 0 5 gp = .ok k15) (h18 : 0 ≤ k15) (h19 : k15 ≤ 5) (h20 : RT bt rlength rmostBytes (tT bt rlength rmostBytes gp) rkindG_5 rbeginG_6 rplaceG_4 rwordG_7 rnumberG_8 rlettersG_9) (h21 : rfaultKindG_10 = rfaultKind) (h22 : rfaultPlaceG_11 = rfaultPlace) (p42 : rplaceG_33 ≤ rlength) (p43 : rbeginG_35 ≤ 940) (h46 : pNum bt rlength rmostBytes 0 5 (tT bt rlength rmostBytes gp) = .ok k44) (h47 : 0 ≤ k44) (h48 : k44 ≤ 5) (h49 : RT bt rlength rmostBytes (tT bt rlength rmostBytes (tT bt rlength rmostBytes gp)) rkindG_34 rbeginG_35 rplaceG_33 rwordG_36 rnumberG_37 rlettersG_38) (h50 : rfaultKindG_39 = rfaultKindG_10) (h51 : rfaultPlaceG_40 = rfaultPlaceG_11) (p70 : rplaceG_61 ≤ rlength) (p71 : rbeginG_63 ≤ 940) (h74 : pNum bt rlength rmostBytes 1 9 (tT bt rlength rmostBytes (tT bt rlength rmostBytes gp)) = .ok k72) (h75 : 1 ≤ k72) (h76 : k72 ≤ 9) (h77 : RT bt rlength rmostBytes (tT bt rlength rmostBytes (tT bt rlength rmostBytes (tT bt rlength rmostBytes gp))) rkindG_62 rbeginG_63 rplaceG_61 rwordG_64 rnumberG_65 rlettersG_66) (h78 : rfaultKindG_67 = rfaultKindG_39) (h79 : rfaultPlaceG_68 = rfaultPlaceG_40) (p91 : blineCountG_88 ≤ 40) (p92 : blineCountG_88 = blineCount + 1) : ((nI 1) = nI 1 ∧ (isO (bRest bt rlength rmostBytes 17 gp) = true ∧ RT bt rlength rmostBytes (okV (bRest bt rlength rmostBytes 17 gp)) rkindG_62 rbeginG_63 rplaceG_61 rwordG_64 rnumberG_65 rlettersG_66 ∧ blineCountG_88 = blineCount + 1 ∧ rfaultKindG_67 = rfaultKind ∧ rfaultPlaceG_68 = rfaultPlace)) ∨ ((nI 1) = nI 0 ∧ (isO (bRest bt rlength rmostBytes 17 gp) = false ∧ rfaultKindG_67 = nI (erA (bRest bt rlength rmostBytes 17 gp)) ∧ rfaultPlaceG_68 = nI (erB (bRest bt rlength rmostBytes 17 gp)))) := by
  rw [br_17, p3_o (by assumption) (by assumption) (by assumption)]
  exact Or.inl ⟨rfl, rfl, ‹_›, (by first | rfl | assumption | (subst_vars; rfl) | (subst_vars; assumption)), (by first | rfl | assumption | (subst_vars; rfl) | (subst_vars; assumption)), (by first | rfl | assumption | (subst_vars; rfl) | (subst_vars; assumption))⟩
set_option maxHeartbeats 4000000 in
set_option maxRecDepth 100000 in
theorem c_f_rest3 (l : Launch) (dC : Nat → ClassId) (dI : Nat → Nat → Nat) (ky : Nat → ClassId) (sz : Nat) (adK : Nat → Nat) (adV : Nat → Nat) (bk : Nat) (blines : Nat) (blineCount : Nat) (blived : Int32) (bwhyWrong : Int32) (bfineLines : Int32) (bdayThen : Int32) (beatenThen : Int32) (blinesF : Nat → Int32) (bt : Nat → Nat) (reader : Nat) (rtape : Nat) (rlength : Nat) (rmostBytes : Nat) (rplace : Nat) (rkind : Int32) (rbegin : Nat) (rword : Int32) (rnumber : Int32) (rletters : Int64) (rfaultKind : Int32) (rfaultPlace : Int32) (rtapeF : Nat → Int32) (gp : Nat) (y : Int32) (iv_bbk_0 : blineCount ≤ 40) (iv_rreader_0 : rlength ≤ 940) (iv_rreader_1 : rplace ≤ rlength) (iv_rreader_2 : rmostBytes ≤ 900) (iv_rreader_3 : rbegin ≤ 940) (hTC : TC bt rtapeF) (hRT : RT bt rlength rmostBytes gp rkind rbegin rplace rword rnumber rletters) (hl9 : blineCount < 40) : Met l yX0_readRest wsX0_readRest ({ frames := 7, cells := 0, slots := 0, locals := 154 }) (PcUE dC dI ky adK adV [.ref bk, .ref reader, .int (nI 3), .int y] [(bk, .inr (0, [.ref blines, .int (nI blineCount), .int blived, .int bwhyWrong, .int bfineLines, .int bdayThen, .int beatenThen])), (blines, .inl (ky 0, 160, .inl blinesF)), (reader, .inr (5, [.ref rtape, .int (nI rlength), .int (nI rmostBytes), .int (nI rplace), .int rkind, .int (nI rbegin), .int rword, .int rnumber, .long rletters, .int rfaultKind, .int rfaultPlace])), (rtape, .inl (ky 2, 940, .inl rtapeF))] sz) (va_Qi (fun (r : Int32) (u : Nat × (Nat → Int32) × Nat × Int32 × Nat × Int32 × Int32 × Int64 × Int32 × Int32) => match u with | (blineCountG, blinesG, rplaceG, rkindG, rbeginG, rwordG, rnumberG, rlettersG, rfaultKindG, rfaultPlaceG) => ((r = nI 1 ∧ (isO (bRest bt rlength rmostBytes 17 gp) = true ∧ RT bt rlength rmostBytes (okV (bRest bt rlength rmostBytes 17 gp)) rkindG rbeginG rplaceG rwordG rnumberG rlettersG ∧ blineCountG = blineCount + 1 ∧ rfaultKindG = rfaultKind ∧ rfaultPlaceG = rfaultPlace)) ∨ (r = nI 0 ∧ (isO (bRest bt rlength rmostBytes 17 gp) = false ∧ rfaultKindG = nI (erA (bRest bt rlength rmostBytes 17 gp)) ∧ rfaultPlaceG = nI (erB (bRest bt rlength rmostBytes 17 gp))))) ∧ (blineCountG ≤ 40) ∧ (rplaceG ≤ rlength) ∧ (rbeginG ≤ 940)) (BU dC dI ky (fun (u : Nat × (Nat → Int32) × Nat × Int32 × Nat × Int32 × Int32 × Int64 × Int32 × Int32) => match u with | (blineCountG, blinesG, rplaceG, rkindG, rbeginG, rwordG, rnumberG, rlettersG, rfaultKindG, rfaultPlaceG) => [(bk, .inr (0, [.ref blines, .int (nI blineCountG), .int blived, .int bwhyWrong, .int bfineLines, .int bdayThen, .int beatenThen])), (blines, .inl (ky 0, 160, .inl blinesG)), (reader, .inr (5, [.ref rtape, .int (nI rlength), .int (nI rmostBytes), .int (nI rplaceG), .int rkindG, .int (nI rbeginG), .int rwordG, .int rnumberG, .long rlettersG, .int rfaultKindG, .int rfaultPlaceG])), (rtape, .inl (ky 2, 940, .inl rtapeF))]) (va_A [(bk, .inr (0, [.ref blines, .int (nI blineCount), .int blived, .int bwhyWrong, .int bfineLines, .int bdayThen, .int beatenThen])), (blines, .inl (ky 0, 160, .inl blinesF)), (reader, .inr (5, [.ref rtape, .int (nI rlength), .int (nI rmostBytes), .int (nI rplace), .int rkind, .int (nI rbegin), .int rword, .int rnumber, .long rletters, .int rfaultKind, .int rfaultPlace])), (rtape, .inl (ky 2, 940, .inl rtapeF))] sz)) (va_A [(bk, .inr (0, [.ref blines, .int (nI blineCount), .int blived, .int bwhyWrong, .int bfineLines, .int bdayThen, .int beatenThen])), (blines, .inl (ky 0, 160, .inl blinesF)), (reader, .inr (5, [.ref rtape, .int (nI rlength), .int (nI rmostBytes), .int (nI rplace), .int rkind, .int (nI rbegin), .int rword, .int rnumber, .long rletters, .int rfaultKind, .int rfaultPlace])), (rtape, .inl (ky 2, 940, .inl rtapeF))] sz)) 0 0 (va_A [(bk, .inr (0, [.ref blines, .int (nI blineCount), .int blived, .int bwhyWrong, .int bfineLines, .int bdayThen, .int beatenThen])), (blines, .inl (ky 0, 160, .inl blinesF)), (reader, .inr (5, [.ref rtape, .int (nI rlength), .int (nI rmostBytes), .int (nI rplace), .int rkind, .int (nI rbegin), .int rword, .int rnumber, .long rletters, .int rfaultKind, .int rfaultPlace])), (rtape, .inl (ky 2, 940, .inl rtapeF))] sz) := by
  refine Met.ofW (cc := cX0_readRest) (maxL := 12) (ret := (some .boolean)) (by decide) rfl ?_
  intro p e s m args below meth c s₁ B hml hv
  obtain ⟨rfl, hsz, hP, hK, hD0, hE⟩ := hv
  have hx := B.exec
  have hb := B.bytes
  have hr := B.returns
  have hts := atoms_spec (ws := wsX0_readRest) B.pre
  have hown : s.vm.findClass RX0 = some m.cls := findClass_of_methodNamed B.named
  have hlocks := B.notSynchronized
  subst hsz
  have hD := hD0.self (sz := s.heap.size)
  generalize hAe : va_A [(bk, .inr (0, [.ref blines, .int (nI blineCount), .int blived, .int bwhyWrong, .int bfineLines, .int bdayThen, .int beatenThen])), (blines, .inl (ky 0, 160, .inl blinesF)), (reader, .inr (5, [.ref rtape, .int (nI rlength), .int (nI rmostBytes), .int (nI rplace), .int rkind, .int (nI rbegin), .int rword, .int rnumber, .long rletters, .int rfaultKind, .int rfaultPlace])), (rtape, .inl (ky 2, 940, .inl rtapeF))] s.heap.size = A at hD hE ⊢
  have hA : ∀ q : Nat, s.heap.size ≤ q → A q := fun q h => by rw [← hAe]; exact Or.inr h
  have hS : va_S A s.heap s.heap [] := va_S.rf
  have hl := lv_entry ([.ref bk, .ref reader, .int (nI 3), .int y]) (n := 12) (Nat.le_of_ble_eq_true rfl)
  rw [lg_entry_eq]
  generalize (lg_sl ([.ref bk, .ref reader, .int (nI 3), .int y]) ++ List.replicate (12 - (lg_sl ([.ref bk, .ref reader, .int (nI 3), .int y])).length) Slot.unset).toArray = ls at hl ⊢
  have hl : lv_has ls 12 [(0, .ref bk), (1, .ref reader), (2, .int (nI 3)), (3, .int y)] := hl
  refine q_name (fun Q hQ => ?_)
  generalize ([.ref bk, .ref reader, .int (nI 3), .int y] : List Value).toArray = args at hts hQ ⊢
  refine lv_iload_n hx hb dX0_readRest_0 rfl (lv_at hl 2 rfl) ?_
  refine lv_tableIn (off := 139) (tgt := 140) hx hb dX0_readRest_1 (by decide) (by decide) rfl (by decide) ?_
  refine lv_aload_n hx hb dX0_readRest_140 rfl (lv_at hl 1 rfl) ?_
  refine lv_iconst (v := nI 0) hx hb dX0_readRest_141 (by decide) ?_
  refine lv_iconst (v := nI 5) hx hb dX0_readRest_142 (by decide) ?_
  refine r_call_i (wr := [(bk, .inr (0, [.ref blines, .int (nI blineCount), .int blived, .int bwhyWrong, .int bfineLines, .int bdayThen, .int beatenThen])), (blines, .inl (ky 0, 160, .inl blinesF))]) (va_runV (As := [.int (nI 0), .int (nI 5)]) (rest := []) ⟨hx, hb, hml, hown, hts⟩ (c_f_takeNumber l dC dI ky s.heap.size adK adV bt reader rtape rlength rmostBytes rplace rkind rbegin rword rnumber rletters rfaultKind rfaultPlace rtapeF gp 0 5 iv_rreader_0 iv_rreader_1 iv_rreader_2 iv_rreader_3 hTC (lf_f_rest3_1) (lf_f_rest3_2) hRT) (cwV 2 hts gX0_readRest_X5_takeNumber rfl rfl rfl (by decide +kernel) ⟨(Nat.le_of_ble_eq_true rfl), (Nat.le_of_ble_eq_true rfl)⟩) (pre_UEV hE hS hA hK hP hD [2, 3] (by decide) rfl (va_recv hK hP (ci := 5) (q0 := 2) rfl rfl)) rfl rfl hl.1 rfl (lv_room (Nat.le_of_ble_eq_true rfl)) dX0_readRest_143 ⟨(Nat.le_of_ble_eq_true rfl), (Nat.le_of_ble_eq_true rfl)⟩) hP hD hS hA [2, 3] [0, 1] rfl rfl (by decide) (by decide) (fun r3 u1 H locs p2 hP hD hS => ?_)
  obtain ⟨rplaceG_4, rkindG_5, rbeginG_6, rwordG_7, rnumberG_8, rlettersG_9, rfaultKindG_10, rfaultPlaceG_11⟩ := u1
  try dsimp only at p2
  obtain ⟨p12, p13, p14⟩ := p2
  refine W.widen (k := 0) (n := 0) (Nat.le_of_ble_eq_true rfl) (Nat.le_of_ble_eq_true rfl) ?_
  have hP : va_P (dC, dI) vwCl [(bk, .inr (0, [.ref blines, .int (nI blineCount), .int blived, .int bwhyWrong, .int bfineLines, .int bdayThen, .int beatenThen])), (blines, .inl (ky 0, 160, .inl blinesF)), (reader, .inr (5, [.ref rtape, .int (nI rlength), .int (nI rmostBytes), .int (nI rplaceG_4), .int rkindG_5, .int (nI rbeginG_6), .int rwordG_7, .int rnumberG_8, .long rlettersG_9, .int rfaultKindG_10, .int rfaultPlaceG_11])), (rtape, .inl (ky 2, 940, .inl rtapeF))] H := hP
  have hD : va_D A [(bk, .inr (0, [.ref blines, .int (nI blineCount), .int blived, .int bwhyWrong, .int bfineLines, .int bdayThen, .int beatenThen])), (blines, .inl (ky 0, 160, .inl blinesF)), (reader, .inr (5, [.ref rtape, .int (nI rlength), .int (nI rmostBytes), .int (nI rplaceG_4), .int rkindG_5, .int (nI rbeginG_6), .int rwordG_7, .int rnumberG_8, .long rlettersG_9, .int rfaultKindG_10, .int rfaultPlaceG_11])), (rtape, .inl (ky 2, 940, .inl rtapeF))] := hD
  rcases p12 with ⟨rfl, t23, t24, t25⟩ | ⟨k15, ⟨h17, h18, h19, h20, h21, h22⟩, rfl⟩
  · refine lv_istore (lv' := [(8, .int (-1 : Int32)), (0, .ref bk), (1, .ref reader), (2, .int (nI 3)), (3, .int y)]) hx hb dX0_readRest_146 hl (by decide) rfl (fun ls hl => ?_)
    refine lv_iload hx hb dX0_readRest_148 (lv_at hl 0 rfl) ?_
    refine lv_iconst (v := (-1 : Int32)) hx hb dX0_readRest_150 (by decide) ?_
    refine lv_icmp_ne (tgt := 158) hx hb dX0_readRest_151 (by decide) (fun c26 => absurd c26 (by decide)) (fun c26 => ?_)
    refine lv_iconst (v := (-1 : Int32)) hx hb dX0_readRest_154 (by decide) ?_
    refine lv_goto (tgt := 164) hx hb dX0_readRest_155 (by decide) ?_
    refine lv_istore (lv' := [(9, .int (-1 : Int32)), (8, .int (-1 : Int32)), (0, .ref bk), (1, .ref reader), (2, .int (nI 3)), (3, .int y)]) hx hb dX0_readRest_164 hl (by decide) rfl (fun ls hl => ?_)
    refine lv_iload hx hb dX0_readRest_166 (lv_at hl 0 rfl) ?_
    refine lv_iconst (v := (-1 : Int32)) hx hb dX0_readRest_168 (by decide) ?_
    refine lv_icmp_ne (tgt := 176) hx hb dX0_readRest_169 (by decide) (fun c27 => absurd c27 (by decide)) (fun c27 => ?_)
    refine lv_iconst (v := (-1 : Int32)) hx hb dX0_readRest_172 (by decide) ?_
    refine lv_goto (tgt := 183) hx hb dX0_readRest_173 (by decide) ?_
    refine lv_istore (lv' := [(10, .int (-1 : Int32)), (9, .int (-1 : Int32)), (8, .int (-1 : Int32)), (0, .ref bk), (1, .ref reader), (2, .int (nI 3)), (3, .int y)]) hx hb dX0_readRest_183 hl (by decide) rfl (fun ls hl => ?_)
    refine lv_iload hx hb dX0_readRest_185 (lv_at hl 0 rfl) ?_
    refine lv_iconst (v := (-1 : Int32)) hx hb dX0_readRest_187 (by decide) ?_
    refine lv_icmp_eq (tgt := 209) hx hb dX0_readRest_188 (by decide) (fun c28 => ?_) (fun c28 => absurd (by decide) c28)
    refine lv_iconst (v := nI 0) hx hb dX0_readRest_209 (by decide) ?_
    rw [hQ]
    exact W.zret (v := nI 0) hx hb hr (by decide) (fun t9 ht9 hW9 => ⟨⟨nI 0, (blineCount, blinesF, rplaceG_4, rkindG_5, rbeginG_6, rwordG_7, rnumberG_8, rlettersG_9, rfaultKindG_10, rfaultPlaceG_11), rfl, ⟨(lf_f_rest3_3 blineCount bt rlength rmostBytes rplace rkind rbegin rword rnumber rletters rfaultKind rfaultPlace rtapeF gp rplaceG_4 rkindG_5 rbeginG_6 rwordG_7 rnumberG_8 rlettersG_9 rfaultKindG_10 rfaultPlaceG_11 iv_bbk_0 iv_rreader_0 iv_rreader_1 iv_rreader_2 iv_rreader_3 hTC hRT hl9 p13 p14 t23 t24 t25), iv_bbk_0, p13, p14⟩, by rw [ht9]; exact hP, va_K.moved hW9.alike hK, hD⟩, hS.F ht9⟩) hS.2.2 dX0_readRest_210
  · refine lv_istore (lv' := [(8, .int (nI k15)), (0, .ref bk), (1, .ref reader), (2, .int (nI 3)), (3, .int y)]) hx hb dX0_readRest_146 hl (by decide) rfl (fun ls hl => ?_)
    refine lv_iload hx hb dX0_readRest_148 (lv_at hl 0 rfl) ?_
    refine lv_iconst (v := (-1 : Int32)) hx hb dX0_readRest_150 (by decide) ?_
    refine lv_icmp_ne (tgt := 158) hx hb dX0_readRest_151 (by decide) (fun c29 => ?_) (fun c29 => absurd c29 (nI_neg (lf_f_rest3_4 bt rlength rmostBytes rplace rkind rbegin rword rnumber rletters rtapeF gp rplaceG_4 rkindG_5 rbeginG_6 rwordG_7 rnumberG_8 rlettersG_9 k15 iv_rreader_0 iv_rreader_1 iv_rreader_2 iv_rreader_3 hTC hRT p13 p14 h17 h18 h19 h20)))
    refine lv_aload_n hx hb dX0_readRest_158 rfl (lv_at hl 2 rfl) ?_
    refine lv_iconst (v := nI 0) hx hb dX0_readRest_159 (by decide) ?_
    refine lv_iconst (v := nI 5) hx hb dX0_readRest_160 (by decide) ?_
    refine r_call_i (wr := [(bk, .inr (0, [.ref blines, .int (nI blineCount), .int blived, .int bwhyWrong, .int bfineLines, .int bdayThen, .int beatenThen])), (blines, .inl (ky 0, 160, .inl blinesF))]) (va_runV (As := [.int (nI 0), .int (nI 5)]) (rest := []) ⟨hx, hb, hml, hown, hts⟩ (c_f_takeNumber l dC dI ky H.size adK adV bt reader rtape rlength rmostBytes rplaceG_4 rkindG_5 rbeginG_6 rwordG_7 rnumberG_8 rlettersG_9 rfaultKindG_10 rfaultPlaceG_11 rtapeF (tT bt rlength rmostBytes gp) 0 5 iv_rreader_0 p13 iv_rreader_2 p14 hTC (lf_f_rest3_5) (lf_f_rest3_6) h20) (cwV 2 hts gX0_readRest_X5_takeNumber rfl rfl rfl (by decide +kernel) ⟨(Nat.le_of_ble_eq_true rfl), (Nat.le_of_ble_eq_true rfl)⟩) (pre_UEV hE hS hA hK hP hD [2, 3] (by decide) rfl (va_recv hK hP (ci := 5) (q0 := 2) rfl rfl)) rfl rfl hl.1 rfl (lv_room (Nat.le_of_ble_eq_true rfl)) dX0_readRest_161 ⟨(Nat.le_of_ble_eq_true rfl), (Nat.le_of_ble_eq_true rfl)⟩) hP hD hS hA [2, 3] [0, 1] rfl rfl (by decide) (by decide) (fun r32 u30 H locs p31 hP hD hS => ?_)
    obtain ⟨rplaceG_33, rkindG_34, rbeginG_35, rwordG_36, rnumberG_37, rlettersG_38, rfaultKindG_39, rfaultPlaceG_40⟩ := u30
    try dsimp only at p31
    obtain ⟨p41, p42, p43⟩ := p31
    refine W.widen (k := 0) (n := 0) (Nat.le_of_ble_eq_true rfl) (Nat.le_of_ble_eq_true rfl) ?_
    have hP : va_P (dC, dI) vwCl [(bk, .inr (0, [.ref blines, .int (nI blineCount), .int blived, .int bwhyWrong, .int bfineLines, .int bdayThen, .int beatenThen])), (blines, .inl (ky 0, 160, .inl blinesF)), (reader, .inr (5, [.ref rtape, .int (nI rlength), .int (nI rmostBytes), .int (nI rplaceG_33), .int rkindG_34, .int (nI rbeginG_35), .int rwordG_36, .int rnumberG_37, .long rlettersG_38, .int rfaultKindG_39, .int rfaultPlaceG_40])), (rtape, .inl (ky 2, 940, .inl rtapeF))] H := hP
    have hD : va_D A [(bk, .inr (0, [.ref blines, .int (nI blineCount), .int blived, .int bwhyWrong, .int bfineLines, .int bdayThen, .int beatenThen])), (blines, .inl (ky 0, 160, .inl blinesF)), (reader, .inr (5, [.ref rtape, .int (nI rlength), .int (nI rmostBytes), .int (nI rplaceG_33), .int rkindG_34, .int (nI rbeginG_35), .int rwordG_36, .int rnumberG_37, .long rlettersG_38, .int rfaultKindG_39, .int rfaultPlaceG_40])), (rtape, .inl (ky 2, 940, .inl rtapeF))] := hD
    rcases p41 with ⟨rfl, t52, t53, t54⟩ | ⟨k44, ⟨h46, h47, h48, h49, h50, h51⟩, rfl⟩
    · refine lv_istore (lv' := [(9, .int (-1 : Int32)), (8, .int (nI k15)), (0, .ref bk), (1, .ref reader), (2, .int (nI 3)), (3, .int y)]) hx hb dX0_readRest_164 hl (by decide) rfl (fun ls hl => ?_)
      refine lv_iload hx hb dX0_readRest_166 (lv_at hl 0 rfl) ?_
      refine lv_iconst (v := (-1 : Int32)) hx hb dX0_readRest_168 (by decide) ?_
      refine lv_icmp_ne (tgt := 176) hx hb dX0_readRest_169 (by decide) (fun c55 => absurd c55 (by decide)) (fun c55 => ?_)
      refine lv_iconst (v := (-1 : Int32)) hx hb dX0_readRest_172 (by decide) ?_
      refine lv_goto (tgt := 183) hx hb dX0_readRest_173 (by decide) ?_
      refine lv_istore (lv' := [(10, .int (-1 : Int32)), (9, .int (-1 : Int32)), (8, .int (nI k15)), (0, .ref bk), (1, .ref reader), (2, .int (nI 3)), (3, .int y)]) hx hb dX0_readRest_183 hl (by decide) rfl (fun ls hl => ?_)
      refine lv_iload hx hb dX0_readRest_185 (lv_at hl 0 rfl) ?_
      refine lv_iconst (v := (-1 : Int32)) hx hb dX0_readRest_187 (by decide) ?_
      refine lv_icmp_eq (tgt := 209) hx hb dX0_readRest_188 (by decide) (fun c56 => ?_) (fun c56 => absurd (by decide) c56)
      refine lv_iconst (v := nI 0) hx hb dX0_readRest_209 (by decide) ?_
      rw [hQ]
      exact W.zret (v := nI 0) hx hb hr (by decide) (fun t9 ht9 hW9 => ⟨⟨nI 0, (blineCount, blinesF, rplaceG_33, rkindG_34, rbeginG_35, rwordG_36, rnumberG_37, rlettersG_38, rfaultKindG_39, rfaultPlaceG_40), rfl, ⟨(lf_f_rest3_7 blineCount bt rlength rmostBytes rplace rkind rbegin rword rnumber rletters rfaultKind rfaultPlace rtapeF gp rplaceG_4 rkindG_5 rbeginG_6 rwordG_7 rnumberG_8 rlettersG_9 rfaultKindG_10 rfaultPlaceG_11 k15 rplaceG_33 rkindG_34 rbeginG_35 rwordG_36 rnumberG_37 rlettersG_38 rfaultKindG_39 rfaultPlaceG_40 iv_bbk_0 iv_rreader_0 iv_rreader_1 iv_rreader_2 iv_rreader_3 hTC hRT hl9 p13 p14 h17 h18 h19 h20 h21 h22 p42 p43 t52 t53 t54), iv_bbk_0, p42, p43⟩, by rw [ht9]; exact hP, va_K.moved hW9.alike hK, hD⟩, hS.F ht9⟩) hS.2.2 dX0_readRest_210
    · refine lv_istore (lv' := [(9, .int (nI k44)), (8, .int (nI k15)), (0, .ref bk), (1, .ref reader), (2, .int (nI 3)), (3, .int y)]) hx hb dX0_readRest_164 hl (by decide) rfl (fun ls hl => ?_)
      refine lv_iload hx hb dX0_readRest_166 (lv_at hl 0 rfl) ?_
      refine lv_iconst (v := (-1 : Int32)) hx hb dX0_readRest_168 (by decide) ?_
      refine lv_icmp_ne (tgt := 176) hx hb dX0_readRest_169 (by decide) (fun c57 => ?_) (fun c57 => absurd c57 (nI_neg (lf_f_rest3_8 bt rlength rmostBytes rplace rkind rbegin rword rnumber rletters rtapeF gp rplaceG_4 rkindG_5 rbeginG_6 rwordG_7 rnumberG_8 rlettersG_9 k15 rplaceG_33 rkindG_34 rbeginG_35 rwordG_36 rnumberG_37 rlettersG_38 k44 iv_rreader_0 iv_rreader_1 iv_rreader_2 iv_rreader_3 hTC hRT p13 p14 h17 h18 h19 h20 p42 p43 h46 h47 h48 h49)))
      refine lv_aload_n hx hb dX0_readRest_176 rfl (lv_at hl 3 rfl) ?_
      refine lv_iconst (v := nI 1) hx hb dX0_readRest_177 (by decide) ?_
      refine lv_bipush (v := nI 9) hx hb dX0_readRest_178 (by decide) ?_
      refine r_call_i (wr := [(bk, .inr (0, [.ref blines, .int (nI blineCount), .int blived, .int bwhyWrong, .int bfineLines, .int bdayThen, .int beatenThen])), (blines, .inl (ky 0, 160, .inl blinesF))]) (va_runV (As := [.int (nI 1), .int (nI 9)]) (rest := []) ⟨hx, hb, hml, hown, hts⟩ (c_f_takeNumber l dC dI ky H.size adK adV bt reader rtape rlength rmostBytes rplaceG_33 rkindG_34 rbeginG_35 rwordG_36 rnumberG_37 rlettersG_38 rfaultKindG_39 rfaultPlaceG_40 rtapeF (tT bt rlength rmostBytes (tT bt rlength rmostBytes gp)) 1 9 iv_rreader_0 p42 iv_rreader_2 p43 hTC (lf_f_rest3_9) (lf_f_rest3_10) h49) (cwV 2 hts gX0_readRest_X5_takeNumber rfl rfl rfl (by decide +kernel) ⟨(Nat.le_of_ble_eq_true rfl), (Nat.le_of_ble_eq_true rfl)⟩) (pre_UEV hE hS hA hK hP hD [2, 3] (by decide) rfl (va_recv hK hP (ci := 5) (q0 := 2) rfl rfl)) rfl rfl hl.1 rfl (lv_room (Nat.le_of_ble_eq_true rfl)) dX0_readRest_180 ⟨(Nat.le_of_ble_eq_true rfl), (Nat.le_of_ble_eq_true rfl)⟩) hP hD hS hA [2, 3] [0, 1] rfl rfl (by decide) (by decide) (fun r60 u58 H locs p59 hP hD hS => ?_)
      obtain ⟨rplaceG_61, rkindG_62, rbeginG_63, rwordG_64, rnumberG_65, rlettersG_66, rfaultKindG_67, rfaultPlaceG_68⟩ := u58
      try dsimp only at p59
      obtain ⟨p69, p70, p71⟩ := p59
      refine W.widen (k := 0) (n := 0) (Nat.le_of_ble_eq_true rfl) (Nat.le_of_ble_eq_true rfl) ?_
      have hP : va_P (dC, dI) vwCl [(bk, .inr (0, [.ref blines, .int (nI blineCount), .int blived, .int bwhyWrong, .int bfineLines, .int bdayThen, .int beatenThen])), (blines, .inl (ky 0, 160, .inl blinesF)), (reader, .inr (5, [.ref rtape, .int (nI rlength), .int (nI rmostBytes), .int (nI rplaceG_61), .int rkindG_62, .int (nI rbeginG_63), .int rwordG_64, .int rnumberG_65, .long rlettersG_66, .int rfaultKindG_67, .int rfaultPlaceG_68])), (rtape, .inl (ky 2, 940, .inl rtapeF))] H := hP
      have hD : va_D A [(bk, .inr (0, [.ref blines, .int (nI blineCount), .int blived, .int bwhyWrong, .int bfineLines, .int bdayThen, .int beatenThen])), (blines, .inl (ky 0, 160, .inl blinesF)), (reader, .inr (5, [.ref rtape, .int (nI rlength), .int (nI rmostBytes), .int (nI rplaceG_61), .int rkindG_62, .int (nI rbeginG_63), .int rwordG_64, .int rnumberG_65, .long rlettersG_66, .int rfaultKindG_67, .int rfaultPlaceG_68])), (rtape, .inl (ky 2, 940, .inl rtapeF))] := hD
      rcases p69 with ⟨rfl, t80, t81, t82⟩ | ⟨k72, ⟨h74, h75, h76, h77, h78, h79⟩, rfl⟩
      · refine lv_istore (lv' := [(10, .int (-1 : Int32)), (9, .int (nI k44)), (8, .int (nI k15)), (0, .ref bk), (1, .ref reader), (2, .int (nI 3)), (3, .int y)]) hx hb dX0_readRest_183 hl (by decide) rfl (fun ls hl => ?_)
        refine lv_iload hx hb dX0_readRest_185 (lv_at hl 0 rfl) ?_
        refine lv_iconst (v := (-1 : Int32)) hx hb dX0_readRest_187 (by decide) ?_
        refine lv_icmp_eq (tgt := 209) hx hb dX0_readRest_188 (by decide) (fun c83 => ?_) (fun c83 => absurd (by decide) c83)
        refine lv_iconst (v := nI 0) hx hb dX0_readRest_209 (by decide) ?_
        rw [hQ]
        exact W.zret (v := nI 0) hx hb hr (by decide) (fun t9 ht9 hW9 => ⟨⟨nI 0, (blineCount, blinesF, rplaceG_61, rkindG_62, rbeginG_63, rwordG_64, rnumberG_65, rlettersG_66, rfaultKindG_67, rfaultPlaceG_68), rfl, ⟨(lf_f_rest3_11 blineCount bt rlength rmostBytes rplace rkind rbegin rword rnumber rletters rfaultKind rfaultPlace rtapeF gp rplaceG_4 rkindG_5 rbeginG_6 rwordG_7 rnumberG_8 rlettersG_9 rfaultKindG_10 rfaultPlaceG_11 k15 rplaceG_33 rkindG_34 rbeginG_35 rwordG_36 rnumberG_37 rlettersG_38 rfaultKindG_39 rfaultPlaceG_40 k44 rplaceG_61 rkindG_62 rbeginG_63 rwordG_64 rnumberG_65 rlettersG_66 rfaultKindG_67 rfaultPlaceG_68 iv_bbk_0 iv_rreader_0 iv_rreader_1 iv_rreader_2 iv_rreader_3 hTC hRT hl9 p13 p14 h17 h18 h19 h20 h21 h22 p42 p43 h46 h47 h48 h49 h50 h51 p70 p71 t80 t81 t82), iv_bbk_0, p70, p71⟩, by rw [ht9]; exact hP, va_K.moved hW9.alike hK, hD⟩, hS.F ht9⟩) hS.2.2 dX0_readRest_210
      · refine lv_istore (lv' := [(10, .int (nI k72)), (9, .int (nI k44)), (8, .int (nI k15)), (0, .ref bk), (1, .ref reader), (2, .int (nI 3)), (3, .int y)]) hx hb dX0_readRest_183 hl (by decide) rfl (fun ls hl => ?_)
        refine lv_iload hx hb dX0_readRest_185 (lv_at hl 0 rfl) ?_
        refine lv_iconst (v := (-1 : Int32)) hx hb dX0_readRest_187 (by decide) ?_
        refine lv_icmp_eq (tgt := 209) hx hb dX0_readRest_188 (by decide) (fun c84 => absurd c84 (nI_neg (lf_f_rest3_12 bt rlength rmostBytes rplace rkind rbegin rword rnumber rletters rtapeF gp rplaceG_4 rkindG_5 rbeginG_6 rwordG_7 rnumberG_8 rlettersG_9 k15 rplaceG_33 rkindG_34 rbeginG_35 rwordG_36 rnumberG_37 rlettersG_38 k44 rplaceG_61 rkindG_62 rbeginG_63 rwordG_64 rnumberG_65 rlettersG_66 k72 iv_rreader_0 iv_rreader_1 iv_rreader_2 iv_rreader_3 hTC hRT p13 p14 h17 h18 h19 h20 p42 p43 h46 h47 h48 h49 p70 p71 h74 h75 h76 h77))) (fun c84 => ?_)
        refine lv_aload_n hx hb dX0_readRest_191 rfl (lv_at hl 3 rfl) ?_
        refine lv_iload_n hx hb dX0_readRest_192 rfl (lv_at hl 5 rfl) ?_
        refine lv_iload hx hb dX0_readRest_193 (lv_at hl 2 rfl) ?_
        refine lv_iload hx hb dX0_readRest_195 (lv_at hl 1 rfl) ?_
        refine lv_iload hx hb dX0_readRest_197 (lv_at hl 0 rfl) ?_
        refine r_call_i (wr := [(reader, .inr (5, [.ref rtape, .int (nI rlength), .int (nI rmostBytes), .int (nI rplaceG_61), .int rkindG_62, .int (nI rbeginG_63), .int rwordG_64, .int rnumberG_65, .long rlettersG_66, .int rfaultKindG_67, .int rfaultPlaceG_68])), (rtape, .inl (ky 2, 940, .inl rtapeF))]) (va_runV (As := [.int (nI 3), .int (nI k15), .int (nI k44), .int (nI k72)]) (rest := []) ⟨hx, hb, hml, hown, hts⟩ (c_f_bput l dC dI ky H.size bk blines blineCount blived bwhyWrong bfineLines bdayThen beatenThen blinesF (nI 3) (nI k15) (nI k44) (nI k72) iv_bbk_0 hl9) (cwV 4 hts gX0_readRest_X0_put rfl rfl rfl (by decide +kernel) ⟨(Nat.le_of_ble_eq_true rfl), (Nat.le_of_ble_eq_true rfl)⟩) (pre_UV hK hP hD [0, 1] (by decide) rfl (ci := 0) (q0 := 0) rfl rfl) rfl rfl hl.1 rfl (lv_room (Nat.le_of_ble_eq_true rfl)) dX0_readRest_199 ⟨(Nat.le_of_ble_eq_true rfl), (Nat.le_of_ble_eq_true rfl)⟩) hP hD hS hA [0, 1] [2, 3] rfl rfl (by decide) (by decide) (fun r87 u85 H locs p86 hP hD hS => ?_)
        obtain ⟨blineCountG_88, blinesG_89⟩ := u85
        try dsimp only at p86
        obtain ⟨p90, p91, p92⟩ := p86
        refine W.widen (k := 0) (n := 0) (Nat.le_of_ble_eq_true rfl) (Nat.le_of_ble_eq_true rfl) ?_
        have hP : va_P (dC, dI) vwCl [(reader, .inr (5, [.ref rtape, .int (nI rlength), .int (nI rmostBytes), .int (nI rplaceG_61), .int rkindG_62, .int (nI rbeginG_63), .int rwordG_64, .int rnumberG_65, .long rlettersG_66, .int rfaultKindG_67, .int rfaultPlaceG_68])), (rtape, .inl (ky 2, 940, .inl rtapeF)), (bk, .inr (0, [.ref blines, .int (nI blineCountG_88), .int blived, .int bwhyWrong, .int bfineLines, .int bdayThen, .int beatenThen])), (blines, .inl (ky 0, 160, .inl blinesG_89))] H := hP
        have hD : va_D A [(reader, .inr (5, [.ref rtape, .int (nI rlength), .int (nI rmostBytes), .int (nI rplaceG_61), .int rkindG_62, .int (nI rbeginG_63), .int rwordG_64, .int rnumberG_65, .long rlettersG_66, .int rfaultKindG_67, .int rfaultPlaceG_68])), (rtape, .inl (ky 2, 940, .inl rtapeF)), (bk, .inr (0, [.ref blines, .int (nI blineCountG_88), .int blived, .int bwhyWrong, .int bfineLines, .int bdayThen, .int beatenThen])), (blines, .inl (ky 0, 160, .inl blinesG_89))] := hD
        subst p90
        refine lv_if_eq (tgt := 209) hx hb dX0_readRest_202 (by decide) (fun c93 => absurd c93 (by decide)) (fun c93 => ?_)
        refine lv_iconst (v := nI 1) hx hb dX0_readRest_205 (by decide) ?_
        refine lv_goto (tgt := 210) hx hb dX0_readRest_206 (by decide) ?_
        rw [hQ]
        have hP9 := hP.sub (ws' := [(bk, .inr (0, [.ref blines, .int (nI blineCountG_88), .int blived, .int bwhyWrong, .int bfineLines, .int bdayThen, .int beatenThen])), (blines, .inl (ky 0, 160, .inl blinesG_89)), (reader, .inr (5, [.ref rtape, .int (nI rlength), .int (nI rmostBytes), .int (nI rplaceG_61), .int rkindG_62, .int (nI rbeginG_63), .int rwordG_64, .int rnumberG_65, .long rlettersG_66, .int rfaultKindG_67, .int rfaultPlaceG_68])), (rtape, .inl (ky 2, 940, .inl rtapeF))]) [2, 3, 0, 1] rfl
        have hD9 := hD.sub (ws' := [(bk, .inr (0, [.ref blines, .int (nI blineCountG_88), .int blived, .int bwhyWrong, .int bfineLines, .int bdayThen, .int beatenThen])), (blines, .inl (ky 0, 160, .inl blinesG_89)), (reader, .inr (5, [.ref rtape, .int (nI rlength), .int (nI rmostBytes), .int (nI rplaceG_61), .int rkindG_62, .int (nI rbeginG_63), .int rwordG_64, .int rnumberG_65, .long rlettersG_66, .int rfaultKindG_67, .int rfaultPlaceG_68])), (rtape, .inl (ky 2, 940, .inl rtapeF))]) [2, 3, 0, 1] (by decide) rfl
        exact W.zret (v := nI 1) hx hb hr (by decide) (fun t9 ht9 hW9 => ⟨⟨nI 1, (blineCountG_88, blinesG_89, rplaceG_61, rkindG_62, rbeginG_63, rwordG_64, rnumberG_65, rlettersG_66, rfaultKindG_67, rfaultPlaceG_68), rfl, ⟨(lf_f_rest3_13 blineCount bt rlength rmostBytes rplace rkind rbegin rword rnumber rletters rfaultKind rfaultPlace rtapeF gp rplaceG_4 rkindG_5 rbeginG_6 rwordG_7 rnumberG_8 rlettersG_9 rfaultKindG_10 rfaultPlaceG_11 k15 rplaceG_33 rkindG_34 rbeginG_35 rwordG_36 rnumberG_37 rlettersG_38 rfaultKindG_39 rfaultPlaceG_40 k44 rplaceG_61 rkindG_62 rbeginG_63 rwordG_64 rnumberG_65 rlettersG_66 rfaultKindG_67 rfaultPlaceG_68 k72 blineCountG_88 iv_bbk_0 iv_rreader_0 iv_rreader_1 iv_rreader_2 iv_rreader_3 hTC hRT hl9 p13 p14 h17 h18 h19 h20 h21 h22 p42 p43 h46 h47 h48 h49 h50 h51 p70 p71 h74 h75 h76 h77 h78 h79 p91 p92), p91, p70, p71⟩, by rw [ht9]; exact hP9, va_K.moved hW9.alike hK, hD9⟩, hS.F ht9⟩) hS.2.2 dX0_readRest_210
set_option maxRecDepth 20000 in
theorem lf_f_rest4_1   : 1 ≤ 10 := by
  try simp only [ia_lt, ia_le, ia_eq, ia_m1, ia_0, ia_1, ne_eq, true_and, and_true, false_and, and_false, or_false, false_or, or_true, true_or, not_true_eq_false, not_false_eq_true] at *
  all_goals omega
set_option maxRecDepth 20000 in
theorem lf_f_rest4_2   : 20 ≤ 1000 := by
  try simp only [ia_lt, ia_le, ia_eq, ia_m1, ia_0, ia_1, ne_eq, true_and, and_true, false_and, and_false, or_false, false_or, or_true, true_or, not_true_eq_false, not_false_eq_true] at *
  all_goals omega
set_option maxRecDepth 20000 in
theorem lf_f_rest4_3 (blineCount : Nat) (bt : Nat → Nat) (rlength : Nat) (rmostBytes : Nat) (rplace : Nat) (rkind : Int32) (rbegin : Nat) (rword : Int32) (rnumber : Int32) (rletters : Int64) (rfaultKind : Int32) (rfaultPlace : Int32) (rtapeF : Nat → Int32) (gp : Nat) (rplaceG_5 : Nat) (rkindG_6 : Int32) (rbeginG_7 : Nat) (rwordG_8 : Int32) (rnumberG_9 : Int32) (rlettersG_10 : Int64) (rfaultKindG_11 : Int32) (rfaultPlaceG_12 : Int32) (iv_bbk_0 : blineCount ≤ 40) (iv_rreader_0 : rlength ≤ 940) (iv_rreader_1 : rplace ≤ rlength) (iv_rreader_2 : rmostBytes ≤ 900) (iv_rreader_3 : rbegin ≤ 940) (hTC : TC bt rtapeF) (hRT : RT bt rlength rmostBytes gp rkind rbegin rplace rword rnumber rletters) (hl9 : blineCount < 40) (p14 : rplaceG_5 ≤ rlength) (p15 : rbeginG_7 ≤ 940) (t24 : pNum bt rlength rmostBytes 1 20 gp = .error (nER bt rlength rmostBytes gp, tF bt rlength rmostBytes gp)) (t25 : rfaultKindG_11 = nI (nER bt rlength rmostBytes gp)) (t26 : rfaultPlaceG_12 = nI (tF bt rlength rmostBytes gp)) : ((nI 0) = nI 1 ∧ (isO (bRest bt rlength rmostBytes 18 gp) = true ∧ RT bt rlength rmostBytes (okV (bRest bt rlength rmostBytes 18 gp)) rkindG_6 rbeginG_7 rplaceG_5 rwordG_8 rnumberG_9 rlettersG_10 ∧ blineCount = blineCount + 1 ∧ rfaultKindG_11 = rfaultKind ∧ rfaultPlaceG_12 = rfaultPlace)) ∨ ((nI 0) = nI 0 ∧ (isO (bRest bt rlength rmostBytes 18 gp) = false ∧ rfaultKindG_11 = nI (erA (bRest bt rlength rmostBytes 18 gp)) ∧ rfaultPlaceG_12 = nI (erB (bRest bt rlength rmostBytes 18 gp)))) := by
  rw [br_18, p1_e (by assumption)]
  exact Or.inr ⟨rfl, rfl, ‹_›, ‹_›⟩
set_option maxRecDepth 20000 in
theorem lf_f_rest4_4 (bt : Nat → Nat) (rlength : Nat) (rmostBytes : Nat) (rplace : Nat) (rkind : Int32) (rbegin : Nat) (rword : Int32) (rnumber : Int32) (rletters : Int64) (rtapeF : Nat → Int32) (gp : Nat) (rplaceG_5 : Nat) (rkindG_6 : Int32) (rbeginG_7 : Nat) (rwordG_8 : Int32) (rnumberG_9 : Int32) (rlettersG_10 : Int64) (k16 : Nat) (iv_rreader_0 : rlength ≤ 940) (iv_rreader_1 : rplace ≤ rlength) (iv_rreader_2 : rmostBytes ≤ 900) (iv_rreader_3 : rbegin ≤ 940) (hTC : TC bt rtapeF) (hRT : RT bt rlength rmostBytes gp rkind rbegin rplace rword rnumber rletters) (p14 : rplaceG_5 ≤ rlength) (p15 : rbeginG_7 ≤ 940) (h18 : pNum bt rlength rmostBytes 1 20 gp = .ok k16) (h19 : 1 ≤ k16) (h20 : k16 ≤ 20) (h21 : RT bt rlength rmostBytes (tT bt rlength rmostBytes gp) rkindG_6 rbeginG_7 rplaceG_5 rwordG_8 rnumberG_9 rlettersG_10) : k16 < 2147483648 := by
  have b_rkind := ia_b rkind
  have b_rword := ia_b rword
  have b_rnumber := ia_b rnumber
  have b_rkindG_6 := ia_b rkindG_6
  have b_rwordG_8 := ia_b rwordG_8
  have b_rnumberG_9 := ia_b rnumberG_9
  have b_rletters := Int64.toInt_lt rletters
  have b_rlettersG_10 := Int64.toInt_lt rlettersG_10
  try simp only [ia_lt, ia_le, ia_eq, ia_m1, ia_0, ia_1, ne_eq, true_and, and_true, false_and, and_false, or_false, false_or, or_true, true_or, not_true_eq_false, not_false_eq_true] at *
  all_goals omega
set_option maxRecDepth 20000 in
theorem lf_f_rest4_5 (blineCount : Nat) (bt : Nat → Nat) (rlength : Nat) (rmostBytes : Nat) (rplace : Nat) (rkind : Int32) (rbegin : Nat) (rword : Int32) (rnumber : Int32) (rletters : Int64) (rfaultKind : Int32) (rfaultPlace : Int32) (rtapeF : Nat → Int32) (gp : Nat) (rplaceG_5 : Nat) (rkindG_6 : Int32) (rbeginG_7 : Nat) (rwordG_8 : Int32) (rnumberG_9 : Int32) (rlettersG_10 : Int64) (rfaultKindG_11 : Int32) (rfaultPlaceG_12 : Int32) (k16 : Nat) (blineCountG_32 : Nat) (iv_bbk_0 : blineCount ≤ 40) (iv_rreader_0 : rlength ≤ 940) (iv_rreader_1 : rplace ≤ rlength) (iv_rreader_2 : rmostBytes ≤ 900) (iv_rreader_3 : rbegin ≤ 940) (hTC : TC bt rtapeF) (hRT : RT bt rlength rmostBytes gp rkind rbegin rplace rword rnumber rletters) (hl9 : blineCount < 40) (p14 : rplaceG_5 ≤ rlength) (p15 : rbeginG_7 ≤ 940) (h18 : pNum bt rlength rmostBytes 1 20 gp = .ok k16) (h19 : 1 ≤ k16) (h20 : k16 ≤ 20) (h21 : RT bt rlength rmostBytes (tT bt rlength rmostBytes gp) rkindG_6 rbeginG_7 rplaceG_5 rwordG_8 rnumberG_9 rlettersG_10) (h22 : rfaultKindG_11 = rfaultKind) (h23 : rfaultPlaceG_12 = rfaultPlace) (p35 : blineCountG_32 ≤ 40) (p36 : blineCountG_32 = blineCount + 1) : ((nI 1) = nI 1 ∧ (isO (bRest bt rlength rmostBytes 18 gp) = true ∧ RT bt rlength rmostBytes (okV (bRest bt rlength rmostBytes 18 gp)) rkindG_6 rbeginG_7 rplaceG_5 rwordG_8 rnumberG_9 rlettersG_10 ∧ blineCountG_32 = blineCount + 1 ∧ rfaultKindG_11 = rfaultKind ∧ rfaultPlaceG_12 = rfaultPlace)) ∨ ((nI 1) = nI 0 ∧ (isO (bRest bt rlength rmostBytes 18 gp) = false ∧ rfaultKindG_11 = nI (erA (bRest bt rlength rmostBytes 18 gp)) ∧ rfaultPlaceG_12 = nI (erB (bRest bt rlength rmostBytes 18 gp)))) := by
  rw [br_18, p1_o (by assumption)]
  exact Or.inl ⟨rfl, rfl, ‹_›, (by first | rfl | assumption | (subst_vars; rfl) | (subst_vars; assumption)), (by first | rfl | assumption | (subst_vars; rfl) | (subst_vars; assumption)), (by first | rfl | assumption | (subst_vars; rfl) | (subst_vars; assumption))⟩
set_option maxHeartbeats 4000000 in
set_option maxRecDepth 100000 in
theorem c_f_rest4 (l : Launch) (dC : Nat → ClassId) (dI : Nat → Nat → Nat) (ky : Nat → ClassId) (sz : Nat) (adK : Nat → Nat) (adV : Nat → Nat) (bk : Nat) (blines : Nat) (blineCount : Nat) (blived : Int32) (bwhyWrong : Int32) (bfineLines : Int32) (bdayThen : Int32) (beatenThen : Int32) (blinesF : Nat → Int32) (bt : Nat → Nat) (reader : Nat) (rtape : Nat) (rlength : Nat) (rmostBytes : Nat) (rplace : Nat) (rkind : Int32) (rbegin : Nat) (rword : Int32) (rnumber : Int32) (rletters : Int64) (rfaultKind : Int32) (rfaultPlace : Int32) (rtapeF : Nat → Int32) (gp : Nat) (y : Int32) (iv_bbk_0 : blineCount ≤ 40) (iv_rreader_0 : rlength ≤ 940) (iv_rreader_1 : rplace ≤ rlength) (iv_rreader_2 : rmostBytes ≤ 900) (iv_rreader_3 : rbegin ≤ 940) (hTC : TC bt rtapeF) (hRT : RT bt rlength rmostBytes gp rkind rbegin rplace rword rnumber rletters) (hl9 : blineCount < 40) : Met l yX0_readRest wsX0_readRest ({ frames := 7, cells := 0, slots := 0, locals := 154 }) (PcUE dC dI ky adK adV [.ref bk, .ref reader, .int (nI 4), .int y] [(bk, .inr (0, [.ref blines, .int (nI blineCount), .int blived, .int bwhyWrong, .int bfineLines, .int bdayThen, .int beatenThen])), (blines, .inl (ky 0, 160, .inl blinesF)), (reader, .inr (5, [.ref rtape, .int (nI rlength), .int (nI rmostBytes), .int (nI rplace), .int rkind, .int (nI rbegin), .int rword, .int rnumber, .long rletters, .int rfaultKind, .int rfaultPlace])), (rtape, .inl (ky 2, 940, .inl rtapeF))] sz) (va_Qi (fun (r : Int32) (u : Nat × (Nat → Int32) × Nat × Int32 × Nat × Int32 × Int32 × Int64 × Int32 × Int32) => match u with | (blineCountG, blinesG, rplaceG, rkindG, rbeginG, rwordG, rnumberG, rlettersG, rfaultKindG, rfaultPlaceG) => ((r = nI 1 ∧ (isO (bRest bt rlength rmostBytes 18 gp) = true ∧ RT bt rlength rmostBytes (okV (bRest bt rlength rmostBytes 18 gp)) rkindG rbeginG rplaceG rwordG rnumberG rlettersG ∧ blineCountG = blineCount + 1 ∧ rfaultKindG = rfaultKind ∧ rfaultPlaceG = rfaultPlace)) ∨ (r = nI 0 ∧ (isO (bRest bt rlength rmostBytes 18 gp) = false ∧ rfaultKindG = nI (erA (bRest bt rlength rmostBytes 18 gp)) ∧ rfaultPlaceG = nI (erB (bRest bt rlength rmostBytes 18 gp))))) ∧ (blineCountG ≤ 40) ∧ (rplaceG ≤ rlength) ∧ (rbeginG ≤ 940)) (BU dC dI ky (fun (u : Nat × (Nat → Int32) × Nat × Int32 × Nat × Int32 × Int32 × Int64 × Int32 × Int32) => match u with | (blineCountG, blinesG, rplaceG, rkindG, rbeginG, rwordG, rnumberG, rlettersG, rfaultKindG, rfaultPlaceG) => [(bk, .inr (0, [.ref blines, .int (nI blineCountG), .int blived, .int bwhyWrong, .int bfineLines, .int bdayThen, .int beatenThen])), (blines, .inl (ky 0, 160, .inl blinesG)), (reader, .inr (5, [.ref rtape, .int (nI rlength), .int (nI rmostBytes), .int (nI rplaceG), .int rkindG, .int (nI rbeginG), .int rwordG, .int rnumberG, .long rlettersG, .int rfaultKindG, .int rfaultPlaceG])), (rtape, .inl (ky 2, 940, .inl rtapeF))]) (va_A [(bk, .inr (0, [.ref blines, .int (nI blineCount), .int blived, .int bwhyWrong, .int bfineLines, .int bdayThen, .int beatenThen])), (blines, .inl (ky 0, 160, .inl blinesF)), (reader, .inr (5, [.ref rtape, .int (nI rlength), .int (nI rmostBytes), .int (nI rplace), .int rkind, .int (nI rbegin), .int rword, .int rnumber, .long rletters, .int rfaultKind, .int rfaultPlace])), (rtape, .inl (ky 2, 940, .inl rtapeF))] sz)) (va_A [(bk, .inr (0, [.ref blines, .int (nI blineCount), .int blived, .int bwhyWrong, .int bfineLines, .int bdayThen, .int beatenThen])), (blines, .inl (ky 0, 160, .inl blinesF)), (reader, .inr (5, [.ref rtape, .int (nI rlength), .int (nI rmostBytes), .int (nI rplace), .int rkind, .int (nI rbegin), .int rword, .int rnumber, .long rletters, .int rfaultKind, .int rfaultPlace])), (rtape, .inl (ky 2, 940, .inl rtapeF))] sz)) 0 0 (va_A [(bk, .inr (0, [.ref blines, .int (nI blineCount), .int blived, .int bwhyWrong, .int bfineLines, .int bdayThen, .int beatenThen])), (blines, .inl (ky 0, 160, .inl blinesF)), (reader, .inr (5, [.ref rtape, .int (nI rlength), .int (nI rmostBytes), .int (nI rplace), .int rkind, .int (nI rbegin), .int rword, .int rnumber, .long rletters, .int rfaultKind, .int rfaultPlace])), (rtape, .inl (ky 2, 940, .inl rtapeF))] sz) := by
  refine Met.ofW (cc := cX0_readRest) (maxL := 12) (ret := (some .boolean)) (by decide) rfl ?_
  intro p e s m args below meth c s₁ B hml hv
  obtain ⟨rfl, hsz, hP, hK, hD0, hE⟩ := hv
  have hx := B.exec
  have hb := B.bytes
  have hr := B.returns
  have hts := atoms_spec (ws := wsX0_readRest) B.pre
  have hown : s.vm.findClass RX0 = some m.cls := findClass_of_methodNamed B.named
  have hlocks := B.notSynchronized
  subst hsz
  have hD := hD0.self (sz := s.heap.size)
  generalize hAe : va_A [(bk, .inr (0, [.ref blines, .int (nI blineCount), .int blived, .int bwhyWrong, .int bfineLines, .int bdayThen, .int beatenThen])), (blines, .inl (ky 0, 160, .inl blinesF)), (reader, .inr (5, [.ref rtape, .int (nI rlength), .int (nI rmostBytes), .int (nI rplace), .int rkind, .int (nI rbegin), .int rword, .int rnumber, .long rletters, .int rfaultKind, .int rfaultPlace])), (rtape, .inl (ky 2, 940, .inl rtapeF))] s.heap.size = A at hD hE ⊢
  have hA : ∀ q : Nat, s.heap.size ≤ q → A q := fun q h => by rw [← hAe]; exact Or.inr h
  have hS : va_S A s.heap s.heap [] := va_S.rf
  have hl := lv_entry ([.ref bk, .ref reader, .int (nI 4), .int y]) (n := 12) (Nat.le_of_ble_eq_true rfl)
  rw [lg_entry_eq]
  generalize (lg_sl ([.ref bk, .ref reader, .int (nI 4), .int y]) ++ List.replicate (12 - (lg_sl ([.ref bk, .ref reader, .int (nI 4), .int y])).length) Slot.unset).toArray = ls at hl ⊢
  have hl : lv_has ls 12 [(0, .ref bk), (1, .ref reader), (2, .int (nI 4)), (3, .int y)] := hl
  refine q_name (fun Q hQ => ?_)
  generalize ([.ref bk, .ref reader, .int (nI 4), .int y] : List Value).toArray = args at hts hQ ⊢
  refine lv_iload_n hx hb dX0_readRest_0 rfl (lv_at hl 2 rfl) ?_
  refine lv_tableOut (tgt := 211) hx hb dX0_readRest_1 (by decide) (by decide) ?_
  refine lv_aload_n hx hb dX0_readRest_211 rfl (lv_at hl 1 rfl) ?_
  refine lv_iconst (v := nI 1) hx hb dX0_readRest_212 (by decide) ?_
  refine lv_iload_n hx hb dX0_readRest_213 rfl (lv_at hl 2 rfl) ?_
  refine lv_iconst (v := nI 4) hx hb dX0_readRest_214 (by decide) ?_
  refine lv_icmp_ne (tgt := 223) hx hb dX0_readRest_215 (by decide) (fun c1 => absurd c1 (by decide)) (fun c1 => ?_)
  refine lv_bipush (v := nI 20) hx hb dX0_readRest_218 (by decide) ?_
  refine lv_goto (tgt := 225) hx hb dX0_readRest_220 (by decide) ?_
  refine r_call_i (wr := [(bk, .inr (0, [.ref blines, .int (nI blineCount), .int blived, .int bwhyWrong, .int bfineLines, .int bdayThen, .int beatenThen])), (blines, .inl (ky 0, 160, .inl blinesF))]) (va_runV (As := [.int (nI 1), .int (nI 20)]) (rest := []) ⟨hx, hb, hml, hown, hts⟩ (c_f_takeNumber l dC dI ky s.heap.size adK adV bt reader rtape rlength rmostBytes rplace rkind rbegin rword rnumber rletters rfaultKind rfaultPlace rtapeF gp 1 20 iv_rreader_0 iv_rreader_1 iv_rreader_2 iv_rreader_3 hTC (lf_f_rest4_1) (lf_f_rest4_2) hRT) (cwV 2 hts gX0_readRest_X5_takeNumber rfl rfl rfl (by decide +kernel) ⟨(Nat.le_of_ble_eq_true rfl), (Nat.le_of_ble_eq_true rfl)⟩) (pre_UEV hE hS hA hK hP hD [2, 3] (by decide) rfl (va_recv hK hP (ci := 5) (q0 := 2) rfl rfl)) rfl rfl hl.1 rfl (lv_room (Nat.le_of_ble_eq_true rfl)) dX0_readRest_225 ⟨(Nat.le_of_ble_eq_true rfl), (Nat.le_of_ble_eq_true rfl)⟩) hP hD hS hA [2, 3] [0, 1] rfl rfl (by decide) (by decide) (fun r4 u2 H locs p3 hP hD hS => ?_)
  obtain ⟨rplaceG_5, rkindG_6, rbeginG_7, rwordG_8, rnumberG_9, rlettersG_10, rfaultKindG_11, rfaultPlaceG_12⟩ := u2
  try dsimp only at p3
  obtain ⟨p13, p14, p15⟩ := p3
  refine W.widen (k := 0) (n := 0) (Nat.le_of_ble_eq_true rfl) (Nat.le_of_ble_eq_true rfl) ?_
  have hP : va_P (dC, dI) vwCl [(bk, .inr (0, [.ref blines, .int (nI blineCount), .int blived, .int bwhyWrong, .int bfineLines, .int bdayThen, .int beatenThen])), (blines, .inl (ky 0, 160, .inl blinesF)), (reader, .inr (5, [.ref rtape, .int (nI rlength), .int (nI rmostBytes), .int (nI rplaceG_5), .int rkindG_6, .int (nI rbeginG_7), .int rwordG_8, .int rnumberG_9, .long rlettersG_10, .int rfaultKindG_11, .int rfaultPlaceG_12])), (rtape, .inl (ky 2, 940, .inl rtapeF))] H := hP
  have hD : va_D A [(bk, .inr (0, [.ref blines, .int (nI blineCount), .int blived, .int bwhyWrong, .int bfineLines, .int bdayThen, .int beatenThen])), (blines, .inl (ky 0, 160, .inl blinesF)), (reader, .inr (5, [.ref rtape, .int (nI rlength), .int (nI rmostBytes), .int (nI rplaceG_5), .int rkindG_6, .int (nI rbeginG_7), .int rwordG_8, .int rnumberG_9, .long rlettersG_10, .int rfaultKindG_11, .int rfaultPlaceG_12])), (rtape, .inl (ky 2, 940, .inl rtapeF))] := hD
  rcases p13 with ⟨rfl, t24, t25, t26⟩ | ⟨k16, ⟨h18, h19, h20, h21, h22, h23⟩, rfl⟩
  · refine lv_istore (lv' := [(11, .int (-1 : Int32)), (0, .ref bk), (1, .ref reader), (2, .int (nI 4)), (3, .int y)]) hx hb dX0_readRest_228 hl (by decide) rfl (fun ls hl => ?_)
    refine lv_iload hx hb dX0_readRest_230 (lv_at hl 0 rfl) ?_
    refine lv_iconst (v := (-1 : Int32)) hx hb dX0_readRest_232 (by decide) ?_
    refine lv_icmp_eq (tgt := 252) hx hb dX0_readRest_233 (by decide) (fun c27 => ?_) (fun c27 => absurd (by decide) c27)
    refine lv_iconst (v := nI 0) hx hb dX0_readRest_252 (by decide) ?_
    rw [hQ]
    exact W.zret (v := nI 0) hx hb hr (by decide) (fun t9 ht9 hW9 => ⟨⟨nI 0, (blineCount, blinesF, rplaceG_5, rkindG_6, rbeginG_7, rwordG_8, rnumberG_9, rlettersG_10, rfaultKindG_11, rfaultPlaceG_12), rfl, ⟨(lf_f_rest4_3 blineCount bt rlength rmostBytes rplace rkind rbegin rword rnumber rletters rfaultKind rfaultPlace rtapeF gp rplaceG_5 rkindG_6 rbeginG_7 rwordG_8 rnumberG_9 rlettersG_10 rfaultKindG_11 rfaultPlaceG_12 iv_bbk_0 iv_rreader_0 iv_rreader_1 iv_rreader_2 iv_rreader_3 hTC hRT hl9 p14 p15 t24 t25 t26), iv_bbk_0, p14, p15⟩, by rw [ht9]; exact hP, va_K.moved hW9.alike hK, hD⟩, hS.F ht9⟩) hS.2.2 dX0_readRest_253
  · refine lv_istore (lv' := [(11, .int (nI k16)), (0, .ref bk), (1, .ref reader), (2, .int (nI 4)), (3, .int y)]) hx hb dX0_readRest_228 hl (by decide) rfl (fun ls hl => ?_)
    refine lv_iload hx hb dX0_readRest_230 (lv_at hl 0 rfl) ?_
    refine lv_iconst (v := (-1 : Int32)) hx hb dX0_readRest_232 (by decide) ?_
    refine lv_icmp_eq (tgt := 252) hx hb dX0_readRest_233 (by decide) (fun c28 => absurd c28 (nI_neg (lf_f_rest4_4 bt rlength rmostBytes rplace rkind rbegin rword rnumber rletters rtapeF gp rplaceG_5 rkindG_6 rbeginG_7 rwordG_8 rnumberG_9 rlettersG_10 k16 iv_rreader_0 iv_rreader_1 iv_rreader_2 iv_rreader_3 hTC hRT p14 p15 h18 h19 h20 h21))) (fun c28 => ?_)
    refine lv_aload_n hx hb dX0_readRest_236 rfl (lv_at hl 1 rfl) ?_
    refine lv_iload_n hx hb dX0_readRest_237 rfl (lv_at hl 3 rfl) ?_
    refine lv_iload hx hb dX0_readRest_238 (lv_at hl 0 rfl) ?_
    refine lv_iconst (v := nI 0) hx hb dX0_readRest_240 (by decide) ?_
    refine lv_iconst (v := nI 0) hx hb dX0_readRest_241 (by decide) ?_
    refine r_call_i (wr := [(reader, .inr (5, [.ref rtape, .int (nI rlength), .int (nI rmostBytes), .int (nI rplaceG_5), .int rkindG_6, .int (nI rbeginG_7), .int rwordG_8, .int rnumberG_9, .long rlettersG_10, .int rfaultKindG_11, .int rfaultPlaceG_12])), (rtape, .inl (ky 2, 940, .inl rtapeF))]) (va_runV (As := [.int (nI 4), .int (nI k16), .int (nI 0), .int (nI 0)]) (rest := []) ⟨hx, hb, hml, hown, hts⟩ (c_f_bput l dC dI ky H.size bk blines blineCount blived bwhyWrong bfineLines bdayThen beatenThen blinesF (nI 4) (nI k16) (nI 0) (nI 0) iv_bbk_0 hl9) (cwV 4 hts gX0_readRest_X0_put rfl rfl rfl (by decide +kernel) ⟨(Nat.le_of_ble_eq_true rfl), (Nat.le_of_ble_eq_true rfl)⟩) (pre_UV hK hP hD [0, 1] (by decide) rfl (ci := 0) (q0 := 0) rfl rfl) rfl rfl hl.1 rfl (lv_room (Nat.le_of_ble_eq_true rfl)) dX0_readRest_242 ⟨(Nat.le_of_ble_eq_true rfl), (Nat.le_of_ble_eq_true rfl)⟩) hP hD hS hA [0, 1] [2, 3] rfl rfl (by decide) (by decide) (fun r31 u29 H locs p30 hP hD hS => ?_)
    obtain ⟨blineCountG_32, blinesG_33⟩ := u29
    try dsimp only at p30
    obtain ⟨p34, p35, p36⟩ := p30
    refine W.widen (k := 0) (n := 0) (Nat.le_of_ble_eq_true rfl) (Nat.le_of_ble_eq_true rfl) ?_
    have hP : va_P (dC, dI) vwCl [(reader, .inr (5, [.ref rtape, .int (nI rlength), .int (nI rmostBytes), .int (nI rplaceG_5), .int rkindG_6, .int (nI rbeginG_7), .int rwordG_8, .int rnumberG_9, .long rlettersG_10, .int rfaultKindG_11, .int rfaultPlaceG_12])), (rtape, .inl (ky 2, 940, .inl rtapeF)), (bk, .inr (0, [.ref blines, .int (nI blineCountG_32), .int blived, .int bwhyWrong, .int bfineLines, .int bdayThen, .int beatenThen])), (blines, .inl (ky 0, 160, .inl blinesG_33))] H := hP
    have hD : va_D A [(reader, .inr (5, [.ref rtape, .int (nI rlength), .int (nI rmostBytes), .int (nI rplaceG_5), .int rkindG_6, .int (nI rbeginG_7), .int rwordG_8, .int rnumberG_9, .long rlettersG_10, .int rfaultKindG_11, .int rfaultPlaceG_12])), (rtape, .inl (ky 2, 940, .inl rtapeF)), (bk, .inr (0, [.ref blines, .int (nI blineCountG_32), .int blived, .int bwhyWrong, .int bfineLines, .int bdayThen, .int beatenThen])), (blines, .inl (ky 0, 160, .inl blinesG_33))] := hD
    subst p34
    refine lv_if_eq (tgt := 252) hx hb dX0_readRest_245 (by decide) (fun c37 => absurd c37 (by decide)) (fun c37 => ?_)
    refine lv_iconst (v := nI 1) hx hb dX0_readRest_248 (by decide) ?_
    refine lv_goto (tgt := 253) hx hb dX0_readRest_249 (by decide) ?_
    rw [hQ]
    have hP9 := hP.sub (ws' := [(bk, .inr (0, [.ref blines, .int (nI blineCountG_32), .int blived, .int bwhyWrong, .int bfineLines, .int bdayThen, .int beatenThen])), (blines, .inl (ky 0, 160, .inl blinesG_33)), (reader, .inr (5, [.ref rtape, .int (nI rlength), .int (nI rmostBytes), .int (nI rplaceG_5), .int rkindG_6, .int (nI rbeginG_7), .int rwordG_8, .int rnumberG_9, .long rlettersG_10, .int rfaultKindG_11, .int rfaultPlaceG_12])), (rtape, .inl (ky 2, 940, .inl rtapeF))]) [2, 3, 0, 1] rfl
    have hD9 := hD.sub (ws' := [(bk, .inr (0, [.ref blines, .int (nI blineCountG_32), .int blived, .int bwhyWrong, .int bfineLines, .int bdayThen, .int beatenThen])), (blines, .inl (ky 0, 160, .inl blinesG_33)), (reader, .inr (5, [.ref rtape, .int (nI rlength), .int (nI rmostBytes), .int (nI rplaceG_5), .int rkindG_6, .int (nI rbeginG_7), .int rwordG_8, .int rnumberG_9, .long rlettersG_10, .int rfaultKindG_11, .int rfaultPlaceG_12])), (rtape, .inl (ky 2, 940, .inl rtapeF))]) [2, 3, 0, 1] (by decide) rfl
    exact W.zret (v := nI 1) hx hb hr (by decide) (fun t9 ht9 hW9 => ⟨⟨nI 1, (blineCountG_32, blinesG_33, rplaceG_5, rkindG_6, rbeginG_7, rwordG_8, rnumberG_9, rlettersG_10, rfaultKindG_11, rfaultPlaceG_12), rfl, ⟨(lf_f_rest4_5 blineCount bt rlength rmostBytes rplace rkind rbegin rword rnumber rletters rfaultKind rfaultPlace rtapeF gp rplaceG_5 rkindG_6 rbeginG_7 rwordG_8 rnumberG_9 rlettersG_10 rfaultKindG_11 rfaultPlaceG_12 k16 blineCountG_32 iv_bbk_0 iv_rreader_0 iv_rreader_1 iv_rreader_2 iv_rreader_3 hTC hRT hl9 p14 p15 h18 h19 h20 h21 h22 h23 p35 p36), p35, p14, p15⟩, by rw [ht9]; exact hP9, va_K.moved hW9.alike hK, hD9⟩, hS.F ht9⟩) hS.2.2 dX0_readRest_253
set_option maxRecDepth 20000 in
theorem lf_f_rest5_1   : 1 ≤ 10 := by
  try simp only [ia_lt, ia_le, ia_eq, ia_m1, ia_0, ia_1, ne_eq, true_and, and_true, false_and, and_false, or_false, false_or, or_true, true_or, not_true_eq_false, not_false_eq_true] at *
  all_goals omega
set_option maxRecDepth 20000 in
theorem lf_f_rest5_2   : 60 ≤ 1000 := by
  try simp only [ia_lt, ia_le, ia_eq, ia_m1, ia_0, ia_1, ne_eq, true_and, and_true, false_and, and_false, or_false, false_or, or_true, true_or, not_true_eq_false, not_false_eq_true] at *
  all_goals omega
set_option maxRecDepth 20000 in
theorem lf_f_rest5_3 (blineCount : Nat) (bt : Nat → Nat) (rlength : Nat) (rmostBytes : Nat) (rplace : Nat) (rkind : Int32) (rbegin : Nat) (rword : Int32) (rnumber : Int32) (rletters : Int64) (rfaultKind : Int32) (rfaultPlace : Int32) (rtapeF : Nat → Int32) (gp : Nat) (rplaceG_5 : Nat) (rkindG_6 : Int32) (rbeginG_7 : Nat) (rwordG_8 : Int32) (rnumberG_9 : Int32) (rlettersG_10 : Int64) (rfaultKindG_11 : Int32) (rfaultPlaceG_12 : Int32) (iv_bbk_0 : blineCount ≤ 40) (iv_rreader_0 : rlength ≤ 940) (iv_rreader_1 : rplace ≤ rlength) (iv_rreader_2 : rmostBytes ≤ 900) (iv_rreader_3 : rbegin ≤ 940) (hTC : TC bt rtapeF) (hRT : RT bt rlength rmostBytes gp rkind rbegin rplace rword rnumber rletters) (hl9 : blineCount < 40) (p14 : rplaceG_5 ≤ rlength) (p15 : rbeginG_7 ≤ 940) (t24 : pNum bt rlength rmostBytes 1 60 gp = .error (nER bt rlength rmostBytes gp, tF bt rlength rmostBytes gp)) (t25 : rfaultKindG_11 = nI (nER bt rlength rmostBytes gp)) (t26 : rfaultPlaceG_12 = nI (tF bt rlength rmostBytes gp)) : ((nI 0) = nI 1 ∧ (isO (bRest bt rlength rmostBytes 19 gp) = true ∧ RT bt rlength rmostBytes (okV (bRest bt rlength rmostBytes 19 gp)) rkindG_6 rbeginG_7 rplaceG_5 rwordG_8 rnumberG_9 rlettersG_10 ∧ blineCount = blineCount + 1 ∧ rfaultKindG_11 = rfaultKind ∧ rfaultPlaceG_12 = rfaultPlace)) ∨ ((nI 0) = nI 0 ∧ (isO (bRest bt rlength rmostBytes 19 gp) = false ∧ rfaultKindG_11 = nI (erA (bRest bt rlength rmostBytes 19 gp)) ∧ rfaultPlaceG_12 = nI (erB (bRest bt rlength rmostBytes 19 gp)))) := by
  rw [br_19, p1_e (by assumption)]
  exact Or.inr ⟨rfl, rfl, ‹_›, ‹_›⟩
set_option maxRecDepth 20000 in
theorem lf_f_rest5_4 (bt : Nat → Nat) (rlength : Nat) (rmostBytes : Nat) (rplace : Nat) (rkind : Int32) (rbegin : Nat) (rword : Int32) (rnumber : Int32) (rletters : Int64) (rtapeF : Nat → Int32) (gp : Nat) (rplaceG_5 : Nat) (rkindG_6 : Int32) (rbeginG_7 : Nat) (rwordG_8 : Int32) (rnumberG_9 : Int32) (rlettersG_10 : Int64) (k16 : Nat) (iv_rreader_0 : rlength ≤ 940) (iv_rreader_1 : rplace ≤ rlength) (iv_rreader_2 : rmostBytes ≤ 900) (iv_rreader_3 : rbegin ≤ 940) (hTC : TC bt rtapeF) (hRT : RT bt rlength rmostBytes gp rkind rbegin rplace rword rnumber rletters) (p14 : rplaceG_5 ≤ rlength) (p15 : rbeginG_7 ≤ 940) (h18 : pNum bt rlength rmostBytes 1 60 gp = .ok k16) (h19 : 1 ≤ k16) (h20 : k16 ≤ 60) (h21 : RT bt rlength rmostBytes (tT bt rlength rmostBytes gp) rkindG_6 rbeginG_7 rplaceG_5 rwordG_8 rnumberG_9 rlettersG_10) : k16 < 2147483648 := by
  have b_rkind := ia_b rkind
  have b_rword := ia_b rword
  have b_rnumber := ia_b rnumber
  have b_rkindG_6 := ia_b rkindG_6
  have b_rwordG_8 := ia_b rwordG_8
  have b_rnumberG_9 := ia_b rnumberG_9
  have b_rletters := Int64.toInt_lt rletters
  have b_rlettersG_10 := Int64.toInt_lt rlettersG_10
  try simp only [ia_lt, ia_le, ia_eq, ia_m1, ia_0, ia_1, ne_eq, true_and, and_true, false_and, and_false, or_false, false_or, or_true, true_or, not_true_eq_false, not_false_eq_true] at *
  all_goals omega
set_option maxRecDepth 20000 in
theorem lf_f_rest5_5 (blineCount : Nat) (bt : Nat → Nat) (rlength : Nat) (rmostBytes : Nat) (rplace : Nat) (rkind : Int32) (rbegin : Nat) (rword : Int32) (rnumber : Int32) (rletters : Int64) (rfaultKind : Int32) (rfaultPlace : Int32) (rtapeF : Nat → Int32) (gp : Nat) (rplaceG_5 : Nat) (rkindG_6 : Int32) (rbeginG_7 : Nat) (rwordG_8 : Int32) (rnumberG_9 : Int32) (rlettersG_10 : Int64) (rfaultKindG_11 : Int32) (rfaultPlaceG_12 : Int32) (k16 : Nat) (blineCountG_32 : Nat) (iv_bbk_0 : blineCount ≤ 40) (iv_rreader_0 : rlength ≤ 940) (iv_rreader_1 : rplace ≤ rlength) (iv_rreader_2 : rmostBytes ≤ 900) (iv_rreader_3 : rbegin ≤ 940) (hTC : TC bt rtapeF) (hRT : RT bt rlength rmostBytes gp rkind rbegin rplace rword rnumber rletters) (hl9 : blineCount < 40) (p14 : rplaceG_5 ≤ rlength) (p15 : rbeginG_7 ≤ 940) (h18 : pNum bt rlength rmostBytes 1 60 gp = .ok k16) (h19 : 1 ≤ k16) (h20 : k16 ≤ 60) (h21 : RT bt rlength rmostBytes (tT bt rlength rmostBytes gp) rkindG_6 rbeginG_7 rplaceG_5 rwordG_8 rnumberG_9 rlettersG_10) (h22 : rfaultKindG_11 = rfaultKind) (h23 : rfaultPlaceG_12 = rfaultPlace) (p35 : blineCountG_32 ≤ 40) (p36 : blineCountG_32 = blineCount + 1) : ((nI 1) = nI 1 ∧ (isO (bRest bt rlength rmostBytes 19 gp) = true ∧ RT bt rlength rmostBytes (okV (bRest bt rlength rmostBytes 19 gp)) rkindG_6 rbeginG_7 rplaceG_5 rwordG_8 rnumberG_9 rlettersG_10 ∧ blineCountG_32 = blineCount + 1 ∧ rfaultKindG_11 = rfaultKind ∧ rfaultPlaceG_12 = rfaultPlace)) ∨ ((nI 1) = nI 0 ∧ (isO (bRest bt rlength rmostBytes 19 gp) = false ∧ rfaultKindG_11 = nI (erA (bRest bt rlength rmostBytes 19 gp)) ∧ rfaultPlaceG_12 = nI (erB (bRest bt rlength rmostBytes 19 gp)))) := by
  rw [br_19, p1_o (by assumption)]
  exact Or.inl ⟨rfl, rfl, ‹_›, (by first | rfl | assumption | (subst_vars; rfl) | (subst_vars; assumption)), (by first | rfl | assumption | (subst_vars; rfl) | (subst_vars; assumption)), (by first | rfl | assumption | (subst_vars; rfl) | (subst_vars; assumption))⟩
set_option maxHeartbeats 4000000 in
set_option maxRecDepth 100000 in
theorem c_f_rest5 (l : Launch) (dC : Nat → ClassId) (dI : Nat → Nat → Nat) (ky : Nat → ClassId) (sz : Nat) (adK : Nat → Nat) (adV : Nat → Nat) (bk : Nat) (blines : Nat) (blineCount : Nat) (blived : Int32) (bwhyWrong : Int32) (bfineLines : Int32) (bdayThen : Int32) (beatenThen : Int32) (blinesF : Nat → Int32) (bt : Nat → Nat) (reader : Nat) (rtape : Nat) (rlength : Nat) (rmostBytes : Nat) (rplace : Nat) (rkind : Int32) (rbegin : Nat) (rword : Int32) (rnumber : Int32) (rletters : Int64) (rfaultKind : Int32) (rfaultPlace : Int32) (rtapeF : Nat → Int32) (gp : Nat) (y : Int32) (iv_bbk_0 : blineCount ≤ 40) (iv_rreader_0 : rlength ≤ 940) (iv_rreader_1 : rplace ≤ rlength) (iv_rreader_2 : rmostBytes ≤ 900) (iv_rreader_3 : rbegin ≤ 940) (hTC : TC bt rtapeF) (hRT : RT bt rlength rmostBytes gp rkind rbegin rplace rword rnumber rletters) (hl9 : blineCount < 40) : Met l yX0_readRest wsX0_readRest ({ frames := 7, cells := 0, slots := 0, locals := 154 }) (PcUE dC dI ky adK adV [.ref bk, .ref reader, .int (nI 5), .int y] [(bk, .inr (0, [.ref blines, .int (nI blineCount), .int blived, .int bwhyWrong, .int bfineLines, .int bdayThen, .int beatenThen])), (blines, .inl (ky 0, 160, .inl blinesF)), (reader, .inr (5, [.ref rtape, .int (nI rlength), .int (nI rmostBytes), .int (nI rplace), .int rkind, .int (nI rbegin), .int rword, .int rnumber, .long rletters, .int rfaultKind, .int rfaultPlace])), (rtape, .inl (ky 2, 940, .inl rtapeF))] sz) (va_Qi (fun (r : Int32) (u : Nat × (Nat → Int32) × Nat × Int32 × Nat × Int32 × Int32 × Int64 × Int32 × Int32) => match u with | (blineCountG, blinesG, rplaceG, rkindG, rbeginG, rwordG, rnumberG, rlettersG, rfaultKindG, rfaultPlaceG) => ((r = nI 1 ∧ (isO (bRest bt rlength rmostBytes 19 gp) = true ∧ RT bt rlength rmostBytes (okV (bRest bt rlength rmostBytes 19 gp)) rkindG rbeginG rplaceG rwordG rnumberG rlettersG ∧ blineCountG = blineCount + 1 ∧ rfaultKindG = rfaultKind ∧ rfaultPlaceG = rfaultPlace)) ∨ (r = nI 0 ∧ (isO (bRest bt rlength rmostBytes 19 gp) = false ∧ rfaultKindG = nI (erA (bRest bt rlength rmostBytes 19 gp)) ∧ rfaultPlaceG = nI (erB (bRest bt rlength rmostBytes 19 gp))))) ∧ (blineCountG ≤ 40) ∧ (rplaceG ≤ rlength) ∧ (rbeginG ≤ 940)) (BU dC dI ky (fun (u : Nat × (Nat → Int32) × Nat × Int32 × Nat × Int32 × Int32 × Int64 × Int32 × Int32) => match u with | (blineCountG, blinesG, rplaceG, rkindG, rbeginG, rwordG, rnumberG, rlettersG, rfaultKindG, rfaultPlaceG) => [(bk, .inr (0, [.ref blines, .int (nI blineCountG), .int blived, .int bwhyWrong, .int bfineLines, .int bdayThen, .int beatenThen])), (blines, .inl (ky 0, 160, .inl blinesG)), (reader, .inr (5, [.ref rtape, .int (nI rlength), .int (nI rmostBytes), .int (nI rplaceG), .int rkindG, .int (nI rbeginG), .int rwordG, .int rnumberG, .long rlettersG, .int rfaultKindG, .int rfaultPlaceG])), (rtape, .inl (ky 2, 940, .inl rtapeF))]) (va_A [(bk, .inr (0, [.ref blines, .int (nI blineCount), .int blived, .int bwhyWrong, .int bfineLines, .int bdayThen, .int beatenThen])), (blines, .inl (ky 0, 160, .inl blinesF)), (reader, .inr (5, [.ref rtape, .int (nI rlength), .int (nI rmostBytes), .int (nI rplace), .int rkind, .int (nI rbegin), .int rword, .int rnumber, .long rletters, .int rfaultKind, .int rfaultPlace])), (rtape, .inl (ky 2, 940, .inl rtapeF))] sz)) (va_A [(bk, .inr (0, [.ref blines, .int (nI blineCount), .int blived, .int bwhyWrong, .int bfineLines, .int bdayThen, .int beatenThen])), (blines, .inl (ky 0, 160, .inl blinesF)), (reader, .inr (5, [.ref rtape, .int (nI rlength), .int (nI rmostBytes), .int (nI rplace), .int rkind, .int (nI rbegin), .int rword, .int rnumber, .long rletters, .int rfaultKind, .int rfaultPlace])), (rtape, .inl (ky 2, 940, .inl rtapeF))] sz)) 0 0 (va_A [(bk, .inr (0, [.ref blines, .int (nI blineCount), .int blived, .int bwhyWrong, .int bfineLines, .int bdayThen, .int beatenThen])), (blines, .inl (ky 0, 160, .inl blinesF)), (reader, .inr (5, [.ref rtape, .int (nI rlength), .int (nI rmostBytes), .int (nI rplace), .int rkind, .int (nI rbegin), .int rword, .int rnumber, .long rletters, .int rfaultKind, .int rfaultPlace])), (rtape, .inl (ky 2, 940, .inl rtapeF))] sz) := by
  refine Met.ofW (cc := cX0_readRest) (maxL := 12) (ret := (some .boolean)) (by decide) rfl ?_
  intro p e s m args below meth c s₁ B hml hv
  obtain ⟨rfl, hsz, hP, hK, hD0, hE⟩ := hv
  have hx := B.exec
  have hb := B.bytes
  have hr := B.returns
  have hts := atoms_spec (ws := wsX0_readRest) B.pre
  have hown : s.vm.findClass RX0 = some m.cls := findClass_of_methodNamed B.named
  have hlocks := B.notSynchronized
  subst hsz
  have hD := hD0.self (sz := s.heap.size)
  generalize hAe : va_A [(bk, .inr (0, [.ref blines, .int (nI blineCount), .int blived, .int bwhyWrong, .int bfineLines, .int bdayThen, .int beatenThen])), (blines, .inl (ky 0, 160, .inl blinesF)), (reader, .inr (5, [.ref rtape, .int (nI rlength), .int (nI rmostBytes), .int (nI rplace), .int rkind, .int (nI rbegin), .int rword, .int rnumber, .long rletters, .int rfaultKind, .int rfaultPlace])), (rtape, .inl (ky 2, 940, .inl rtapeF))] s.heap.size = A at hD hE ⊢
  have hA : ∀ q : Nat, s.heap.size ≤ q → A q := fun q h => by rw [← hAe]; exact Or.inr h
  have hS : va_S A s.heap s.heap [] := va_S.rf
  have hl := lv_entry ([.ref bk, .ref reader, .int (nI 5), .int y]) (n := 12) (Nat.le_of_ble_eq_true rfl)
  rw [lg_entry_eq]
  generalize (lg_sl ([.ref bk, .ref reader, .int (nI 5), .int y]) ++ List.replicate (12 - (lg_sl ([.ref bk, .ref reader, .int (nI 5), .int y])).length) Slot.unset).toArray = ls at hl ⊢
  have hl : lv_has ls 12 [(0, .ref bk), (1, .ref reader), (2, .int (nI 5)), (3, .int y)] := hl
  refine q_name (fun Q hQ => ?_)
  generalize ([.ref bk, .ref reader, .int (nI 5), .int y] : List Value).toArray = args at hts hQ ⊢
  refine lv_iload_n hx hb dX0_readRest_0 rfl (lv_at hl 2 rfl) ?_
  refine lv_tableOut (tgt := 211) hx hb dX0_readRest_1 (by decide) (by decide) ?_
  refine lv_aload_n hx hb dX0_readRest_211 rfl (lv_at hl 1 rfl) ?_
  refine lv_iconst (v := nI 1) hx hb dX0_readRest_212 (by decide) ?_
  refine lv_iload_n hx hb dX0_readRest_213 rfl (lv_at hl 2 rfl) ?_
  refine lv_iconst (v := nI 4) hx hb dX0_readRest_214 (by decide) ?_
  refine lv_icmp_ne (tgt := 223) hx hb dX0_readRest_215 (by decide) (fun c1 => ?_) (fun c1 => absurd c1 (by decide))
  refine lv_bipush (v := nI 60) hx hb dX0_readRest_223 (by decide) ?_
  refine r_call_i (wr := [(bk, .inr (0, [.ref blines, .int (nI blineCount), .int blived, .int bwhyWrong, .int bfineLines, .int bdayThen, .int beatenThen])), (blines, .inl (ky 0, 160, .inl blinesF))]) (va_runV (As := [.int (nI 1), .int (nI 60)]) (rest := []) ⟨hx, hb, hml, hown, hts⟩ (c_f_takeNumber l dC dI ky s.heap.size adK adV bt reader rtape rlength rmostBytes rplace rkind rbegin rword rnumber rletters rfaultKind rfaultPlace rtapeF gp 1 60 iv_rreader_0 iv_rreader_1 iv_rreader_2 iv_rreader_3 hTC (lf_f_rest5_1) (lf_f_rest5_2) hRT) (cwV 2 hts gX0_readRest_X5_takeNumber rfl rfl rfl (by decide +kernel) ⟨(Nat.le_of_ble_eq_true rfl), (Nat.le_of_ble_eq_true rfl)⟩) (pre_UEV hE hS hA hK hP hD [2, 3] (by decide) rfl (va_recv hK hP (ci := 5) (q0 := 2) rfl rfl)) rfl rfl hl.1 rfl (lv_room (Nat.le_of_ble_eq_true rfl)) dX0_readRest_225 ⟨(Nat.le_of_ble_eq_true rfl), (Nat.le_of_ble_eq_true rfl)⟩) hP hD hS hA [2, 3] [0, 1] rfl rfl (by decide) (by decide) (fun r4 u2 H locs p3 hP hD hS => ?_)
  obtain ⟨rplaceG_5, rkindG_6, rbeginG_7, rwordG_8, rnumberG_9, rlettersG_10, rfaultKindG_11, rfaultPlaceG_12⟩ := u2
  try dsimp only at p3
  obtain ⟨p13, p14, p15⟩ := p3
  refine W.widen (k := 0) (n := 0) (Nat.le_of_ble_eq_true rfl) (Nat.le_of_ble_eq_true rfl) ?_
  have hP : va_P (dC, dI) vwCl [(bk, .inr (0, [.ref blines, .int (nI blineCount), .int blived, .int bwhyWrong, .int bfineLines, .int bdayThen, .int beatenThen])), (blines, .inl (ky 0, 160, .inl blinesF)), (reader, .inr (5, [.ref rtape, .int (nI rlength), .int (nI rmostBytes), .int (nI rplaceG_5), .int rkindG_6, .int (nI rbeginG_7), .int rwordG_8, .int rnumberG_9, .long rlettersG_10, .int rfaultKindG_11, .int rfaultPlaceG_12])), (rtape, .inl (ky 2, 940, .inl rtapeF))] H := hP
  have hD : va_D A [(bk, .inr (0, [.ref blines, .int (nI blineCount), .int blived, .int bwhyWrong, .int bfineLines, .int bdayThen, .int beatenThen])), (blines, .inl (ky 0, 160, .inl blinesF)), (reader, .inr (5, [.ref rtape, .int (nI rlength), .int (nI rmostBytes), .int (nI rplaceG_5), .int rkindG_6, .int (nI rbeginG_7), .int rwordG_8, .int rnumberG_9, .long rlettersG_10, .int rfaultKindG_11, .int rfaultPlaceG_12])), (rtape, .inl (ky 2, 940, .inl rtapeF))] := hD
  rcases p13 with ⟨rfl, t24, t25, t26⟩ | ⟨k16, ⟨h18, h19, h20, h21, h22, h23⟩, rfl⟩
  · refine lv_istore (lv' := [(11, .int (-1 : Int32)), (0, .ref bk), (1, .ref reader), (2, .int (nI 5)), (3, .int y)]) hx hb dX0_readRest_228 hl (by decide) rfl (fun ls hl => ?_)
    refine lv_iload hx hb dX0_readRest_230 (lv_at hl 0 rfl) ?_
    refine lv_iconst (v := (-1 : Int32)) hx hb dX0_readRest_232 (by decide) ?_
    refine lv_icmp_eq (tgt := 252) hx hb dX0_readRest_233 (by decide) (fun c27 => ?_) (fun c27 => absurd (by decide) c27)
    refine lv_iconst (v := nI 0) hx hb dX0_readRest_252 (by decide) ?_
    rw [hQ]
    exact W.zret (v := nI 0) hx hb hr (by decide) (fun t9 ht9 hW9 => ⟨⟨nI 0, (blineCount, blinesF, rplaceG_5, rkindG_6, rbeginG_7, rwordG_8, rnumberG_9, rlettersG_10, rfaultKindG_11, rfaultPlaceG_12), rfl, ⟨(lf_f_rest5_3 blineCount bt rlength rmostBytes rplace rkind rbegin rword rnumber rletters rfaultKind rfaultPlace rtapeF gp rplaceG_5 rkindG_6 rbeginG_7 rwordG_8 rnumberG_9 rlettersG_10 rfaultKindG_11 rfaultPlaceG_12 iv_bbk_0 iv_rreader_0 iv_rreader_1 iv_rreader_2 iv_rreader_3 hTC hRT hl9 p14 p15 t24 t25 t26), iv_bbk_0, p14, p15⟩, by rw [ht9]; exact hP, va_K.moved hW9.alike hK, hD⟩, hS.F ht9⟩) hS.2.2 dX0_readRest_253
  · refine lv_istore (lv' := [(11, .int (nI k16)), (0, .ref bk), (1, .ref reader), (2, .int (nI 5)), (3, .int y)]) hx hb dX0_readRest_228 hl (by decide) rfl (fun ls hl => ?_)
    refine lv_iload hx hb dX0_readRest_230 (lv_at hl 0 rfl) ?_
    refine lv_iconst (v := (-1 : Int32)) hx hb dX0_readRest_232 (by decide) ?_
    refine lv_icmp_eq (tgt := 252) hx hb dX0_readRest_233 (by decide) (fun c28 => absurd c28 (nI_neg (lf_f_rest5_4 bt rlength rmostBytes rplace rkind rbegin rword rnumber rletters rtapeF gp rplaceG_5 rkindG_6 rbeginG_7 rwordG_8 rnumberG_9 rlettersG_10 k16 iv_rreader_0 iv_rreader_1 iv_rreader_2 iv_rreader_3 hTC hRT p14 p15 h18 h19 h20 h21))) (fun c28 => ?_)
    refine lv_aload_n hx hb dX0_readRest_236 rfl (lv_at hl 1 rfl) ?_
    refine lv_iload_n hx hb dX0_readRest_237 rfl (lv_at hl 3 rfl) ?_
    refine lv_iload hx hb dX0_readRest_238 (lv_at hl 0 rfl) ?_
    refine lv_iconst (v := nI 0) hx hb dX0_readRest_240 (by decide) ?_
    refine lv_iconst (v := nI 0) hx hb dX0_readRest_241 (by decide) ?_
    refine r_call_i (wr := [(reader, .inr (5, [.ref rtape, .int (nI rlength), .int (nI rmostBytes), .int (nI rplaceG_5), .int rkindG_6, .int (nI rbeginG_7), .int rwordG_8, .int rnumberG_9, .long rlettersG_10, .int rfaultKindG_11, .int rfaultPlaceG_12])), (rtape, .inl (ky 2, 940, .inl rtapeF))]) (va_runV (As := [.int (nI 5), .int (nI k16), .int (nI 0), .int (nI 0)]) (rest := []) ⟨hx, hb, hml, hown, hts⟩ (c_f_bput l dC dI ky H.size bk blines blineCount blived bwhyWrong bfineLines bdayThen beatenThen blinesF (nI 5) (nI k16) (nI 0) (nI 0) iv_bbk_0 hl9) (cwV 4 hts gX0_readRest_X0_put rfl rfl rfl (by decide +kernel) ⟨(Nat.le_of_ble_eq_true rfl), (Nat.le_of_ble_eq_true rfl)⟩) (pre_UV hK hP hD [0, 1] (by decide) rfl (ci := 0) (q0 := 0) rfl rfl) rfl rfl hl.1 rfl (lv_room (Nat.le_of_ble_eq_true rfl)) dX0_readRest_242 ⟨(Nat.le_of_ble_eq_true rfl), (Nat.le_of_ble_eq_true rfl)⟩) hP hD hS hA [0, 1] [2, 3] rfl rfl (by decide) (by decide) (fun r31 u29 H locs p30 hP hD hS => ?_)
    obtain ⟨blineCountG_32, blinesG_33⟩ := u29
    try dsimp only at p30
    obtain ⟨p34, p35, p36⟩ := p30
    refine W.widen (k := 0) (n := 0) (Nat.le_of_ble_eq_true rfl) (Nat.le_of_ble_eq_true rfl) ?_
    have hP : va_P (dC, dI) vwCl [(reader, .inr (5, [.ref rtape, .int (nI rlength), .int (nI rmostBytes), .int (nI rplaceG_5), .int rkindG_6, .int (nI rbeginG_7), .int rwordG_8, .int rnumberG_9, .long rlettersG_10, .int rfaultKindG_11, .int rfaultPlaceG_12])), (rtape, .inl (ky 2, 940, .inl rtapeF)), (bk, .inr (0, [.ref blines, .int (nI blineCountG_32), .int blived, .int bwhyWrong, .int bfineLines, .int bdayThen, .int beatenThen])), (blines, .inl (ky 0, 160, .inl blinesG_33))] H := hP
    have hD : va_D A [(reader, .inr (5, [.ref rtape, .int (nI rlength), .int (nI rmostBytes), .int (nI rplaceG_5), .int rkindG_6, .int (nI rbeginG_7), .int rwordG_8, .int rnumberG_9, .long rlettersG_10, .int rfaultKindG_11, .int rfaultPlaceG_12])), (rtape, .inl (ky 2, 940, .inl rtapeF)), (bk, .inr (0, [.ref blines, .int (nI blineCountG_32), .int blived, .int bwhyWrong, .int bfineLines, .int bdayThen, .int beatenThen])), (blines, .inl (ky 0, 160, .inl blinesG_33))] := hD
    subst p34
    refine lv_if_eq (tgt := 252) hx hb dX0_readRest_245 (by decide) (fun c37 => absurd c37 (by decide)) (fun c37 => ?_)
    refine lv_iconst (v := nI 1) hx hb dX0_readRest_248 (by decide) ?_
    refine lv_goto (tgt := 253) hx hb dX0_readRest_249 (by decide) ?_
    rw [hQ]
    have hP9 := hP.sub (ws' := [(bk, .inr (0, [.ref blines, .int (nI blineCountG_32), .int blived, .int bwhyWrong, .int bfineLines, .int bdayThen, .int beatenThen])), (blines, .inl (ky 0, 160, .inl blinesG_33)), (reader, .inr (5, [.ref rtape, .int (nI rlength), .int (nI rmostBytes), .int (nI rplaceG_5), .int rkindG_6, .int (nI rbeginG_7), .int rwordG_8, .int rnumberG_9, .long rlettersG_10, .int rfaultKindG_11, .int rfaultPlaceG_12])), (rtape, .inl (ky 2, 940, .inl rtapeF))]) [2, 3, 0, 1] rfl
    have hD9 := hD.sub (ws' := [(bk, .inr (0, [.ref blines, .int (nI blineCountG_32), .int blived, .int bwhyWrong, .int bfineLines, .int bdayThen, .int beatenThen])), (blines, .inl (ky 0, 160, .inl blinesG_33)), (reader, .inr (5, [.ref rtape, .int (nI rlength), .int (nI rmostBytes), .int (nI rplaceG_5), .int rkindG_6, .int (nI rbeginG_7), .int rwordG_8, .int rnumberG_9, .long rlettersG_10, .int rfaultKindG_11, .int rfaultPlaceG_12])), (rtape, .inl (ky 2, 940, .inl rtapeF))]) [2, 3, 0, 1] (by decide) rfl
    exact W.zret (v := nI 1) hx hb hr (by decide) (fun t9 ht9 hW9 => ⟨⟨nI 1, (blineCountG_32, blinesG_33, rplaceG_5, rkindG_6, rbeginG_7, rwordG_8, rnumberG_9, rlettersG_10, rfaultKindG_11, rfaultPlaceG_12), rfl, ⟨(lf_f_rest5_5 blineCount bt rlength rmostBytes rplace rkind rbegin rword rnumber rletters rfaultKind rfaultPlace rtapeF gp rplaceG_5 rkindG_6 rbeginG_7 rwordG_8 rnumberG_9 rlettersG_10 rfaultKindG_11 rfaultPlaceG_12 k16 blineCountG_32 iv_bbk_0 iv_rreader_0 iv_rreader_1 iv_rreader_2 iv_rreader_3 hTC hRT hl9 p14 p15 h18 h19 h20 h21 h22 h23 p35 p36), p35, p14, p15⟩, by rw [ht9]; exact hP9, va_K.moved hW9.alike hK, hD9⟩, hS.F ht9⟩) hS.2.2 dX0_readRest_253
