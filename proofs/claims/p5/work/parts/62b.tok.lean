set_option maxRecDepth 20000 in
theorem lf_f_isLetter_1 (x : Int32) (c1 : x < nI 97) : ((nI 0) = nI 1 ∧ (97 ≤ x.toInt ∧ x.toInt ≤ 122)) ∨ ((nI 0) = nI 0 ∧ (¬ (97 ≤ x.toInt ∧ x.toInt ≤ 122))) := by
  have b_x := ia_b x
  try have k_0 := ia_n 97 (by first | decide | omega)
  try have k_1 := ia_n 0 (by first | decide | omega)
  try have k_2 := ia_n 1 (by first | decide | omega)
  try simp only [ia_lt, ia_le, ia_eq, ia_m1, ia_0, ia_1, ne_eq, true_and, and_true, false_and, and_false, or_false, false_or, or_true, true_or, not_true_eq_false, not_false_eq_true] at *
  all_goals omega
set_option maxRecDepth 20000 in
theorem lf_f_isLetter_2 (x : Int32) (c1 : ¬ x < nI 97) (c2 : nI 122 < x) : ((nI 0) = nI 1 ∧ (97 ≤ x.toInt ∧ x.toInt ≤ 122)) ∨ ((nI 0) = nI 0 ∧ (¬ (97 ≤ x.toInt ∧ x.toInt ≤ 122))) := by
  have b_x := ia_b x
  try have k_0 := ia_n 97 (by first | decide | omega)
  try have k_1 := ia_n 122 (by first | decide | omega)
  try have k_2 := ia_n 0 (by first | decide | omega)
  try have k_3 := ia_n 1 (by first | decide | omega)
  try simp only [ia_lt, ia_le, ia_eq, ia_m1, ia_0, ia_1, ne_eq, true_and, and_true, false_and, and_false, or_false, false_or, or_true, true_or, not_true_eq_false, not_false_eq_true] at *
  all_goals omega
set_option maxRecDepth 20000 in
theorem lf_f_isLetter_3 (x : Int32) (c1 : ¬ x < nI 97) (c2 : ¬ nI 122 < x) : ((nI 1) = nI 1 ∧ (97 ≤ x.toInt ∧ x.toInt ≤ 122)) ∨ ((nI 1) = nI 0 ∧ (¬ (97 ≤ x.toInt ∧ x.toInt ≤ 122))) := by
  have b_x := ia_b x
  try have k_0 := ia_n 97 (by first | decide | omega)
  try have k_1 := ia_n 122 (by first | decide | omega)
  try have k_2 := ia_n 1 (by first | decide | omega)
  try have k_3 := ia_n 0 (by first | decide | omega)
  try simp only [ia_lt, ia_le, ia_eq, ia_m1, ia_0, ia_1, ne_eq, true_and, and_true, false_and, and_false, or_false, false_or, or_true, true_or, not_true_eq_false, not_false_eq_true] at *
  all_goals omega
set_option maxHeartbeats 4000000 in
set_option maxRecDepth 100000 in
theorem c_f_isLetter (l : Launch) (dC : Nat → ClassId) (dI : Nat → Nat → Nat) (ky : Nat → ClassId) (x : Int32)  : Met l yX5_isLetter wsX5_isLetter ({ frames := 0, cells := 0, slots := 0, locals := 0 }) (PcP dC dI ky [.int x] []) (vp_Si (fun r : Int32 => (r = nI 1 ∧ (97 ≤ x.toInt ∧ x.toInt ≤ 122)) ∨ (r = nI 0 ∧ (¬ (97 ≤ x.toInt ∧ x.toInt ≤ 122))))) 0 0 (fun _ => False) := by
  refine Met.ofW (cc := cX5_isLetter) (maxL := 1) (ret := (some .boolean)) (by decide) rfl ?_
  intro p e s m args below meth c s₁ B hml hv
  obtain ⟨rfl, hP, hK⟩ := hv
  have hx := B.exec
  have hb := B.bytes
  have hr := B.returns
  have hts := atoms_spec (ws := wsX5_isLetter) B.pre
  have hown : s.vm.findClass RX5 = some m.cls := findClass_of_methodNamed B.named
  have hlocks := B.notSynchronized
  have hl := lv_entry ([.int x]) (n := 1) (Nat.le_of_ble_eq_true rfl)
  rw [lg_entry_eq]
  generalize (lg_sl ([.int x]) ++ List.replicate (1 - (lg_sl ([.int x])).length) Slot.unset).toArray = ls at hl ⊢
  have hl : lv_has ls 1 [(0, .int x)] := hl
  refine q_name (fun Q hQ => ?_)
  generalize ([.int x] : List Value).toArray = args at hts hQ ⊢
  refine lv_iload_n hx hb dX5_isLetter_0 rfl (lv_at hl 0 rfl) ?_
  refine lv_bipush (v := nI 97) hx hb dX5_isLetter_1 (by decide) ?_
  refine lv_icmp_lt (tgt := 16) hx hb dX5_isLetter_3 (by decide) (fun c1 => ?_) (fun c1 => ?_)
  · refine lv_iconst (v := nI 0) hx hb dX5_isLetter_16 (by decide) ?_
    rw [hQ]
    exact W.zret (v := nI 0) hx hb hr (by decide) (fun t9 ht9 hW9 => ⟨nI 0, rfl, (lf_f_isLetter_1 x c1), ht9⟩) (fun _ h => absurd h List.not_mem_nil) dX5_isLetter_17
  · refine lv_iload_n hx hb dX5_isLetter_6 rfl (lv_at hl 0 rfl) ?_
    refine lv_bipush (v := nI 122) hx hb dX5_isLetter_7 (by decide) ?_
    refine lv_icmp_gt (tgt := 16) hx hb dX5_isLetter_9 (by decide) (fun c2 => ?_) (fun c2 => ?_)
    · refine lv_iconst (v := nI 0) hx hb dX5_isLetter_16 (by decide) ?_
      rw [hQ]
      exact W.zret (v := nI 0) hx hb hr (by decide) (fun t9 ht9 hW9 => ⟨nI 0, rfl, (lf_f_isLetter_2 x c1 c2), ht9⟩) (fun _ h => absurd h List.not_mem_nil) dX5_isLetter_17
    · refine lv_iconst (v := nI 1) hx hb dX5_isLetter_12 (by decide) ?_
      refine lv_goto (tgt := 17) hx hb dX5_isLetter_13 (by decide) ?_
      rw [hQ]
      exact W.zret (v := nI 1) hx hb hr (by decide) (fun t9 ht9 hW9 => ⟨nI 1, rfl, (lf_f_isLetter_3 x c1 c2), ht9⟩) (fun _ h => absurd h List.not_mem_nil) dX5_isLetter_17
set_option maxRecDepth 20000 in
theorem lf_f_isDigit_1 (x : Int32) (c1 : x < nI 48) : ((nI 0) = nI 1 ∧ (48 ≤ x.toInt ∧ x.toInt ≤ 57)) ∨ ((nI 0) = nI 0 ∧ (¬ (48 ≤ x.toInt ∧ x.toInt ≤ 57))) := by
  have b_x := ia_b x
  try have k_0 := ia_n 48 (by first | decide | omega)
  try have k_1 := ia_n 0 (by first | decide | omega)
  try have k_2 := ia_n 1 (by first | decide | omega)
  try simp only [ia_lt, ia_le, ia_eq, ia_m1, ia_0, ia_1, ne_eq, true_and, and_true, false_and, and_false, or_false, false_or, or_true, true_or, not_true_eq_false, not_false_eq_true] at *
  all_goals omega
set_option maxRecDepth 20000 in
theorem lf_f_isDigit_2 (x : Int32) (c1 : ¬ x < nI 48) (c2 : nI 57 < x) : ((nI 0) = nI 1 ∧ (48 ≤ x.toInt ∧ x.toInt ≤ 57)) ∨ ((nI 0) = nI 0 ∧ (¬ (48 ≤ x.toInt ∧ x.toInt ≤ 57))) := by
  have b_x := ia_b x
  try have k_0 := ia_n 48 (by first | decide | omega)
  try have k_1 := ia_n 57 (by first | decide | omega)
  try have k_2 := ia_n 0 (by first | decide | omega)
  try have k_3 := ia_n 1 (by first | decide | omega)
  try simp only [ia_lt, ia_le, ia_eq, ia_m1, ia_0, ia_1, ne_eq, true_and, and_true, false_and, and_false, or_false, false_or, or_true, true_or, not_true_eq_false, not_false_eq_true] at *
  all_goals omega
set_option maxRecDepth 20000 in
theorem lf_f_isDigit_3 (x : Int32) (c1 : ¬ x < nI 48) (c2 : ¬ nI 57 < x) : ((nI 1) = nI 1 ∧ (48 ≤ x.toInt ∧ x.toInt ≤ 57)) ∨ ((nI 1) = nI 0 ∧ (¬ (48 ≤ x.toInt ∧ x.toInt ≤ 57))) := by
  have b_x := ia_b x
  try have k_0 := ia_n 48 (by first | decide | omega)
  try have k_1 := ia_n 57 (by first | decide | omega)
  try have k_2 := ia_n 1 (by first | decide | omega)
  try have k_3 := ia_n 0 (by first | decide | omega)
  try simp only [ia_lt, ia_le, ia_eq, ia_m1, ia_0, ia_1, ne_eq, true_and, and_true, false_and, and_false, or_false, false_or, or_true, true_or, not_true_eq_false, not_false_eq_true] at *
  all_goals omega
set_option maxHeartbeats 4000000 in
set_option maxRecDepth 100000 in
theorem c_f_isDigit (l : Launch) (dC : Nat → ClassId) (dI : Nat → Nat → Nat) (ky : Nat → ClassId) (x : Int32)  : Met l yX5_isDigit wsX5_isDigit ({ frames := 0, cells := 0, slots := 0, locals := 0 }) (PcP dC dI ky [.int x] []) (vp_Si (fun r : Int32 => (r = nI 1 ∧ (48 ≤ x.toInt ∧ x.toInt ≤ 57)) ∨ (r = nI 0 ∧ (¬ (48 ≤ x.toInt ∧ x.toInt ≤ 57))))) 0 0 (fun _ => False) := by
  refine Met.ofW (cc := cX5_isDigit) (maxL := 1) (ret := (some .boolean)) (by decide) rfl ?_
  intro p e s m args below meth c s₁ B hml hv
  obtain ⟨rfl, hP, hK⟩ := hv
  have hx := B.exec
  have hb := B.bytes
  have hr := B.returns
  have hts := atoms_spec (ws := wsX5_isDigit) B.pre
  have hown : s.vm.findClass RX5 = some m.cls := findClass_of_methodNamed B.named
  have hlocks := B.notSynchronized
  have hl := lv_entry ([.int x]) (n := 1) (Nat.le_of_ble_eq_true rfl)
  rw [lg_entry_eq]
  generalize (lg_sl ([.int x]) ++ List.replicate (1 - (lg_sl ([.int x])).length) Slot.unset).toArray = ls at hl ⊢
  have hl : lv_has ls 1 [(0, .int x)] := hl
  refine q_name (fun Q hQ => ?_)
  generalize ([.int x] : List Value).toArray = args at hts hQ ⊢
  refine lv_iload_n hx hb dX5_isDigit_0 rfl (lv_at hl 0 rfl) ?_
  refine lv_bipush (v := nI 48) hx hb dX5_isDigit_1 (by decide) ?_
  refine lv_icmp_lt (tgt := 16) hx hb dX5_isDigit_3 (by decide) (fun c1 => ?_) (fun c1 => ?_)
  · refine lv_iconst (v := nI 0) hx hb dX5_isDigit_16 (by decide) ?_
    rw [hQ]
    exact W.zret (v := nI 0) hx hb hr (by decide) (fun t9 ht9 hW9 => ⟨nI 0, rfl, (lf_f_isDigit_1 x c1), ht9⟩) (fun _ h => absurd h List.not_mem_nil) dX5_isDigit_17
  · refine lv_iload_n hx hb dX5_isDigit_6 rfl (lv_at hl 0 rfl) ?_
    refine lv_bipush (v := nI 57) hx hb dX5_isDigit_7 (by decide) ?_
    refine lv_icmp_gt (tgt := 16) hx hb dX5_isDigit_9 (by decide) (fun c2 => ?_) (fun c2 => ?_)
    · refine lv_iconst (v := nI 0) hx hb dX5_isDigit_16 (by decide) ?_
      rw [hQ]
      exact W.zret (v := nI 0) hx hb hr (by decide) (fun t9 ht9 hW9 => ⟨nI 0, rfl, (lf_f_isDigit_2 x c1 c2), ht9⟩) (fun _ h => absurd h List.not_mem_nil) dX5_isDigit_17
    · refine lv_iconst (v := nI 1) hx hb dX5_isDigit_12 (by decide) ?_
      refine lv_goto (tgt := 17) hx hb dX5_isDigit_13 (by decide) ?_
      rw [hQ]
      exact W.zret (v := nI 1) hx hb hr (by decide) (fun t9 ht9 hW9 => ⟨nI 1, rfl, (lf_f_isDigit_3 x c1 c2), ht9⟩) (fun _ h => absurd h List.not_mem_nil) dX5_isDigit_17
set_option maxRecDepth 20000 in
theorem lf_f_readSign_1 (bt : Nat → Nat) (rlength : Nat) (rplace : Nat) (rtapeF : Nat → Int32) (y1 : Int32) (iv_rreader_0 : rlength ≤ 940) (iv_rreader_1 : rplace ≤ rlength) (hTC : TC bt rtapeF) (hpl : rplace < rlength) (e2 : y1 = rtapeF rplace) (t3 : bt rplace < 256) (t4 : y1.toInt = ((bt rplace : Nat) : Int) ∨ (128 ≤ bt rplace ∧ y1.toInt = ((bt rplace : Nat) : Int) - 256)) (c5 : y1 = nI 59) : (rplace + 1) ≤ rlength := by
  have b_y1 := ia_b y1
  try have k_0 := ia_n 59 (by first | decide | omega)
  try simp only [ia_lt, ia_le, ia_eq, ia_m1, ia_0, ia_1, ne_eq, true_and, and_true, false_and, and_false, or_false, false_or, or_true, true_or, not_true_eq_false, not_false_eq_true] at *
  all_goals omega
set_option maxRecDepth 20000 in
theorem lf_f_readSign_2 (bt : Nat → Nat) (rlength : Nat) (rplace : Nat) (rtapeF : Nat → Int32) (y1 : Int32) (iv_rreader_0 : rlength ≤ 940) (iv_rreader_1 : rplace ≤ rlength) (hTC : TC bt rtapeF) (hpl : rplace < rlength) (e2 : y1 = rtapeF rplace) (t3 : bt rplace < 256) (t4 : y1.toInt = ((bt rplace : Nat) : Int) ∨ (128 ≤ bt rplace ∧ y1.toInt = ((bt rplace : Nat) : Int) - 256)) (c5 : y1 = nI 59) : y1 = nI (if cSg (bt rplace) then bt rplace else 1) := by
  have hb9 := ia_n (bt rplace) (by omega)
  by_cases h9 : cSg (bt rplace)
  · rw [if_pos h9]
    all_goals (
      unfold cSg at h9
      have b_y1 := ia_b y1
      try have k_0 := ia_n 59 (by first | decide | omega)
      try have k_1 := ia_n (if cSg (bt rplace) then bt rplace else 1) (by first | decide | omega)
      try simp only [ia_lt, ia_le, ia_eq, ia_m1, ia_0, ia_1, ne_eq, true_and, and_true, false_and, and_false, or_false, false_or, or_true, true_or, not_true_eq_false, not_false_eq_true] at *
      all_goals omega)
  · rw [if_neg h9]
    all_goals (
      unfold cSg at h9
      have b_y1 := ia_b y1
      try have k_0 := ia_n 59 (by first | decide | omega)
      try have k_1 := ia_n (if cSg (bt rplace) then bt rplace else 1) (by first | decide | omega)
      try simp only [ia_lt, ia_le, ia_eq, ia_m1, ia_0, ia_1, ne_eq, true_and, and_true, false_and, and_false, or_false, false_or, or_true, true_or, not_true_eq_false, not_false_eq_true] at *
      all_goals omega)
set_option maxRecDepth 20000 in
theorem lf_f_readSign_3 (bt : Nat → Nat) (rlength : Nat) (rplace : Nat) (rtapeF : Nat → Int32) (y1 : Int32) (iv_rreader_0 : rlength ≤ 940) (iv_rreader_1 : rplace ≤ rlength) (hTC : TC bt rtapeF) (hpl : rplace < rlength) (e2 : y1 = rtapeF rplace) (t3 : bt rplace < 256) (t4 : y1.toInt = ((bt rplace : Nat) : Int) ∨ (128 ≤ bt rplace ∧ y1.toInt = ((bt rplace : Nat) : Int) - 256)) (c5 : ¬ y1 = nI 59) (c7 : y1 = nI 60) : (rplace + 1) ≤ rlength := by
  have b_y1 := ia_b y1
  try have k_0 := ia_n 59 (by first | decide | omega)
  try have k_1 := ia_n 60 (by first | decide | omega)
  try simp only [ia_lt, ia_le, ia_eq, ia_m1, ia_0, ia_1, ne_eq, true_and, and_true, false_and, and_false, or_false, false_or, or_true, true_or, not_true_eq_false, not_false_eq_true] at *
  all_goals omega
set_option maxRecDepth 20000 in
theorem lf_f_readSign_4 (bt : Nat → Nat) (rlength : Nat) (rplace : Nat) (rtapeF : Nat → Int32) (y1 : Int32) (iv_rreader_0 : rlength ≤ 940) (iv_rreader_1 : rplace ≤ rlength) (hTC : TC bt rtapeF) (hpl : rplace < rlength) (e2 : y1 = rtapeF rplace) (t3 : bt rplace < 256) (t4 : y1.toInt = ((bt rplace : Nat) : Int) ∨ (128 ≤ bt rplace ∧ y1.toInt = ((bt rplace : Nat) : Int) - 256)) (c5 : ¬ y1 = nI 59) (c7 : y1 = nI 60) : y1 = nI (if cSg (bt rplace) then bt rplace else 1) := by
  have hb9 := ia_n (bt rplace) (by omega)
  by_cases h9 : cSg (bt rplace)
  · rw [if_pos h9]
    all_goals (
      unfold cSg at h9
      have b_y1 := ia_b y1
      try have k_0 := ia_n 59 (by first | decide | omega)
      try have k_1 := ia_n 60 (by first | decide | omega)
      try have k_2 := ia_n (if cSg (bt rplace) then bt rplace else 1) (by first | decide | omega)
      try simp only [ia_lt, ia_le, ia_eq, ia_m1, ia_0, ia_1, ne_eq, true_and, and_true, false_and, and_false, or_false, false_or, or_true, true_or, not_true_eq_false, not_false_eq_true] at *
      all_goals omega)
  · rw [if_neg h9]
    all_goals (
      unfold cSg at h9
      have b_y1 := ia_b y1
      try have k_0 := ia_n 59 (by first | decide | omega)
      try have k_1 := ia_n 60 (by first | decide | omega)
      try have k_2 := ia_n (if cSg (bt rplace) then bt rplace else 1) (by first | decide | omega)
      try simp only [ia_lt, ia_le, ia_eq, ia_m1, ia_0, ia_1, ne_eq, true_and, and_true, false_and, and_false, or_false, false_or, or_true, true_or, not_true_eq_false, not_false_eq_true] at *
      all_goals omega)
set_option maxRecDepth 20000 in
theorem lf_f_readSign_5 (bt : Nat → Nat) (rlength : Nat) (rplace : Nat) (rtapeF : Nat → Int32) (y1 : Int32) (iv_rreader_0 : rlength ≤ 940) (iv_rreader_1 : rplace ≤ rlength) (hTC : TC bt rtapeF) (hpl : rplace < rlength) (e2 : y1 = rtapeF rplace) (t3 : bt rplace < 256) (t4 : y1.toInt = ((bt rplace : Nat) : Int) ∨ (128 ≤ bt rplace ∧ y1.toInt = ((bt rplace : Nat) : Int) - 256)) (c5 : ¬ y1 = nI 59) (c7 : ¬ y1 = nI 60) (c9 : y1 = nI 61) : (rplace + 1) ≤ rlength := by
  have b_y1 := ia_b y1
  try have k_0 := ia_n 59 (by first | decide | omega)
  try have k_1 := ia_n 60 (by first | decide | omega)
  try have k_2 := ia_n 61 (by first | decide | omega)
  try simp only [ia_lt, ia_le, ia_eq, ia_m1, ia_0, ia_1, ne_eq, true_and, and_true, false_and, and_false, or_false, false_or, or_true, true_or, not_true_eq_false, not_false_eq_true] at *
  all_goals omega
set_option maxRecDepth 20000 in
theorem lf_f_readSign_6 (bt : Nat → Nat) (rlength : Nat) (rplace : Nat) (rtapeF : Nat → Int32) (y1 : Int32) (iv_rreader_0 : rlength ≤ 940) (iv_rreader_1 : rplace ≤ rlength) (hTC : TC bt rtapeF) (hpl : rplace < rlength) (e2 : y1 = rtapeF rplace) (t3 : bt rplace < 256) (t4 : y1.toInt = ((bt rplace : Nat) : Int) ∨ (128 ≤ bt rplace ∧ y1.toInt = ((bt rplace : Nat) : Int) - 256)) (c5 : ¬ y1 = nI 59) (c7 : ¬ y1 = nI 60) (c9 : y1 = nI 61) : y1 = nI (if cSg (bt rplace) then bt rplace else 1) := by
  have hb9 := ia_n (bt rplace) (by omega)
  by_cases h9 : cSg (bt rplace)
  · rw [if_pos h9]
    all_goals (
      unfold cSg at h9
      have b_y1 := ia_b y1
      try have k_0 := ia_n 59 (by first | decide | omega)
      try have k_1 := ia_n 60 (by first | decide | omega)
      try have k_2 := ia_n 61 (by first | decide | omega)
      try have k_3 := ia_n (if cSg (bt rplace) then bt rplace else 1) (by first | decide | omega)
      try simp only [ia_lt, ia_le, ia_eq, ia_m1, ia_0, ia_1, ne_eq, true_and, and_true, false_and, and_false, or_false, false_or, or_true, true_or, not_true_eq_false, not_false_eq_true] at *
      all_goals omega)
  · rw [if_neg h9]
    all_goals (
      unfold cSg at h9
      have b_y1 := ia_b y1
      try have k_0 := ia_n 59 (by first | decide | omega)
      try have k_1 := ia_n 60 (by first | decide | omega)
      try have k_2 := ia_n 61 (by first | decide | omega)
      try have k_3 := ia_n (if cSg (bt rplace) then bt rplace else 1) (by first | decide | omega)
      try simp only [ia_lt, ia_le, ia_eq, ia_m1, ia_0, ia_1, ne_eq, true_and, and_true, false_and, and_false, or_false, false_or, or_true, true_or, not_true_eq_false, not_false_eq_true] at *
      all_goals omega)
set_option maxRecDepth 20000 in
theorem lf_f_readSign_7 (bt : Nat → Nat) (rlength : Nat) (rplace : Nat) (rtapeF : Nat → Int32) (y1 : Int32) (iv_rreader_0 : rlength ≤ 940) (iv_rreader_1 : rplace ≤ rlength) (hTC : TC bt rtapeF) (hpl : rplace < rlength) (e2 : y1 = rtapeF rplace) (t3 : bt rplace < 256) (t4 : y1.toInt = ((bt rplace : Nat) : Int) ∨ (128 ≤ bt rplace ∧ y1.toInt = ((bt rplace : Nat) : Int) - 256)) (c5 : ¬ y1 = nI 59) (c7 : ¬ y1 = nI 60) (c9 : ¬ y1 = nI 61) (c11 : y1 = nI 62) : (rplace + 1) ≤ rlength := by
  have b_y1 := ia_b y1
  try have k_0 := ia_n 59 (by first | decide | omega)
  try have k_1 := ia_n 60 (by first | decide | omega)
  try have k_2 := ia_n 61 (by first | decide | omega)
  try have k_3 := ia_n 62 (by first | decide | omega)
  try simp only [ia_lt, ia_le, ia_eq, ia_m1, ia_0, ia_1, ne_eq, true_and, and_true, false_and, and_false, or_false, false_or, or_true, true_or, not_true_eq_false, not_false_eq_true] at *
  all_goals omega
set_option maxRecDepth 20000 in
theorem lf_f_readSign_8 (bt : Nat → Nat) (rlength : Nat) (rplace : Nat) (rtapeF : Nat → Int32) (y1 : Int32) (iv_rreader_0 : rlength ≤ 940) (iv_rreader_1 : rplace ≤ rlength) (hTC : TC bt rtapeF) (hpl : rplace < rlength) (e2 : y1 = rtapeF rplace) (t3 : bt rplace < 256) (t4 : y1.toInt = ((bt rplace : Nat) : Int) ∨ (128 ≤ bt rplace ∧ y1.toInt = ((bt rplace : Nat) : Int) - 256)) (c5 : ¬ y1 = nI 59) (c7 : ¬ y1 = nI 60) (c9 : ¬ y1 = nI 61) (c11 : y1 = nI 62) : y1 = nI (if cSg (bt rplace) then bt rplace else 1) := by
  have hb9 := ia_n (bt rplace) (by omega)
  by_cases h9 : cSg (bt rplace)
  · rw [if_pos h9]
    all_goals (
      unfold cSg at h9
      have b_y1 := ia_b y1
      try have k_0 := ia_n 59 (by first | decide | omega)
      try have k_1 := ia_n 60 (by first | decide | omega)
      try have k_2 := ia_n 61 (by first | decide | omega)
      try have k_3 := ia_n 62 (by first | decide | omega)
      try have k_4 := ia_n (if cSg (bt rplace) then bt rplace else 1) (by first | decide | omega)
      try simp only [ia_lt, ia_le, ia_eq, ia_m1, ia_0, ia_1, ne_eq, true_and, and_true, false_and, and_false, or_false, false_or, or_true, true_or, not_true_eq_false, not_false_eq_true] at *
      all_goals omega)
  · rw [if_neg h9]
    all_goals (
      unfold cSg at h9
      have b_y1 := ia_b y1
      try have k_0 := ia_n 59 (by first | decide | omega)
      try have k_1 := ia_n 60 (by first | decide | omega)
      try have k_2 := ia_n 61 (by first | decide | omega)
      try have k_3 := ia_n 62 (by first | decide | omega)
      try have k_4 := ia_n (if cSg (bt rplace) then bt rplace else 1) (by first | decide | omega)
      try simp only [ia_lt, ia_le, ia_eq, ia_m1, ia_0, ia_1, ne_eq, true_and, and_true, false_and, and_false, or_false, false_or, or_true, true_or, not_true_eq_false, not_false_eq_true] at *
      all_goals omega)
set_option maxRecDepth 20000 in
theorem lf_f_readSign_9 (bt : Nat → Nat) (rlength : Nat) (rplace : Nat) (rtapeF : Nat → Int32) (y1 : Int32) (iv_rreader_0 : rlength ≤ 940) (iv_rreader_1 : rplace ≤ rlength) (hTC : TC bt rtapeF) (hpl : rplace < rlength) (e2 : y1 = rtapeF rplace) (t3 : bt rplace < 256) (t4 : y1.toInt = ((bt rplace : Nat) : Int) ∨ (128 ≤ bt rplace ∧ y1.toInt = ((bt rplace : Nat) : Int) - 256)) (c5 : ¬ y1 = nI 59) (c7 : ¬ y1 = nI 60) (c9 : ¬ y1 = nI 61) (c11 : ¬ y1 = nI 62) (c13 : y1 = nI 40) : (rplace + 1) ≤ rlength := by
  have b_y1 := ia_b y1
  try have k_0 := ia_n 59 (by first | decide | omega)
  try have k_1 := ia_n 60 (by first | decide | omega)
  try have k_2 := ia_n 61 (by first | decide | omega)
  try have k_3 := ia_n 62 (by first | decide | omega)
  try have k_4 := ia_n 40 (by first | decide | omega)
  try simp only [ia_lt, ia_le, ia_eq, ia_m1, ia_0, ia_1, ne_eq, true_and, and_true, false_and, and_false, or_false, false_or, or_true, true_or, not_true_eq_false, not_false_eq_true] at *
  all_goals omega
set_option maxRecDepth 20000 in
theorem lf_f_readSign_10 (bt : Nat → Nat) (rlength : Nat) (rplace : Nat) (rtapeF : Nat → Int32) (y1 : Int32) (iv_rreader_0 : rlength ≤ 940) (iv_rreader_1 : rplace ≤ rlength) (hTC : TC bt rtapeF) (hpl : rplace < rlength) (e2 : y1 = rtapeF rplace) (t3 : bt rplace < 256) (t4 : y1.toInt = ((bt rplace : Nat) : Int) ∨ (128 ≤ bt rplace ∧ y1.toInt = ((bt rplace : Nat) : Int) - 256)) (c5 : ¬ y1 = nI 59) (c7 : ¬ y1 = nI 60) (c9 : ¬ y1 = nI 61) (c11 : ¬ y1 = nI 62) (c13 : y1 = nI 40) : y1 = nI (if cSg (bt rplace) then bt rplace else 1) := by
  have hb9 := ia_n (bt rplace) (by omega)
  by_cases h9 : cSg (bt rplace)
  · rw [if_pos h9]
    all_goals (
      unfold cSg at h9
      have b_y1 := ia_b y1
      try have k_0 := ia_n 59 (by first | decide | omega)
      try have k_1 := ia_n 60 (by first | decide | omega)
      try have k_2 := ia_n 61 (by first | decide | omega)
      try have k_3 := ia_n 62 (by first | decide | omega)
      try have k_4 := ia_n 40 (by first | decide | omega)
      try have k_5 := ia_n (if cSg (bt rplace) then bt rplace else 1) (by first | decide | omega)
      try simp only [ia_lt, ia_le, ia_eq, ia_m1, ia_0, ia_1, ne_eq, true_and, and_true, false_and, and_false, or_false, false_or, or_true, true_or, not_true_eq_false, not_false_eq_true] at *
      all_goals omega)
  · rw [if_neg h9]
    all_goals (
      unfold cSg at h9
      have b_y1 := ia_b y1
      try have k_0 := ia_n 59 (by first | decide | omega)
      try have k_1 := ia_n 60 (by first | decide | omega)
      try have k_2 := ia_n 61 (by first | decide | omega)
      try have k_3 := ia_n 62 (by first | decide | omega)
      try have k_4 := ia_n 40 (by first | decide | omega)
      try have k_5 := ia_n (if cSg (bt rplace) then bt rplace else 1) (by first | decide | omega)
      try simp only [ia_lt, ia_le, ia_eq, ia_m1, ia_0, ia_1, ne_eq, true_and, and_true, false_and, and_false, or_false, false_or, or_true, true_or, not_true_eq_false, not_false_eq_true] at *
      all_goals omega)
set_option maxRecDepth 20000 in
theorem lf_f_readSign_11 (bt : Nat → Nat) (rlength : Nat) (rplace : Nat) (rtapeF : Nat → Int32) (y1 : Int32) (iv_rreader_0 : rlength ≤ 940) (iv_rreader_1 : rplace ≤ rlength) (hTC : TC bt rtapeF) (hpl : rplace < rlength) (e2 : y1 = rtapeF rplace) (t3 : bt rplace < 256) (t4 : y1.toInt = ((bt rplace : Nat) : Int) ∨ (128 ≤ bt rplace ∧ y1.toInt = ((bt rplace : Nat) : Int) - 256)) (c5 : ¬ y1 = nI 59) (c7 : ¬ y1 = nI 60) (c9 : ¬ y1 = nI 61) (c11 : ¬ y1 = nI 62) (c13 : ¬ y1 = nI 40) (c15 : y1 ≠ nI 41) : (rplace + 1) ≤ rlength := by
  have b_y1 := ia_b y1
  try have k_0 := ia_n 59 (by first | decide | omega)
  try have k_1 := ia_n 60 (by first | decide | omega)
  try have k_2 := ia_n 61 (by first | decide | omega)
  try have k_3 := ia_n 62 (by first | decide | omega)
  try have k_4 := ia_n 40 (by first | decide | omega)
  try have k_5 := ia_n 41 (by first | decide | omega)
  try simp only [ia_lt, ia_le, ia_eq, ia_m1, ia_0, ia_1, ne_eq, true_and, and_true, false_and, and_false, or_false, false_or, or_true, true_or, not_true_eq_false, not_false_eq_true] at *
  all_goals omega
set_option maxRecDepth 20000 in
theorem lf_f_readSign_12 (bt : Nat → Nat) (rlength : Nat) (rplace : Nat) (rtapeF : Nat → Int32) (y1 : Int32) (iv_rreader_0 : rlength ≤ 940) (iv_rreader_1 : rplace ≤ rlength) (hTC : TC bt rtapeF) (hpl : rplace < rlength) (e2 : y1 = rtapeF rplace) (t3 : bt rplace < 256) (t4 : y1.toInt = ((bt rplace : Nat) : Int) ∨ (128 ≤ bt rplace ∧ y1.toInt = ((bt rplace : Nat) : Int) - 256)) (c5 : ¬ y1 = nI 59) (c7 : ¬ y1 = nI 60) (c9 : ¬ y1 = nI 61) (c11 : ¬ y1 = nI 62) (c13 : ¬ y1 = nI 40) (c15 : y1 ≠ nI 41) : (nI 1) = nI (if cSg (bt rplace) then bt rplace else 1) := by
  have hb9 := ia_n (bt rplace) (by omega)
  by_cases h9 : cSg (bt rplace)
  · rw [if_pos h9]
    all_goals (
      unfold cSg at h9
      have b_y1 := ia_b y1
      try have k_0 := ia_n 59 (by first | decide | omega)
      try have k_1 := ia_n 60 (by first | decide | omega)
      try have k_2 := ia_n 61 (by first | decide | omega)
      try have k_3 := ia_n 62 (by first | decide | omega)
      try have k_4 := ia_n 40 (by first | decide | omega)
      try have k_5 := ia_n 41 (by first | decide | omega)
      try have k_6 := ia_n 1 (by first | decide | omega)
      try have k_7 := ia_n (if cSg (bt rplace) then bt rplace else 1) (by first | decide | omega)
      try simp only [ia_lt, ia_le, ia_eq, ia_m1, ia_0, ia_1, ne_eq, true_and, and_true, false_and, and_false, or_false, false_or, or_true, true_or, not_true_eq_false, not_false_eq_true] at *
      all_goals omega)
  · rw [if_neg h9]
    all_goals (
      unfold cSg at h9
      have b_y1 := ia_b y1
      try have k_0 := ia_n 59 (by first | decide | omega)
      try have k_1 := ia_n 60 (by first | decide | omega)
      try have k_2 := ia_n 61 (by first | decide | omega)
      try have k_3 := ia_n 62 (by first | decide | omega)
      try have k_4 := ia_n 40 (by first | decide | omega)
      try have k_5 := ia_n 41 (by first | decide | omega)
      try have k_6 := ia_n 1 (by first | decide | omega)
      try have k_7 := ia_n (if cSg (bt rplace) then bt rplace else 1) (by first | decide | omega)
      try simp only [ia_lt, ia_le, ia_eq, ia_m1, ia_0, ia_1, ne_eq, true_and, and_true, false_and, and_false, or_false, false_or, or_true, true_or, not_true_eq_false, not_false_eq_true] at *
      all_goals omega)
set_option maxRecDepth 20000 in
theorem lf_f_readSign_13 (bt : Nat → Nat) (rlength : Nat) (rplace : Nat) (rtapeF : Nat → Int32) (y1 : Int32) (iv_rreader_0 : rlength ≤ 940) (iv_rreader_1 : rplace ≤ rlength) (hTC : TC bt rtapeF) (hpl : rplace < rlength) (e2 : y1 = rtapeF rplace) (t3 : bt rplace < 256) (t4 : y1.toInt = ((bt rplace : Nat) : Int) ∨ (128 ≤ bt rplace ∧ y1.toInt = ((bt rplace : Nat) : Int) - 256)) (c5 : ¬ y1 = nI 59) (c7 : ¬ y1 = nI 60) (c9 : ¬ y1 = nI 61) (c11 : ¬ y1 = nI 62) (c13 : ¬ y1 = nI 40) (c15 : y1 = nI 41) : (rplace + 1) ≤ rlength := by
  have b_y1 := ia_b y1
  try have k_0 := ia_n 59 (by first | decide | omega)
  try have k_1 := ia_n 60 (by first | decide | omega)
  try have k_2 := ia_n 61 (by first | decide | omega)
  try have k_3 := ia_n 62 (by first | decide | omega)
  try have k_4 := ia_n 40 (by first | decide | omega)
  try have k_5 := ia_n 41 (by first | decide | omega)
  try simp only [ia_lt, ia_le, ia_eq, ia_m1, ia_0, ia_1, ne_eq, true_and, and_true, false_and, and_false, or_false, false_or, or_true, true_or, not_true_eq_false, not_false_eq_true] at *
  all_goals omega
set_option maxRecDepth 20000 in
theorem lf_f_readSign_14 (bt : Nat → Nat) (rlength : Nat) (rplace : Nat) (rtapeF : Nat → Int32) (y1 : Int32) (iv_rreader_0 : rlength ≤ 940) (iv_rreader_1 : rplace ≤ rlength) (hTC : TC bt rtapeF) (hpl : rplace < rlength) (e2 : y1 = rtapeF rplace) (t3 : bt rplace < 256) (t4 : y1.toInt = ((bt rplace : Nat) : Int) ∨ (128 ≤ bt rplace ∧ y1.toInt = ((bt rplace : Nat) : Int) - 256)) (c5 : ¬ y1 = nI 59) (c7 : ¬ y1 = nI 60) (c9 : ¬ y1 = nI 61) (c11 : ¬ y1 = nI 62) (c13 : ¬ y1 = nI 40) (c15 : y1 = nI 41) : y1 = nI (if cSg (bt rplace) then bt rplace else 1) := by
  have hb9 := ia_n (bt rplace) (by omega)
  by_cases h9 : cSg (bt rplace)
  · rw [if_pos h9]
    all_goals (
      unfold cSg at h9
      have b_y1 := ia_b y1
      try have k_0 := ia_n 59 (by first | decide | omega)
      try have k_1 := ia_n 60 (by first | decide | omega)
      try have k_2 := ia_n 61 (by first | decide | omega)
      try have k_3 := ia_n 62 (by first | decide | omega)
      try have k_4 := ia_n 40 (by first | decide | omega)
      try have k_5 := ia_n 41 (by first | decide | omega)
      try have k_6 := ia_n (if cSg (bt rplace) then bt rplace else 1) (by first | decide | omega)
      try simp only [ia_lt, ia_le, ia_eq, ia_m1, ia_0, ia_1, ne_eq, true_and, and_true, false_and, and_false, or_false, false_or, or_true, true_or, not_true_eq_false, not_false_eq_true] at *
      all_goals omega)
  · rw [if_neg h9]
    all_goals (
      unfold cSg at h9
      have b_y1 := ia_b y1
      try have k_0 := ia_n 59 (by first | decide | omega)
      try have k_1 := ia_n 60 (by first | decide | omega)
      try have k_2 := ia_n 61 (by first | decide | omega)
      try have k_3 := ia_n 62 (by first | decide | omega)
      try have k_4 := ia_n 40 (by first | decide | omega)
      try have k_5 := ia_n 41 (by first | decide | omega)
      try have k_6 := ia_n (if cSg (bt rplace) then bt rplace else 1) (by first | decide | omega)
      try simp only [ia_lt, ia_le, ia_eq, ia_m1, ia_0, ia_1, ne_eq, true_and, and_true, false_and, and_false, or_false, false_or, or_true, true_or, not_true_eq_false, not_false_eq_true] at *
      all_goals omega)
set_option maxHeartbeats 4000000 in
set_option maxRecDepth 100000 in
theorem c_f_readSign (l : Launch) (dC : Nat → ClassId) (dI : Nat → Nat → Nat) (ky : Nat → ClassId) (sz : Nat) (bt : Nat → Nat) (reader : Nat) (rtape : Nat) (rlength : Nat) (rmostBytes : Nat) (rplace : Nat) (rkind : Int32) (rbegin : Nat) (rword : Int32) (rnumber : Int32) (rletters : Int64) (rfaultKind : Int32) (rfaultPlace : Int32) (rtapeF : Nat → Int32) (iv_rreader_0 : rlength ≤ 940) (iv_rreader_1 : rplace ≤ rlength) (iv_rreader_2 : rmostBytes ≤ 900) (iv_rreader_3 : rbegin ≤ 940) (hTC : TC bt rtapeF) (hpl : rplace < rlength) : Met l yX5_readSign wsX5_readSign ({ frames := 0, cells := 0, slots := 0, locals := 0 }) (PcU dC dI ky [.ref reader] [(reader, .inr (5, [.ref rtape, .int (nI rlength), .int (nI rmostBytes), .int (nI rplace), .int rkind, .int (nI rbegin), .int rword, .int rnumber, .long rletters, .int rfaultKind, .int rfaultPlace])), (rtape, .inl (ky 2, 940, .inl rtapeF))] sz) (va_Qv (fun (u : Nat × Int32) => match u with | (rplaceG, rkindG) => (rplaceG ≤ rlength) ∧ (rplaceG = rplace + 1) ∧ (rkindG = nI (if cSg (bt rplace) then bt rplace else 1))) (BU dC dI ky (fun (u : Nat × Int32) => match u with | (rplaceG, rkindG) => [(reader, .inr (5, [.ref rtape, .int (nI rlength), .int (nI rmostBytes), .int (nI rplaceG), .int rkindG, .int (nI rbegin), .int rword, .int rnumber, .long rletters, .int rfaultKind, .int rfaultPlace])), (rtape, .inl (ky 2, 940, .inl rtapeF))]) (va_A [(reader, .inr (5, [.ref rtape, .int (nI rlength), .int (nI rmostBytes), .int (nI rplace), .int rkind, .int (nI rbegin), .int rword, .int rnumber, .long rletters, .int rfaultKind, .int rfaultPlace])), (rtape, .inl (ky 2, 940, .inl rtapeF))] sz)) (va_A [(reader, .inr (5, [.ref rtape, .int (nI rlength), .int (nI rmostBytes), .int (nI rplace), .int rkind, .int (nI rbegin), .int rword, .int rnumber, .long rletters, .int rfaultKind, .int rfaultPlace])), (rtape, .inl (ky 2, 940, .inl rtapeF))] sz)) 0 0 (va_A [(reader, .inr (5, [.ref rtape, .int (nI rlength), .int (nI rmostBytes), .int (nI rplace), .int rkind, .int (nI rbegin), .int rword, .int rnumber, .long rletters, .int rfaultKind, .int rfaultPlace])), (rtape, .inl (ky 2, 940, .inl rtapeF))] sz) := by
  refine Met.ofW (cc := cX5_readSign) (maxL := 3) (ret := none) (by decide) rfl ?_
  intro p e s m args below meth c s₁ B hml hv
  obtain ⟨rfl, hsz, hP, hK, hD0⟩ := hv
  have hx := B.exec
  have hb := B.bytes
  have hr := B.returns
  have hts := atoms_spec (ws := wsX5_readSign) B.pre
  have hown : s.vm.findClass RX5 = some m.cls := findClass_of_methodNamed B.named
  have hlocks := B.notSynchronized
  have hin5 : ∀ w ∈ u_ws RX5 TX5 11, w ∈ wsX5_readSign := by decide +kernel
  subst hsz
  have hD := hD0.self (sz := s.heap.size)
  generalize hAe : va_A [(reader, .inr (5, [.ref rtape, .int (nI rlength), .int (nI rmostBytes), .int (nI rplace), .int rkind, .int (nI rbegin), .int rword, .int rnumber, .long rletters, .int rfaultKind, .int rfaultPlace])), (rtape, .inl (ky 2, 940, .inl rtapeF))] s.heap.size = A at hD ⊢
  have hA : ∀ q : Nat, s.heap.size ≤ q → A q := fun q h => by rw [← hAe]; exact Or.inr h
  have hS : va_S A s.heap s.heap [] := va_S.rf
  have hl := lv_entry ([.ref reader]) (n := 3) (Nat.le_of_ble_eq_true rfl)
  rw [lg_entry_eq]
  generalize (lg_sl ([.ref reader]) ++ List.replicate (3 - (lg_sl ([.ref reader])).length) Slot.unset).toArray = ls at hl ⊢
  have hl : lv_has ls 3 [(0, .ref reader)] := hl
  refine q_name (fun Q hQ => ?_)
  generalize ([.ref reader] : List Value).toArray = args at hts hQ ⊢
  refine lv_aload_n hx hb dX5_readSign_0 rfl (lv_at hl 0 rfl) ?_
  refine va_get (D := (dC, dI)) (ci := 5) (v := .ref rtape) (C := RX5) (T := TX5) (N := 11) hx hb hts hin5 hown hK hP 0 rfl rfl 0 (by decide) (hts (.fieldLink RX5 9 "PorridgeSea$Reader" "tape" "[B") (List.mem_of_getElem? (i := 1) rfl)) (fun _ h9 => h9) rfl dX5_readSign_1 ?_
  refine lv_aload_n hx hb dX5_readSign_4 rfl (lv_at hl 0 rfl) ?_
  refine va_get (D := (dC, dI)) (ci := 5) (v := .int (nI rplace)) (C := RX5) (T := TX5) (N := 11) hx hb hts hin5 hown hK hP 0 rfl rfl 3 (by decide) (hts (.fieldLink RX5 28 "PorridgeSea$Reader" "place" "I") (List.mem_of_getElem? (i := 2) rfl)) (fun _ h9 => h9) rfl dX5_readSign_5 ?_
  obtain ⟨y1, e2⟩ : ∃ z9, z9 = rtapeF rplace := ⟨_, rfl⟩
  refine r_bald hx hb hK hP 1 rfl rplace (by omega) (by decide) y1 e2.symm dX5_readSign_8 ?_
  obtain ⟨t3, t4⟩ : bt rplace < 256 ∧ (y1.toInt = ((bt rplace : Nat) : Int) ∨ (128 ≤ bt rplace ∧ y1.toInt = ((bt rplace : Nat) : Int) - 256)) := by rw [e2]; exact hTC rplace (by omega)
  refine lv_istore_n (lv' := [(1, .int y1), (0, .ref reader)]) hx hb dX5_readSign_9 rfl hl (by decide) rfl (fun ls hl => ?_)
  refine lv_iload_n hx hb dX5_readSign_10 rfl (lv_at hl 0 rfl) ?_
  refine lv_bipush (v := nI 59) hx hb dX5_readSign_11 (by decide) ?_
  refine lv_icmp_eq (tgt := 46) hx hb dX5_readSign_13 (by decide) (fun c5 => ?_) (fun c5 => ?_)
  · refine lv_iconst (v := nI 1) hx hb dX5_readSign_46 (by decide) ?_
    refine lv_goto (tgt := 51) hx hb dX5_readSign_47 (by decide) ?_
    refine lv_istore_n (lv' := [(2, .int (nI 1)), (1, .int y1), (0, .ref reader)]) hx hb dX5_readSign_51 rfl hl (by decide) rfl (fun ls hl => ?_)
    refine lv_aload_n hx hb dX5_readSign_52 rfl (lv_at hl 2 rfl) ?_
    refine lv_iload_n hx hb dX5_readSign_53 rfl (lv_at hl 0 rfl) ?_
    refine lv_if_eq (tgt := 61) hx hb dX5_readSign_54 (by decide) (fun c6 => absurd c6 (by decide)) (fun c6 => ?_)
    refine lv_iload_n hx hb dX5_readSign_57 rfl (lv_at hl 1 rfl) ?_
    refine lv_goto (tgt := 62) hx hb dX5_readSign_58 (by decide) ?_
    refine va_put (D := (dC, dI)) (ci := 5) (v := .int y1) (ty := .int) (C := RX5) (T := TX5) (N := 11) hx hb hts hin5 tyX5 tyX5_ok nmX5 hown hK hP hD hS 0 rfl rfl 4 (by decide) (hts (.fieldLink RX5 46 "PorridgeSea$Reader" "kind" "I") (List.mem_of_getElem? (i := 3) rfl)) (fun _ h9 => h9) rfl (by decide +kernel) rfl rfl (Nat.le_of_ble_eq_true rfl) dX5_readSign_62 (fun H locs hP hD hS => ?_)
    have hP : va_P (dC, dI) vwCl [(reader, .inr (5, [.ref rtape, .int (nI rlength), .int (nI rmostBytes), .int (nI rplace), .int y1, .int (nI rbegin), .int rword, .int rnumber, .long rletters, .int rfaultKind, .int rfaultPlace])), (rtape, .inl (ky 2, 940, .inl rtapeF))] H := hP
    have hD : va_D A [(reader, .inr (5, [.ref rtape, .int (nI rlength), .int (nI rmostBytes), .int (nI rplace), .int y1, .int (nI rbegin), .int rword, .int rnumber, .long rletters, .int rfaultKind, .int rfaultPlace])), (rtape, .inl (ky 2, 940, .inl rtapeF))] := hD
    refine lv_aload_n hx hb dX5_readSign_65 rfl (lv_at hl 2 rfl) ?_
    refine lv_dup hx hb dX5_readSign_66 rfl ?_
    refine va_get (D := (dC, dI)) (ci := 5) (v := .int (nI rplace)) (C := RX5) (T := TX5) (N := 11) hx hb hts hin5 hown hK hP 0 rfl rfl 3 (by decide) (hts (.fieldLink RX5 28 "PorridgeSea$Reader" "place" "I") (List.mem_of_getElem? (i := 2) rfl)) (fun _ h9 => h9) rfl dX5_readSign_67 ?_
    refine lv_iconst (v := nI 1) hx hb dX5_readSign_70 (by decide) ?_
    refine lv_iadd hx hb dX5_readSign_71 ?_
    refine r_ti (nI (rplace + 1)) (nI_add _ _) ?_
    refine va_put (D := (dC, dI)) (ci := 5) (v := .int (nI (rplace + 1))) (ty := .int) (C := RX5) (T := TX5) (N := 11) hx hb hts hin5 tyX5 tyX5_ok nmX5 hown hK hP hD hS 0 rfl rfl 3 (by decide) (hts (.fieldLink RX5 28 "PorridgeSea$Reader" "place" "I") (List.mem_of_getElem? (i := 2) rfl)) (fun _ h9 => h9) rfl (by decide +kernel) rfl rfl (Nat.le_of_ble_eq_true rfl) dX5_readSign_72 (fun H locs hP hD hS => ?_)
    have hP : va_P (dC, dI) vwCl [(reader, .inr (5, [.ref rtape, .int (nI rlength), .int (nI rmostBytes), .int (nI (rplace + 1)), .int y1, .int (nI rbegin), .int rword, .int rnumber, .long rletters, .int rfaultKind, .int rfaultPlace])), (rtape, .inl (ky 2, 940, .inl rtapeF))] H := hP
    have hD : va_D A [(reader, .inr (5, [.ref rtape, .int (nI rlength), .int (nI rmostBytes), .int (nI (rplace + 1)), .int y1, .int (nI rbegin), .int rword, .int rnumber, .long rletters, .int rfaultKind, .int rfaultPlace])), (rtape, .inl (ky 2, 940, .inl rtapeF))] := hD
    rw [hQ]
    exact W.vret hx hb hr (fun t9 ht9 hW9 => ⟨⟨((rplace + 1), y1), rfl, ⟨(lf_f_readSign_1 bt rlength rplace rtapeF y1 iv_rreader_0 iv_rreader_1 hTC hpl e2 t3 t4 c5), rfl, (lf_f_readSign_2 bt rlength rplace rtapeF y1 iv_rreader_0 iv_rreader_1 hTC hpl e2 t3 t4 c5)⟩, by rw [ht9]; exact hP, va_K.moved hW9.alike hK, hD⟩, hS.F ht9⟩) hS.2.2 dX5_readSign_75
  · refine lv_iload_n hx hb dX5_readSign_16 rfl (lv_at hl 0 rfl) ?_
    refine lv_bipush (v := nI 60) hx hb dX5_readSign_17 (by decide) ?_
    refine lv_icmp_eq (tgt := 46) hx hb dX5_readSign_19 (by decide) (fun c7 => ?_) (fun c7 => ?_)
    · refine lv_iconst (v := nI 1) hx hb dX5_readSign_46 (by decide) ?_
      refine lv_goto (tgt := 51) hx hb dX5_readSign_47 (by decide) ?_
      refine lv_istore_n (lv' := [(2, .int (nI 1)), (1, .int y1), (0, .ref reader)]) hx hb dX5_readSign_51 rfl hl (by decide) rfl (fun ls hl => ?_)
      refine lv_aload_n hx hb dX5_readSign_52 rfl (lv_at hl 2 rfl) ?_
      refine lv_iload_n hx hb dX5_readSign_53 rfl (lv_at hl 0 rfl) ?_
      refine lv_if_eq (tgt := 61) hx hb dX5_readSign_54 (by decide) (fun c8 => absurd c8 (by decide)) (fun c8 => ?_)
      refine lv_iload_n hx hb dX5_readSign_57 rfl (lv_at hl 1 rfl) ?_
      refine lv_goto (tgt := 62) hx hb dX5_readSign_58 (by decide) ?_
      refine va_put (D := (dC, dI)) (ci := 5) (v := .int y1) (ty := .int) (C := RX5) (T := TX5) (N := 11) hx hb hts hin5 tyX5 tyX5_ok nmX5 hown hK hP hD hS 0 rfl rfl 4 (by decide) (hts (.fieldLink RX5 46 "PorridgeSea$Reader" "kind" "I") (List.mem_of_getElem? (i := 3) rfl)) (fun _ h9 => h9) rfl (by decide +kernel) rfl rfl (Nat.le_of_ble_eq_true rfl) dX5_readSign_62 (fun H locs hP hD hS => ?_)
      have hP : va_P (dC, dI) vwCl [(reader, .inr (5, [.ref rtape, .int (nI rlength), .int (nI rmostBytes), .int (nI rplace), .int y1, .int (nI rbegin), .int rword, .int rnumber, .long rletters, .int rfaultKind, .int rfaultPlace])), (rtape, .inl (ky 2, 940, .inl rtapeF))] H := hP
      have hD : va_D A [(reader, .inr (5, [.ref rtape, .int (nI rlength), .int (nI rmostBytes), .int (nI rplace), .int y1, .int (nI rbegin), .int rword, .int rnumber, .long rletters, .int rfaultKind, .int rfaultPlace])), (rtape, .inl (ky 2, 940, .inl rtapeF))] := hD
      refine lv_aload_n hx hb dX5_readSign_65 rfl (lv_at hl 2 rfl) ?_
      refine lv_dup hx hb dX5_readSign_66 rfl ?_
      refine va_get (D := (dC, dI)) (ci := 5) (v := .int (nI rplace)) (C := RX5) (T := TX5) (N := 11) hx hb hts hin5 hown hK hP 0 rfl rfl 3 (by decide) (hts (.fieldLink RX5 28 "PorridgeSea$Reader" "place" "I") (List.mem_of_getElem? (i := 2) rfl)) (fun _ h9 => h9) rfl dX5_readSign_67 ?_
      refine lv_iconst (v := nI 1) hx hb dX5_readSign_70 (by decide) ?_
      refine lv_iadd hx hb dX5_readSign_71 ?_
      refine r_ti (nI (rplace + 1)) (nI_add _ _) ?_
      refine va_put (D := (dC, dI)) (ci := 5) (v := .int (nI (rplace + 1))) (ty := .int) (C := RX5) (T := TX5) (N := 11) hx hb hts hin5 tyX5 tyX5_ok nmX5 hown hK hP hD hS 0 rfl rfl 3 (by decide) (hts (.fieldLink RX5 28 "PorridgeSea$Reader" "place" "I") (List.mem_of_getElem? (i := 2) rfl)) (fun _ h9 => h9) rfl (by decide +kernel) rfl rfl (Nat.le_of_ble_eq_true rfl) dX5_readSign_72 (fun H locs hP hD hS => ?_)
      have hP : va_P (dC, dI) vwCl [(reader, .inr (5, [.ref rtape, .int (nI rlength), .int (nI rmostBytes), .int (nI (rplace + 1)), .int y1, .int (nI rbegin), .int rword, .int rnumber, .long rletters, .int rfaultKind, .int rfaultPlace])), (rtape, .inl (ky 2, 940, .inl rtapeF))] H := hP
      have hD : va_D A [(reader, .inr (5, [.ref rtape, .int (nI rlength), .int (nI rmostBytes), .int (nI (rplace + 1)), .int y1, .int (nI rbegin), .int rword, .int rnumber, .long rletters, .int rfaultKind, .int rfaultPlace])), (rtape, .inl (ky 2, 940, .inl rtapeF))] := hD
      rw [hQ]
      exact W.vret hx hb hr (fun t9 ht9 hW9 => ⟨⟨((rplace + 1), y1), rfl, ⟨(lf_f_readSign_3 bt rlength rplace rtapeF y1 iv_rreader_0 iv_rreader_1 hTC hpl e2 t3 t4 c5 c7), rfl, (lf_f_readSign_4 bt rlength rplace rtapeF y1 iv_rreader_0 iv_rreader_1 hTC hpl e2 t3 t4 c5 c7)⟩, by rw [ht9]; exact hP, va_K.moved hW9.alike hK, hD⟩, hS.F ht9⟩) hS.2.2 dX5_readSign_75
    · refine lv_iload_n hx hb dX5_readSign_22 rfl (lv_at hl 0 rfl) ?_
      refine lv_bipush (v := nI 61) hx hb dX5_readSign_23 (by decide) ?_
      refine lv_icmp_eq (tgt := 46) hx hb dX5_readSign_25 (by decide) (fun c9 => ?_) (fun c9 => ?_)
      · refine lv_iconst (v := nI 1) hx hb dX5_readSign_46 (by decide) ?_
        refine lv_goto (tgt := 51) hx hb dX5_readSign_47 (by decide) ?_
        refine lv_istore_n (lv' := [(2, .int (nI 1)), (1, .int y1), (0, .ref reader)]) hx hb dX5_readSign_51 rfl hl (by decide) rfl (fun ls hl => ?_)
        refine lv_aload_n hx hb dX5_readSign_52 rfl (lv_at hl 2 rfl) ?_
        refine lv_iload_n hx hb dX5_readSign_53 rfl (lv_at hl 0 rfl) ?_
        refine lv_if_eq (tgt := 61) hx hb dX5_readSign_54 (by decide) (fun c10 => absurd c10 (by decide)) (fun c10 => ?_)
        refine lv_iload_n hx hb dX5_readSign_57 rfl (lv_at hl 1 rfl) ?_
        refine lv_goto (tgt := 62) hx hb dX5_readSign_58 (by decide) ?_
        refine va_put (D := (dC, dI)) (ci := 5) (v := .int y1) (ty := .int) (C := RX5) (T := TX5) (N := 11) hx hb hts hin5 tyX5 tyX5_ok nmX5 hown hK hP hD hS 0 rfl rfl 4 (by decide) (hts (.fieldLink RX5 46 "PorridgeSea$Reader" "kind" "I") (List.mem_of_getElem? (i := 3) rfl)) (fun _ h9 => h9) rfl (by decide +kernel) rfl rfl (Nat.le_of_ble_eq_true rfl) dX5_readSign_62 (fun H locs hP hD hS => ?_)
        have hP : va_P (dC, dI) vwCl [(reader, .inr (5, [.ref rtape, .int (nI rlength), .int (nI rmostBytes), .int (nI rplace), .int y1, .int (nI rbegin), .int rword, .int rnumber, .long rletters, .int rfaultKind, .int rfaultPlace])), (rtape, .inl (ky 2, 940, .inl rtapeF))] H := hP
        have hD : va_D A [(reader, .inr (5, [.ref rtape, .int (nI rlength), .int (nI rmostBytes), .int (nI rplace), .int y1, .int (nI rbegin), .int rword, .int rnumber, .long rletters, .int rfaultKind, .int rfaultPlace])), (rtape, .inl (ky 2, 940, .inl rtapeF))] := hD
        refine lv_aload_n hx hb dX5_readSign_65 rfl (lv_at hl 2 rfl) ?_
        refine lv_dup hx hb dX5_readSign_66 rfl ?_
        refine va_get (D := (dC, dI)) (ci := 5) (v := .int (nI rplace)) (C := RX5) (T := TX5) (N := 11) hx hb hts hin5 hown hK hP 0 rfl rfl 3 (by decide) (hts (.fieldLink RX5 28 "PorridgeSea$Reader" "place" "I") (List.mem_of_getElem? (i := 2) rfl)) (fun _ h9 => h9) rfl dX5_readSign_67 ?_
        refine lv_iconst (v := nI 1) hx hb dX5_readSign_70 (by decide) ?_
        refine lv_iadd hx hb dX5_readSign_71 ?_
        refine r_ti (nI (rplace + 1)) (nI_add _ _) ?_
        refine va_put (D := (dC, dI)) (ci := 5) (v := .int (nI (rplace + 1))) (ty := .int) (C := RX5) (T := TX5) (N := 11) hx hb hts hin5 tyX5 tyX5_ok nmX5 hown hK hP hD hS 0 rfl rfl 3 (by decide) (hts (.fieldLink RX5 28 "PorridgeSea$Reader" "place" "I") (List.mem_of_getElem? (i := 2) rfl)) (fun _ h9 => h9) rfl (by decide +kernel) rfl rfl (Nat.le_of_ble_eq_true rfl) dX5_readSign_72 (fun H locs hP hD hS => ?_)
        have hP : va_P (dC, dI) vwCl [(reader, .inr (5, [.ref rtape, .int (nI rlength), .int (nI rmostBytes), .int (nI (rplace + 1)), .int y1, .int (nI rbegin), .int rword, .int rnumber, .long rletters, .int rfaultKind, .int rfaultPlace])), (rtape, .inl (ky 2, 940, .inl rtapeF))] H := hP
        have hD : va_D A [(reader, .inr (5, [.ref rtape, .int (nI rlength), .int (nI rmostBytes), .int (nI (rplace + 1)), .int y1, .int (nI rbegin), .int rword, .int rnumber, .long rletters, .int rfaultKind, .int rfaultPlace])), (rtape, .inl (ky 2, 940, .inl rtapeF))] := hD
        rw [hQ]
        exact W.vret hx hb hr (fun t9 ht9 hW9 => ⟨⟨((rplace + 1), y1), rfl, ⟨(lf_f_readSign_5 bt rlength rplace rtapeF y1 iv_rreader_0 iv_rreader_1 hTC hpl e2 t3 t4 c5 c7 c9), rfl, (lf_f_readSign_6 bt rlength rplace rtapeF y1 iv_rreader_0 iv_rreader_1 hTC hpl e2 t3 t4 c5 c7 c9)⟩, by rw [ht9]; exact hP, va_K.moved hW9.alike hK, hD⟩, hS.F ht9⟩) hS.2.2 dX5_readSign_75
      · refine lv_iload_n hx hb dX5_readSign_28 rfl (lv_at hl 0 rfl) ?_
        refine lv_bipush (v := nI 62) hx hb dX5_readSign_29 (by decide) ?_
        refine lv_icmp_eq (tgt := 46) hx hb dX5_readSign_31 (by decide) (fun c11 => ?_) (fun c11 => ?_)
        · refine lv_iconst (v := nI 1) hx hb dX5_readSign_46 (by decide) ?_
          refine lv_goto (tgt := 51) hx hb dX5_readSign_47 (by decide) ?_
          refine lv_istore_n (lv' := [(2, .int (nI 1)), (1, .int y1), (0, .ref reader)]) hx hb dX5_readSign_51 rfl hl (by decide) rfl (fun ls hl => ?_)
          refine lv_aload_n hx hb dX5_readSign_52 rfl (lv_at hl 2 rfl) ?_
          refine lv_iload_n hx hb dX5_readSign_53 rfl (lv_at hl 0 rfl) ?_
          refine lv_if_eq (tgt := 61) hx hb dX5_readSign_54 (by decide) (fun c12 => absurd c12 (by decide)) (fun c12 => ?_)
          refine lv_iload_n hx hb dX5_readSign_57 rfl (lv_at hl 1 rfl) ?_
          refine lv_goto (tgt := 62) hx hb dX5_readSign_58 (by decide) ?_
          refine va_put (D := (dC, dI)) (ci := 5) (v := .int y1) (ty := .int) (C := RX5) (T := TX5) (N := 11) hx hb hts hin5 tyX5 tyX5_ok nmX5 hown hK hP hD hS 0 rfl rfl 4 (by decide) (hts (.fieldLink RX5 46 "PorridgeSea$Reader" "kind" "I") (List.mem_of_getElem? (i := 3) rfl)) (fun _ h9 => h9) rfl (by decide +kernel) rfl rfl (Nat.le_of_ble_eq_true rfl) dX5_readSign_62 (fun H locs hP hD hS => ?_)
          have hP : va_P (dC, dI) vwCl [(reader, .inr (5, [.ref rtape, .int (nI rlength), .int (nI rmostBytes), .int (nI rplace), .int y1, .int (nI rbegin), .int rword, .int rnumber, .long rletters, .int rfaultKind, .int rfaultPlace])), (rtape, .inl (ky 2, 940, .inl rtapeF))] H := hP
          have hD : va_D A [(reader, .inr (5, [.ref rtape, .int (nI rlength), .int (nI rmostBytes), .int (nI rplace), .int y1, .int (nI rbegin), .int rword, .int rnumber, .long rletters, .int rfaultKind, .int rfaultPlace])), (rtape, .inl (ky 2, 940, .inl rtapeF))] := hD
          refine lv_aload_n hx hb dX5_readSign_65 rfl (lv_at hl 2 rfl) ?_
          refine lv_dup hx hb dX5_readSign_66 rfl ?_
          refine va_get (D := (dC, dI)) (ci := 5) (v := .int (nI rplace)) (C := RX5) (T := TX5) (N := 11) hx hb hts hin5 hown hK hP 0 rfl rfl 3 (by decide) (hts (.fieldLink RX5 28 "PorridgeSea$Reader" "place" "I") (List.mem_of_getElem? (i := 2) rfl)) (fun _ h9 => h9) rfl dX5_readSign_67 ?_
          refine lv_iconst (v := nI 1) hx hb dX5_readSign_70 (by decide) ?_
          refine lv_iadd hx hb dX5_readSign_71 ?_
          refine r_ti (nI (rplace + 1)) (nI_add _ _) ?_
          refine va_put (D := (dC, dI)) (ci := 5) (v := .int (nI (rplace + 1))) (ty := .int) (C := RX5) (T := TX5) (N := 11) hx hb hts hin5 tyX5 tyX5_ok nmX5 hown hK hP hD hS 0 rfl rfl 3 (by decide) (hts (.fieldLink RX5 28 "PorridgeSea$Reader" "place" "I") (List.mem_of_getElem? (i := 2) rfl)) (fun _ h9 => h9) rfl (by decide +kernel) rfl rfl (Nat.le_of_ble_eq_true rfl) dX5_readSign_72 (fun H locs hP hD hS => ?_)
          have hP : va_P (dC, dI) vwCl [(reader, .inr (5, [.ref rtape, .int (nI rlength), .int (nI rmostBytes), .int (nI (rplace + 1)), .int y1, .int (nI rbegin), .int rword, .int rnumber, .long rletters, .int rfaultKind, .int rfaultPlace])), (rtape, .inl (ky 2, 940, .inl rtapeF))] H := hP
          have hD : va_D A [(reader, .inr (5, [.ref rtape, .int (nI rlength), .int (nI rmostBytes), .int (nI (rplace + 1)), .int y1, .int (nI rbegin), .int rword, .int rnumber, .long rletters, .int rfaultKind, .int rfaultPlace])), (rtape, .inl (ky 2, 940, .inl rtapeF))] := hD
          rw [hQ]
          exact W.vret hx hb hr (fun t9 ht9 hW9 => ⟨⟨((rplace + 1), y1), rfl, ⟨(lf_f_readSign_7 bt rlength rplace rtapeF y1 iv_rreader_0 iv_rreader_1 hTC hpl e2 t3 t4 c5 c7 c9 c11), rfl, (lf_f_readSign_8 bt rlength rplace rtapeF y1 iv_rreader_0 iv_rreader_1 hTC hpl e2 t3 t4 c5 c7 c9 c11)⟩, by rw [ht9]; exact hP, va_K.moved hW9.alike hK, hD⟩, hS.F ht9⟩) hS.2.2 dX5_readSign_75
        · refine lv_iload_n hx hb dX5_readSign_34 rfl (lv_at hl 0 rfl) ?_
          refine lv_bipush (v := nI 40) hx hb dX5_readSign_35 (by decide) ?_
          refine lv_icmp_eq (tgt := 46) hx hb dX5_readSign_37 (by decide) (fun c13 => ?_) (fun c13 => ?_)
          · refine lv_iconst (v := nI 1) hx hb dX5_readSign_46 (by decide) ?_
            refine lv_goto (tgt := 51) hx hb dX5_readSign_47 (by decide) ?_
            refine lv_istore_n (lv' := [(2, .int (nI 1)), (1, .int y1), (0, .ref reader)]) hx hb dX5_readSign_51 rfl hl (by decide) rfl (fun ls hl => ?_)
            refine lv_aload_n hx hb dX5_readSign_52 rfl (lv_at hl 2 rfl) ?_
            refine lv_iload_n hx hb dX5_readSign_53 rfl (lv_at hl 0 rfl) ?_
            refine lv_if_eq (tgt := 61) hx hb dX5_readSign_54 (by decide) (fun c14 => absurd c14 (by decide)) (fun c14 => ?_)
            refine lv_iload_n hx hb dX5_readSign_57 rfl (lv_at hl 1 rfl) ?_
            refine lv_goto (tgt := 62) hx hb dX5_readSign_58 (by decide) ?_
            refine va_put (D := (dC, dI)) (ci := 5) (v := .int y1) (ty := .int) (C := RX5) (T := TX5) (N := 11) hx hb hts hin5 tyX5 tyX5_ok nmX5 hown hK hP hD hS 0 rfl rfl 4 (by decide) (hts (.fieldLink RX5 46 "PorridgeSea$Reader" "kind" "I") (List.mem_of_getElem? (i := 3) rfl)) (fun _ h9 => h9) rfl (by decide +kernel) rfl rfl (Nat.le_of_ble_eq_true rfl) dX5_readSign_62 (fun H locs hP hD hS => ?_)
            have hP : va_P (dC, dI) vwCl [(reader, .inr (5, [.ref rtape, .int (nI rlength), .int (nI rmostBytes), .int (nI rplace), .int y1, .int (nI rbegin), .int rword, .int rnumber, .long rletters, .int rfaultKind, .int rfaultPlace])), (rtape, .inl (ky 2, 940, .inl rtapeF))] H := hP
            have hD : va_D A [(reader, .inr (5, [.ref rtape, .int (nI rlength), .int (nI rmostBytes), .int (nI rplace), .int y1, .int (nI rbegin), .int rword, .int rnumber, .long rletters, .int rfaultKind, .int rfaultPlace])), (rtape, .inl (ky 2, 940, .inl rtapeF))] := hD
            refine lv_aload_n hx hb dX5_readSign_65 rfl (lv_at hl 2 rfl) ?_
            refine lv_dup hx hb dX5_readSign_66 rfl ?_
            refine va_get (D := (dC, dI)) (ci := 5) (v := .int (nI rplace)) (C := RX5) (T := TX5) (N := 11) hx hb hts hin5 hown hK hP 0 rfl rfl 3 (by decide) (hts (.fieldLink RX5 28 "PorridgeSea$Reader" "place" "I") (List.mem_of_getElem? (i := 2) rfl)) (fun _ h9 => h9) rfl dX5_readSign_67 ?_
            refine lv_iconst (v := nI 1) hx hb dX5_readSign_70 (by decide) ?_
            refine lv_iadd hx hb dX5_readSign_71 ?_
            refine r_ti (nI (rplace + 1)) (nI_add _ _) ?_
            refine va_put (D := (dC, dI)) (ci := 5) (v := .int (nI (rplace + 1))) (ty := .int) (C := RX5) (T := TX5) (N := 11) hx hb hts hin5 tyX5 tyX5_ok nmX5 hown hK hP hD hS 0 rfl rfl 3 (by decide) (hts (.fieldLink RX5 28 "PorridgeSea$Reader" "place" "I") (List.mem_of_getElem? (i := 2) rfl)) (fun _ h9 => h9) rfl (by decide +kernel) rfl rfl (Nat.le_of_ble_eq_true rfl) dX5_readSign_72 (fun H locs hP hD hS => ?_)
            have hP : va_P (dC, dI) vwCl [(reader, .inr (5, [.ref rtape, .int (nI rlength), .int (nI rmostBytes), .int (nI (rplace + 1)), .int y1, .int (nI rbegin), .int rword, .int rnumber, .long rletters, .int rfaultKind, .int rfaultPlace])), (rtape, .inl (ky 2, 940, .inl rtapeF))] H := hP
            have hD : va_D A [(reader, .inr (5, [.ref rtape, .int (nI rlength), .int (nI rmostBytes), .int (nI (rplace + 1)), .int y1, .int (nI rbegin), .int rword, .int rnumber, .long rletters, .int rfaultKind, .int rfaultPlace])), (rtape, .inl (ky 2, 940, .inl rtapeF))] := hD
            rw [hQ]
            exact W.vret hx hb hr (fun t9 ht9 hW9 => ⟨⟨((rplace + 1), y1), rfl, ⟨(lf_f_readSign_9 bt rlength rplace rtapeF y1 iv_rreader_0 iv_rreader_1 hTC hpl e2 t3 t4 c5 c7 c9 c11 c13), rfl, (lf_f_readSign_10 bt rlength rplace rtapeF y1 iv_rreader_0 iv_rreader_1 hTC hpl e2 t3 t4 c5 c7 c9 c11 c13)⟩, by rw [ht9]; exact hP, va_K.moved hW9.alike hK, hD⟩, hS.F ht9⟩) hS.2.2 dX5_readSign_75
          · refine lv_iload_n hx hb dX5_readSign_40 rfl (lv_at hl 0 rfl) ?_
            refine lv_bipush (v := nI 41) hx hb dX5_readSign_41 (by decide) ?_
            refine lv_icmp_ne (tgt := 50) hx hb dX5_readSign_43 (by decide) (fun c15 => ?_) (fun c15 => ?_)
            · refine lv_iconst (v := nI 0) hx hb dX5_readSign_50 (by decide) ?_
              refine lv_istore_n (lv' := [(2, .int (nI 0)), (1, .int y1), (0, .ref reader)]) hx hb dX5_readSign_51 rfl hl (by decide) rfl (fun ls hl => ?_)
              refine lv_aload_n hx hb dX5_readSign_52 rfl (lv_at hl 2 rfl) ?_
              refine lv_iload_n hx hb dX5_readSign_53 rfl (lv_at hl 0 rfl) ?_
              refine lv_if_eq (tgt := 61) hx hb dX5_readSign_54 (by decide) (fun c16 => ?_) (fun c16 => absurd (by decide) c16)
              refine lv_iconst (v := nI 1) hx hb dX5_readSign_61 (by decide) ?_
              refine va_put (D := (dC, dI)) (ci := 5) (v := .int (nI 1)) (ty := .int) (C := RX5) (T := TX5) (N := 11) hx hb hts hin5 tyX5 tyX5_ok nmX5 hown hK hP hD hS 0 rfl rfl 4 (by decide) (hts (.fieldLink RX5 46 "PorridgeSea$Reader" "kind" "I") (List.mem_of_getElem? (i := 3) rfl)) (fun _ h9 => h9) rfl (by decide +kernel) rfl rfl (Nat.le_of_ble_eq_true rfl) dX5_readSign_62 (fun H locs hP hD hS => ?_)
              have hP : va_P (dC, dI) vwCl [(reader, .inr (5, [.ref rtape, .int (nI rlength), .int (nI rmostBytes), .int (nI rplace), .int (nI 1), .int (nI rbegin), .int rword, .int rnumber, .long rletters, .int rfaultKind, .int rfaultPlace])), (rtape, .inl (ky 2, 940, .inl rtapeF))] H := hP
              have hD : va_D A [(reader, .inr (5, [.ref rtape, .int (nI rlength), .int (nI rmostBytes), .int (nI rplace), .int (nI 1), .int (nI rbegin), .int rword, .int rnumber, .long rletters, .int rfaultKind, .int rfaultPlace])), (rtape, .inl (ky 2, 940, .inl rtapeF))] := hD
              refine lv_aload_n hx hb dX5_readSign_65 rfl (lv_at hl 2 rfl) ?_
              refine lv_dup hx hb dX5_readSign_66 rfl ?_
              refine va_get (D := (dC, dI)) (ci := 5) (v := .int (nI rplace)) (C := RX5) (T := TX5) (N := 11) hx hb hts hin5 hown hK hP 0 rfl rfl 3 (by decide) (hts (.fieldLink RX5 28 "PorridgeSea$Reader" "place" "I") (List.mem_of_getElem? (i := 2) rfl)) (fun _ h9 => h9) rfl dX5_readSign_67 ?_
              refine lv_iconst (v := nI 1) hx hb dX5_readSign_70 (by decide) ?_
              refine lv_iadd hx hb dX5_readSign_71 ?_
              refine r_ti (nI (rplace + 1)) (nI_add _ _) ?_
              refine va_put (D := (dC, dI)) (ci := 5) (v := .int (nI (rplace + 1))) (ty := .int) (C := RX5) (T := TX5) (N := 11) hx hb hts hin5 tyX5 tyX5_ok nmX5 hown hK hP hD hS 0 rfl rfl 3 (by decide) (hts (.fieldLink RX5 28 "PorridgeSea$Reader" "place" "I") (List.mem_of_getElem? (i := 2) rfl)) (fun _ h9 => h9) rfl (by decide +kernel) rfl rfl (Nat.le_of_ble_eq_true rfl) dX5_readSign_72 (fun H locs hP hD hS => ?_)
              have hP : va_P (dC, dI) vwCl [(reader, .inr (5, [.ref rtape, .int (nI rlength), .int (nI rmostBytes), .int (nI (rplace + 1)), .int (nI 1), .int (nI rbegin), .int rword, .int rnumber, .long rletters, .int rfaultKind, .int rfaultPlace])), (rtape, .inl (ky 2, 940, .inl rtapeF))] H := hP
              have hD : va_D A [(reader, .inr (5, [.ref rtape, .int (nI rlength), .int (nI rmostBytes), .int (nI (rplace + 1)), .int (nI 1), .int (nI rbegin), .int rword, .int rnumber, .long rletters, .int rfaultKind, .int rfaultPlace])), (rtape, .inl (ky 2, 940, .inl rtapeF))] := hD
              rw [hQ]
              exact W.vret hx hb hr (fun t9 ht9 hW9 => ⟨⟨((rplace + 1), nI 1), rfl, ⟨(lf_f_readSign_11 bt rlength rplace rtapeF y1 iv_rreader_0 iv_rreader_1 hTC hpl e2 t3 t4 c5 c7 c9 c11 c13 c15), rfl, (lf_f_readSign_12 bt rlength rplace rtapeF y1 iv_rreader_0 iv_rreader_1 hTC hpl e2 t3 t4 c5 c7 c9 c11 c13 c15)⟩, by rw [ht9]; exact hP, va_K.moved hW9.alike hK, hD⟩, hS.F ht9⟩) hS.2.2 dX5_readSign_75
            · refine lv_iconst (v := nI 1) hx hb dX5_readSign_46 (by decide) ?_
              refine lv_goto (tgt := 51) hx hb dX5_readSign_47 (by decide) ?_
              refine lv_istore_n (lv' := [(2, .int (nI 1)), (1, .int y1), (0, .ref reader)]) hx hb dX5_readSign_51 rfl hl (by decide) rfl (fun ls hl => ?_)
              refine lv_aload_n hx hb dX5_readSign_52 rfl (lv_at hl 2 rfl) ?_
              refine lv_iload_n hx hb dX5_readSign_53 rfl (lv_at hl 0 rfl) ?_
              refine lv_if_eq (tgt := 61) hx hb dX5_readSign_54 (by decide) (fun c17 => absurd c17 (by decide)) (fun c17 => ?_)
              refine lv_iload_n hx hb dX5_readSign_57 rfl (lv_at hl 1 rfl) ?_
              refine lv_goto (tgt := 62) hx hb dX5_readSign_58 (by decide) ?_
              refine va_put (D := (dC, dI)) (ci := 5) (v := .int y1) (ty := .int) (C := RX5) (T := TX5) (N := 11) hx hb hts hin5 tyX5 tyX5_ok nmX5 hown hK hP hD hS 0 rfl rfl 4 (by decide) (hts (.fieldLink RX5 46 "PorridgeSea$Reader" "kind" "I") (List.mem_of_getElem? (i := 3) rfl)) (fun _ h9 => h9) rfl (by decide +kernel) rfl rfl (Nat.le_of_ble_eq_true rfl) dX5_readSign_62 (fun H locs hP hD hS => ?_)
              have hP : va_P (dC, dI) vwCl [(reader, .inr (5, [.ref rtape, .int (nI rlength), .int (nI rmostBytes), .int (nI rplace), .int y1, .int (nI rbegin), .int rword, .int rnumber, .long rletters, .int rfaultKind, .int rfaultPlace])), (rtape, .inl (ky 2, 940, .inl rtapeF))] H := hP
              have hD : va_D A [(reader, .inr (5, [.ref rtape, .int (nI rlength), .int (nI rmostBytes), .int (nI rplace), .int y1, .int (nI rbegin), .int rword, .int rnumber, .long rletters, .int rfaultKind, .int rfaultPlace])), (rtape, .inl (ky 2, 940, .inl rtapeF))] := hD
              refine lv_aload_n hx hb dX5_readSign_65 rfl (lv_at hl 2 rfl) ?_
              refine lv_dup hx hb dX5_readSign_66 rfl ?_
              refine va_get (D := (dC, dI)) (ci := 5) (v := .int (nI rplace)) (C := RX5) (T := TX5) (N := 11) hx hb hts hin5 hown hK hP 0 rfl rfl 3 (by decide) (hts (.fieldLink RX5 28 "PorridgeSea$Reader" "place" "I") (List.mem_of_getElem? (i := 2) rfl)) (fun _ h9 => h9) rfl dX5_readSign_67 ?_
              refine lv_iconst (v := nI 1) hx hb dX5_readSign_70 (by decide) ?_
              refine lv_iadd hx hb dX5_readSign_71 ?_
              refine r_ti (nI (rplace + 1)) (nI_add _ _) ?_
              refine va_put (D := (dC, dI)) (ci := 5) (v := .int (nI (rplace + 1))) (ty := .int) (C := RX5) (T := TX5) (N := 11) hx hb hts hin5 tyX5 tyX5_ok nmX5 hown hK hP hD hS 0 rfl rfl 3 (by decide) (hts (.fieldLink RX5 28 "PorridgeSea$Reader" "place" "I") (List.mem_of_getElem? (i := 2) rfl)) (fun _ h9 => h9) rfl (by decide +kernel) rfl rfl (Nat.le_of_ble_eq_true rfl) dX5_readSign_72 (fun H locs hP hD hS => ?_)
              have hP : va_P (dC, dI) vwCl [(reader, .inr (5, [.ref rtape, .int (nI rlength), .int (nI rmostBytes), .int (nI (rplace + 1)), .int y1, .int (nI rbegin), .int rword, .int rnumber, .long rletters, .int rfaultKind, .int rfaultPlace])), (rtape, .inl (ky 2, 940, .inl rtapeF))] H := hP
              have hD : va_D A [(reader, .inr (5, [.ref rtape, .int (nI rlength), .int (nI rmostBytes), .int (nI (rplace + 1)), .int y1, .int (nI rbegin), .int rword, .int rnumber, .long rletters, .int rfaultKind, .int rfaultPlace])), (rtape, .inl (ky 2, 940, .inl rtapeF))] := hD
              rw [hQ]
              exact W.vret hx hb hr (fun t9 ht9 hW9 => ⟨⟨((rplace + 1), y1), rfl, ⟨(lf_f_readSign_13 bt rlength rplace rtapeF y1 iv_rreader_0 iv_rreader_1 hTC hpl e2 t3 t4 c5 c7 c9 c11 c13 c15), rfl, (lf_f_readSign_14 bt rlength rplace rtapeF y1 iv_rreader_0 iv_rreader_1 hTC hpl e2 t3 t4 c5 c7 c9 c11 c13 c15)⟩, by rw [ht9]; exact hP, va_K.moved hW9.alike hK, hD⟩, hS.F ht9⟩) hS.2.2 dX5_readSign_75
