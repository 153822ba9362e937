theorem dcn_fst {bt : Nat → Nat} {p k : Nat} (h : 0 < k) : (cDi (bt p) → 0 < dcn bt p k) ∧ (¬ cDi (bt p) → dcn bt p k < k) := by
  induction k with
  | zero => omega
  | succ k ih =>
    by_cases hk : k = 0
    · subst hk
      constructor
      · intro h9; rw [dcn_y (by rw [Nat.add_zero]; exact h9)]; omega
      · intro h9; rw [dcn_n (by rw [Nat.add_zero]; exact h9)]; show dcn bt p 0 < 1; rw [dcn]; decide
    · obtain ⟨a, b⟩ := ih (by omega)
      constructor
      · intro h9
        have := a h9
        rw [dcn]
        omega
      · intro h9
        have := b h9
        rw [dcn]
        split <;> omega
theorem w27_step {c b : Nat} {y : Int32} (h1 : 96 ≤ b) (h2 : b < 256) (hy : y = nI b) : (27 : Int64) * Int64.ofNat c + y.toInt64 - (96 : Int64) = Int64.ofNat (27 * c + (b - 96)) := by
  have hy2 : y.toInt = ((b : Nat) : Int) := by rw [hy, ia_n b (by omega)]
  rw [i64_of (by omega) hy2]
  have e1 : (27 : Int64) = Int64.ofNat 27 := rfl
  have e2 : (96 : Int64) = Int64.ofNat 96 := rfl
  rw [e1, e2, ← Int64.ofNat_mul, ← Int64.ofNat_add, show 27 * c + (b - 96) = 27 * c + b - 96 by omega, Int64.ofNat_sub _ _ (by omega)]
theorem go_n {bt : Nat → Nat} {p k : Nat} {x y : Int32} (hk : p ≤ k) (hN : ¬ (dcn bt p (k - p) = k - p ∧ k - p ≤ 3) ∨ x = nI (nvn bt p (k - p))) (hlt : k - p < 3) (hb : bt k < 256) (hy : y = nI (bt k)) : ¬ (dcn bt p (k + 1 - p) = k + 1 - p ∧ k + 1 - p ≤ 3) ∨ nI 10 * x + y - nI 48 = nI (nvn bt p (k + 1 - p)) := by
  have h5 := dcn_le bt p (k - p)
  have hy2 : y.toInt = ((bt k : Nat) : Int) := by rw [hy, ia_n _ (by omega)]
  by_cases h9 : cDi (bt k)
  · rw [rr_dy hk h9]
    have h8 := rr_ny (d := dcn bt p (k - p)) (x := x) (y := y) hk rfl (hN.imp (fun h h2 => h ⟨h2.1, by omega⟩) id) h9.1 h9.2 hy2
    rcases h8 with h | h
    · exact Or.inl (fun h2 => h ⟨h2.1, by omega⟩)
    · exact Or.inr h
  · rw [rr_dn hk h9]
    exact Or.inl (by omega)
theorem go_w {bt : Nat → Nat} {p k : Nat} {w : Int64} {y : Int32} (hk : p ≤ k) (hW : ¬ (dcn bt p (k - p) = 0 ∧ k - p ≤ 7) ∨ w = Int64.ofNat (c27 bt p (k - p))) (hlt : k - p < 7) (hb : bt k < 256) (hal : cAl (bt k)) (hy : y = nI (bt k)) : ¬ (dcn bt p (k + 1 - p) = 0 ∧ k + 1 - p ≤ 7) ∨ (27 : Int64) * w + y.toInt64 - (96 : Int64) = Int64.ofNat (c27 bt p (k + 1 - p)) := by
  by_cases h9 : cDi (bt k)
  · rw [rr_dy hk h9]
    exact Or.inl (by omega)
  · rw [rr_dn hk h9]
    rcases hW with h | h
    · exact Or.inl (by omega)
    · have h8 : cLe (bt k) := hal.resolve_right h9
      refine Or.inr ?_
      rw [h, w27_step (b := bt k) (by have := h8.1; omega) hb hy, show k + 1 - p = (k - p) + 1 by omega, c27, show p + (k - p) = k by omega]
theorem go_e {bt : Nat → Nat} {p k : Nat} (hk : p ≤ k) (hE : dcn bt p (k - p) ≠ 0 ∨ LET bt p (k - p)) (hal : cAl (bt k)) : dcn bt p (k + 1 - p) ≠ 0 ∨ LET bt p (k + 1 - p) := by
  by_cases h9 : cDi (bt k)
  · rw [rr_dy hk h9]
    exact Or.inl (by omega)
  · rw [rr_dn hk h9]
    exact rr_le hk hE (hal.resolve_right h9)
set_option maxRecDepth 20000 in
theorem lf_g_isLetter_1 (x : Int32) (c1 : x < nI 97) : ((nI 0) = nI 1 ∧ (97 ≤ x.toInt ∧ x.toInt ≤ 122)) ∨ ((nI 0) = nI 0 ∧ (¬ (97 ≤ x.toInt ∧ x.toInt ≤ 122))) := by
  have b_x := ia_b x
  try have k_0 := ia_n 97 (by first | decide | omega)
  try have k_1 := ia_n 0 (by first | decide | omega)
  try have k_2 := ia_n 1 (by first | decide | omega)
  try simp only [ia_lt, ia_le, ia_eq, ia_m1, ia_0, ia_1, ne_eq, true_and, and_true, false_and, and_false, or_false, false_or, or_true, true_or, not_true_eq_false, not_false_eq_true] at *
  all_goals omega
set_option maxRecDepth 20000 in
theorem lf_g_isLetter_2 (x : Int32) (c1 : ¬ x < nI 97) (c2 : nI 122 < x) : ((nI 0) = nI 1 ∧ (97 ≤ x.toInt ∧ x.toInt ≤ 122)) ∨ ((nI 0) = nI 0 ∧ (¬ (97 ≤ x.toInt ∧ x.toInt ≤ 122))) := by
  have b_x := ia_b x
  try have k_0 := ia_n 97 (by first | decide | omega)
  try have k_1 := ia_n 122 (by first | decide | omega)
  try have k_2 := ia_n 0 (by first | decide | omega)
  try have k_3 := ia_n 1 (by first | decide | omega)
  try simp only [ia_lt, ia_le, ia_eq, ia_m1, ia_0, ia_1, ne_eq, true_and, and_true, false_and, and_false, or_false, false_or, or_true, true_or, not_true_eq_false, not_false_eq_true] at *
  all_goals omega
set_option maxRecDepth 20000 in
theorem lf_g_isLetter_3 (x : Int32) (c1 : ¬ x < nI 97) (c2 : ¬ nI 122 < x) : ((nI 1) = nI 1 ∧ (97 ≤ x.toInt ∧ x.toInt ≤ 122)) ∨ ((nI 1) = nI 0 ∧ (¬ (97 ≤ x.toInt ∧ x.toInt ≤ 122))) := by
  have b_x := ia_b x
  try have k_0 := ia_n 97 (by first | decide | omega)
  try have k_1 := ia_n 122 (by first | decide | omega)
  try have k_2 := ia_n 1 (by first | decide | omega)
  try have k_3 := ia_n 0 (by first | decide | omega)
  try simp only [ia_lt, ia_le, ia_eq, ia_m1, ia_0, ia_1, ne_eq, true_and, and_true, false_and, and_false, or_false, false_or, or_true, true_or, not_true_eq_false, not_false_eq_true] at *
  all_goals omega
set_option maxHeartbeats 4000000 in
set_option maxRecDepth 100000 in
theorem c_g_isLetter (l : Launch) (dC : Nat → ClassId) (dI : Nat → Nat → Nat) (ky : Nat → ClassId) (x : Int32)  : Met l yX12_isLetter wsX12_isLetter ({ frames := 0, cells := 0, slots := 0, locals := 0 }) (PcP dC dI ky [.int x] []) (vp_Si (fun r : Int32 => (r = nI 1 ∧ (97 ≤ x.toInt ∧ x.toInt ≤ 122)) ∨ (r = nI 0 ∧ (¬ (97 ≤ x.toInt ∧ x.toInt ≤ 122))))) 0 0 (fun _ => False) := by
  refine Met.ofW (cc := cX12_isLetter) (maxL := 1) (ret := (some .boolean)) (by decide) rfl ?_
  intro p e s m args below meth c s₁ B hml hv
  obtain ⟨rfl, hP, hK⟩ := hv
  have hx := B.exec
  have hb := B.bytes
  have hr := B.returns
  have hts := atoms_spec (ws := wsX12_isLetter) B.pre
  have hown : s.vm.findClass RX12 = some m.cls := findClass_of_methodNamed B.named
  have hlocks := B.notSynchronized
  have hl := lv_entry ([.int x]) (n := 1) (Nat.le_of_ble_eq_true rfl)
  rw [lg_entry_eq]
  generalize (lg_sl ([.int x]) ++ List.replicate (1 - (lg_sl ([.int x])).length) Slot.unset).toArray = ls at hl ⊢
  have hl : lv_has ls 1 [(0, .int x)] := hl
  refine q_name (fun Q hQ => ?_)
  generalize ([.int x] : List Value).toArray = args at hts hQ ⊢
  refine lv_iload_n hx hb dX12_isLetter_0 rfl (lv_at hl 0 rfl) ?_
  refine lv_bipush (v := nI 97) hx hb dX12_isLetter_1 (by decide) ?_
  refine lv_icmp_lt (tgt := 16) hx hb dX12_isLetter_3 (by decide) (fun c1 => ?_) (fun c1 => ?_)
  · refine lv_iconst (v := nI 0) hx hb dX12_isLetter_16 (by decide) ?_
    rw [hQ]
    exact W.zret (v := nI 0) hx hb hr (by decide) (fun t9 ht9 hW9 => ⟨nI 0, rfl, (lf_g_isLetter_1 x c1), ht9⟩) (fun _ h => absurd h List.not_mem_nil) dX12_isLetter_17
  · refine lv_iload_n hx hb dX12_isLetter_6 rfl (lv_at hl 0 rfl) ?_
    refine lv_bipush (v := nI 122) hx hb dX12_isLetter_7 (by decide) ?_
    refine lv_icmp_gt (tgt := 16) hx hb dX12_isLetter_9 (by decide) (fun c2 => ?_) (fun c2 => ?_)
    · refine lv_iconst (v := nI 0) hx hb dX12_isLetter_16 (by decide) ?_
      rw [hQ]
      exact W.zret (v := nI 0) hx hb hr (by decide) (fun t9 ht9 hW9 => ⟨nI 0, rfl, (lf_g_isLetter_2 x c1 c2), ht9⟩) (fun _ h => absurd h List.not_mem_nil) dX12_isLetter_17
    · refine lv_iconst (v := nI 1) hx hb dX12_isLetter_12 (by decide) ?_
      refine lv_goto (tgt := 17) hx hb dX12_isLetter_13 (by decide) ?_
      rw [hQ]
      exact W.zret (v := nI 1) hx hb hr (by decide) (fun t9 ht9 hW9 => ⟨nI 1, rfl, (lf_g_isLetter_3 x c1 c2), ht9⟩) (fun _ h => absurd h List.not_mem_nil) dX12_isLetter_17
set_option maxRecDepth 20000 in
theorem lf_g_isDigit_1 (x : Int32) (c1 : x < nI 48) : ((nI 0) = nI 1 ∧ (48 ≤ x.toInt ∧ x.toInt ≤ 57)) ∨ ((nI 0) = nI 0 ∧ (¬ (48 ≤ x.toInt ∧ x.toInt ≤ 57))) := by
  have b_x := ia_b x
  try have k_0 := ia_n 48 (by first | decide | omega)
  try have k_1 := ia_n 0 (by first | decide | omega)
  try have k_2 := ia_n 1 (by first | decide | omega)
  try simp only [ia_lt, ia_le, ia_eq, ia_m1, ia_0, ia_1, ne_eq, true_and, and_true, false_and, and_false, or_false, false_or, or_true, true_or, not_true_eq_false, not_false_eq_true] at *
  all_goals omega
set_option maxRecDepth 20000 in
theorem lf_g_isDigit_2 (x : Int32) (c1 : ¬ x < nI 48) (c2 : nI 57 < x) : ((nI 0) = nI 1 ∧ (48 ≤ x.toInt ∧ x.toInt ≤ 57)) ∨ ((nI 0) = nI 0 ∧ (¬ (48 ≤ x.toInt ∧ x.toInt ≤ 57))) := by
  have b_x := ia_b x
  try have k_0 := ia_n 48 (by first | decide | omega)
  try have k_1 := ia_n 57 (by first | decide | omega)
  try have k_2 := ia_n 0 (by first | decide | omega)
  try have k_3 := ia_n 1 (by first | decide | omega)
  try simp only [ia_lt, ia_le, ia_eq, ia_m1, ia_0, ia_1, ne_eq, true_and, and_true, false_and, and_false, or_false, false_or, or_true, true_or, not_true_eq_false, not_false_eq_true] at *
  all_goals omega
set_option maxRecDepth 20000 in
theorem lf_g_isDigit_3 (x : Int32) (c1 : ¬ x < nI 48) (c2 : ¬ nI 57 < x) : ((nI 1) = nI 1 ∧ (48 ≤ x.toInt ∧ x.toInt ≤ 57)) ∨ ((nI 1) = nI 0 ∧ (¬ (48 ≤ x.toInt ∧ x.toInt ≤ 57))) := by
  have b_x := ia_b x
  try have k_0 := ia_n 48 (by first | decide | omega)
  try have k_1 := ia_n 57 (by first | decide | omega)
  try have k_2 := ia_n 1 (by first | decide | omega)
  try have k_3 := ia_n 0 (by first | decide | omega)
  try simp only [ia_lt, ia_le, ia_eq, ia_m1, ia_0, ia_1, ne_eq, true_and, and_true, false_and, and_false, or_false, false_or, or_true, true_or, not_true_eq_false, not_false_eq_true] at *
  all_goals omega
set_option maxHeartbeats 4000000 in
set_option maxRecDepth 100000 in
theorem c_g_isDigit (l : Launch) (dC : Nat → ClassId) (dI : Nat → Nat → Nat) (ky : Nat → ClassId) (x : Int32)  : Met l yX12_isDigit wsX12_isDigit ({ frames := 0, cells := 0, slots := 0, locals := 0 }) (PcP dC dI ky [.int x] []) (vp_Si (fun r : Int32 => (r = nI 1 ∧ (48 ≤ x.toInt ∧ x.toInt ≤ 57)) ∨ (r = nI 0 ∧ (¬ (48 ≤ x.toInt ∧ x.toInt ≤ 57))))) 0 0 (fun _ => False) := by
  refine Met.ofW (cc := cX12_isDigit) (maxL := 1) (ret := (some .boolean)) (by decide) rfl ?_
  intro p e s m args below meth c s₁ B hml hv
  obtain ⟨rfl, hP, hK⟩ := hv
  have hx := B.exec
  have hb := B.bytes
  have hr := B.returns
  have hts := atoms_spec (ws := wsX12_isDigit) B.pre
  have hown : s.vm.findClass RX12 = some m.cls := findClass_of_methodNamed B.named
  have hlocks := B.notSynchronized
  have hl := lv_entry ([.int x]) (n := 1) (Nat.le_of_ble_eq_true rfl)
  rw [lg_entry_eq]
  generalize (lg_sl ([.int x]) ++ List.replicate (1 - (lg_sl ([.int x])).length) Slot.unset).toArray = ls at hl ⊢
  have hl : lv_has ls 1 [(0, .int x)] := hl
  refine q_name (fun Q hQ => ?_)
  generalize ([.int x] : List Value).toArray = args at hts hQ ⊢
  refine lv_iload_n hx hb dX12_isDigit_0 rfl (lv_at hl 0 rfl) ?_
  refine lv_bipush (v := nI 48) hx hb dX12_isDigit_1 (by decide) ?_
  refine lv_icmp_lt (tgt := 16) hx hb dX12_isDigit_3 (by decide) (fun c1 => ?_) (fun c1 => ?_)
  · refine lv_iconst (v := nI 0) hx hb dX12_isDigit_16 (by decide) ?_
    rw [hQ]
    exact W.zret (v := nI 0) hx hb hr (by decide) (fun t9 ht9 hW9 => ⟨nI 0, rfl, (lf_g_isDigit_1 x c1), ht9⟩) (fun _ h => absurd h List.not_mem_nil) dX12_isDigit_17
  · refine lv_iload_n hx hb dX12_isDigit_6 rfl (lv_at hl 0 rfl) ?_
    refine lv_bipush (v := nI 57) hx hb dX12_isDigit_7 (by decide) ?_
    refine lv_icmp_gt (tgt := 16) hx hb dX12_isDigit_9 (by decide) (fun c2 => ?_) (fun c2 => ?_)
    · refine lv_iconst (v := nI 0) hx hb dX12_isDigit_16 (by decide) ?_
      rw [hQ]
      exact W.zret (v := nI 0) hx hb hr (by decide) (fun t9 ht9 hW9 => ⟨nI 0, rfl, (lf_g_isDigit_2 x c1 c2), ht9⟩) (fun _ h => absurd h List.not_mem_nil) dX12_isDigit_17
    · refine lv_iconst (v := nI 1) hx hb dX12_isDigit_12 (by decide) ?_
      refine lv_goto (tgt := 17) hx hb dX12_isDigit_13 (by decide) ?_
      rw [hQ]
      exact W.zret (v := nI 1) hx hb hr (by decide) (fun t9 ht9 hW9 => ⟨nI 1, rfl, (lf_g_isDigit_3 x c1 c2), ht9⟩) (fun _ h => absurd h List.not_mem_nil) dX12_isDigit_17
set_option maxRecDepth 20000 in
theorem lf_g_tapeAt_1 (bt : Nat → Nat) (o : Nat) (kthrown : Int32) (ktape : Nat) (ktaped : Nat) (ksize : Nat) (klimit : Nat) (kto : Nat) (kfrom : Nat) (kkind : Int32) (knumber : Int32) (ksign : Int32) (kfault : Int32) (kplace : Int32) (kword : Int64) (ktold : Int32) (know : Nat) (kread : Nat) (kkept : Nat) (ksnaps : Nat) (kaside : Nat) (kname : Nat) (kreadName : Nat) (kkeptName : Nat) (kisKept : Nat) (konces : Nat) (ksnapMany : Nat) (khasCells : Int32) (kpoured : Nat) (kfar : Nat) (ksides : Nat) (ksideMany : Nat) (kwayDays : Int32) (khasWay : Int32) (klines : Nat) (kmet : Nat) (kmetMany : Nat) (ksunk : Nat) (ktrying : Nat) (ksunkMany : Nat) (ksending : Int32) (kfleets : Int32) (ktext : Nat) (ktexts : Nat) (kseed : Int32) (kline : Nat) (kwritten : Nat) (klineMany : Nat) (khasWritten : Int32) (knode : Nat) (knodes : Nat) (konesMany : Nat) (kwithin : Nat) (ktop : Nat) (ktapeF : Nat → Int32) (p9 : Nat) (iv_ko_0 : ktaped ≤ 940) (iv_ko_1 : ksize ≤ 940) (iv_ko_2 : klimit ≤ 900) (iv_ko_3 : kto ≤ ksize) (iv_ko_4 : kfrom ≤ 940) (iv_ko_5 : ksnapMany ≤ 8) (iv_ko_6 : ksideMany ≤ 36) (iv_ko_7 : kmetMany ≤ 3) (iv_ko_8 : ksunkMany ≤ 36) (iv_ko_9 : ktexts ≤ 64) (iv_ko_10 : klineMany ≤ 40) (iv_ko_11 : knodes ≤ 60) (iv_ko_12 : konesMany ≤ 20) (iv_ko_13 : kwithin ≤ 8) (iv_ko_14 : ktop ≤ 59) (hTM : TM bt ktapeF) (hp : p9 ≤ 940) (c1 : ksize ≤ p9) : (p9 < ksize ∧ (nI 0) = nI (bt p9)) ∨ (¬ p9 < ksize ∧ (nI 0) = nI 0) := by
  first
    | exact Or.inl ⟨by omega, by assumption⟩
    | exact Or.inr ⟨by omega, rfl⟩
set_option maxRecDepth 20000 in
theorem lf_g_tapeAt_2 (bt : Nat → Nat) (ksize : Nat) (kto : Nat) (ktapeF : Nat → Int32) (p9 : Nat) (y2 : Int32) (iv_ko_1 : ksize ≤ 940) (iv_ko_3 : kto ≤ ksize) (hTM : TM bt ktapeF) (hp : p9 ≤ 940) (c1 : p9 < ksize) (e3 : y2 = ktapeF p9) : p9 < 940 := by
  have b_y2 := ia_b y2
  try simp only [ia_lt, ia_le, ia_eq, ia_m1, ia_0, ia_1, ne_eq, true_and, and_true, false_and, and_false, or_false, false_or, or_true, true_or, not_true_eq_false, not_false_eq_true] at *
  all_goals omega
set_option maxRecDepth 20000 in
theorem lf_g_tapeAt_3 (bt : Nat → Nat) (ksize : Nat) (kto : Nat) (ktapeF : Nat → Int32) (p9 : Nat) (y2 : Int32) (iv_ko_1 : ksize ≤ 940) (iv_ko_3 : kto ≤ ksize) (hTM : TM bt ktapeF) (hp : p9 ≤ 940) (c1 : p9 < ksize) (e3 : y2 = ktapeF p9) : p9 < 940 := by
  have b_y2 := ia_b y2
  try simp only [ia_lt, ia_le, ia_eq, ia_m1, ia_0, ia_1, ne_eq, true_and, and_true, false_and, and_false, or_false, false_or, or_true, true_or, not_true_eq_false, not_false_eq_true] at *
  all_goals omega
set_option maxRecDepth 20000 in
theorem lf_g_tapeAt_4 (bt : Nat → Nat) (o : Nat) (kthrown : Int32) (ktape : Nat) (ktaped : Nat) (ksize : Nat) (klimit : Nat) (kto : Nat) (kfrom : Nat) (kkind : Int32) (knumber : Int32) (ksign : Int32) (kfault : Int32) (kplace : Int32) (kword : Int64) (ktold : Int32) (know : Nat) (kread : Nat) (kkept : Nat) (ksnaps : Nat) (kaside : Nat) (kname : Nat) (kreadName : Nat) (kkeptName : Nat) (kisKept : Nat) (konces : Nat) (ksnapMany : Nat) (khasCells : Int32) (kpoured : Nat) (kfar : Nat) (ksides : Nat) (ksideMany : Nat) (kwayDays : Int32) (khasWay : Int32) (klines : Nat) (kmet : Nat) (kmetMany : Nat) (ksunk : Nat) (ktrying : Nat) (ksunkMany : Nat) (ksending : Int32) (kfleets : Int32) (ktext : Nat) (ktexts : Nat) (kseed : Int32) (kline : Nat) (kwritten : Nat) (klineMany : Nat) (khasWritten : Int32) (knode : Nat) (knodes : Nat) (konesMany : Nat) (kwithin : Nat) (ktop : Nat) (ktapeF : Nat → Int32) (p9 : Nat) (y2 : Int32) (iv_ko_0 : ktaped ≤ 940) (iv_ko_1 : ksize ≤ 940) (iv_ko_2 : klimit ≤ 900) (iv_ko_3 : kto ≤ ksize) (iv_ko_4 : kfrom ≤ 940) (iv_ko_5 : ksnapMany ≤ 8) (iv_ko_6 : ksideMany ≤ 36) (iv_ko_7 : kmetMany ≤ 3) (iv_ko_8 : ksunkMany ≤ 36) (iv_ko_9 : ktexts ≤ 64) (iv_ko_10 : klineMany ≤ 40) (iv_ko_11 : knodes ≤ 60) (iv_ko_12 : konesMany ≤ 20) (iv_ko_13 : kwithin ≤ 8) (iv_ko_14 : ktop ≤ 59) (hTM : TM bt ktapeF) (hp : p9 ≤ 940) (c1 : p9 < ksize) (e3 : y2 = ktapeF p9) (t4 : bt p9 < 256) (t5 : y2 = nI (bt p9)) : (p9 < ksize ∧ y2 = nI (bt p9)) ∨ (¬ p9 < ksize ∧ y2 = nI 0) := by
  first
    | exact Or.inl ⟨by omega, by assumption⟩
    | exact Or.inr ⟨by omega, rfl⟩
set_option maxHeartbeats 4000000 in
set_option maxRecDepth 100000 in
theorem c_g_tapeAt (l : Launch) (dC : Nat → ClassId) (dI : Nat → Nat → Nat) (ky : Nat → ClassId) (bt : Nat → Nat) (o : Nat) (kthrown : Int32) (ktape : Nat) (ktaped : Nat) (ksize : Nat) (klimit : Nat) (kto : Nat) (kfrom : Nat) (kkind : Int32) (knumber : Int32) (ksign : Int32) (kfault : Int32) (kplace : Int32) (kword : Int64) (ktold : Int32) (know : Nat) (kread : Nat) (kkept : Nat) (ksnaps : Nat) (kaside : Nat) (kname : Nat) (kreadName : Nat) (kkeptName : Nat) (kisKept : Nat) (konces : Nat) (ksnapMany : Nat) (khasCells : Int32) (kpoured : Nat) (kfar : Nat) (ksides : Nat) (ksideMany : Nat) (kwayDays : Int32) (khasWay : Int32) (klines : Nat) (kmet : Nat) (kmetMany : Nat) (ksunk : Nat) (ktrying : Nat) (ksunkMany : Nat) (ksending : Int32) (kfleets : Int32) (ktext : Nat) (ktexts : Nat) (kseed : Int32) (kline : Nat) (kwritten : Nat) (klineMany : Nat) (khasWritten : Int32) (knode : Nat) (knodes : Nat) (konesMany : Nat) (kwithin : Nat) (ktop : Nat) (ktapeF : Nat → Int32) (p9 : Nat) (iv_ko_0 : ktaped ≤ 940) (iv_ko_1 : ksize ≤ 940) (iv_ko_2 : klimit ≤ 900) (iv_ko_3 : kto ≤ ksize) (iv_ko_4 : kfrom ≤ 940) (iv_ko_5 : ksnapMany ≤ 8) (iv_ko_6 : ksideMany ≤ 36) (iv_ko_7 : kmetMany ≤ 3) (iv_ko_8 : ksunkMany ≤ 36) (iv_ko_9 : ktexts ≤ 64) (iv_ko_10 : klineMany ≤ 40) (iv_ko_11 : knodes ≤ 60) (iv_ko_12 : konesMany ≤ 20) (iv_ko_13 : kwithin ≤ 8) (iv_ko_14 : ktop ≤ 59) (hTM : TM bt ktapeF) (hp : p9 ≤ 940) : Met l yX12_tapeAt wsX12_tapeAt ({ frames := 0, cells := 0, slots := 0, locals := 0 }) (PcP dC dI ky [.ref o, .int (nI p9)] [(o, .inr (12, [.int kthrown, .ref ktape, .int (nI ktaped), .int (nI ksize), .int (nI klimit), .int (nI kto), .int (nI kfrom), .int kkind, .int knumber, .int ksign, .int kfault, .int kplace, .long kword, .int ktold, .ref know, .ref kread, .ref kkept, .ref ksnaps, .ref kaside, .ref kname, .ref kreadName, .ref kkeptName, .ref kisKept, .ref konces, .int (nI ksnapMany), .int khasCells, .ref kpoured, .ref kfar, .ref ksides, .int (nI ksideMany), .int kwayDays, .int khasWay, .ref klines, .ref kmet, .int (nI kmetMany), .ref ksunk, .ref ktrying, .int (nI ksunkMany), .int ksending, .int kfleets, .ref ktext, .int (nI ktexts), .int kseed, .ref kline, .ref kwritten, .int (nI klineMany), .int khasWritten, .ref knode, .int (nI knodes), .int (nI konesMany), .int (nI kwithin), .int (nI ktop)])), (ktape, .inl (ky 0, 940, .inl ktapeF))]) (vp_Si (fun r : Int32 => (p9 < ksize ∧ r = nI (bt p9)) ∨ (¬ p9 < ksize ∧ r = nI 0))) 0 0 (fun _ => False) := by
  refine Met.ofW (cc := cX12_tapeAt) (maxL := 2) (ret := (some .int)) (by decide) rfl ?_
  intro p e s m args below meth c s₁ B hml hv
  obtain ⟨rfl, hP, hK⟩ := hv
  have hx := B.exec
  have hb := B.bytes
  have hr := B.returns
  have hts := atoms_spec (ws := wsX12_tapeAt) B.pre
  have hown : s.vm.findClass RX12 = some m.cls := findClass_of_methodNamed B.named
  have hlocks := B.notSynchronized
  have hin12 : ∀ w ∈ u_ws RX12 TX12 52, w ∈ wsX12_tapeAt := by decide +kernel
  have hl := lv_entry ([.ref o, .int (nI p9)]) (n := 2) (Nat.le_of_ble_eq_true rfl)
  rw [lg_entry_eq]
  generalize (lg_sl ([.ref o, .int (nI p9)]) ++ List.replicate (2 - (lg_sl ([.ref o, .int (nI p9)])).length) Slot.unset).toArray = ls at hl ⊢
  have hl : lv_has ls 2 [(0, .ref o), (1, .int (nI p9))] := hl
  refine q_name (fun Q hQ => ?_)
  generalize ([.ref o, .int (nI p9)] : List Value).toArray = args at hts hQ ⊢
  refine lv_iload_n hx hb dX12_tapeAt_0 rfl (lv_at hl 1 rfl) ?_
  refine lv_aload_n hx hb dX12_tapeAt_1 rfl (lv_at hl 0 rfl) ?_
  refine va_get (D := (dC, dI)) (ci := 12) (v := .int (nI ksize)) (C := RX12) (T := TX12) (N := 52) hx hb hts hin12 hown hK hP 0 rfl rfl 3 (by decide) (hts (.fieldLink RX12 18 "PorridgeSeaModel" "size" "I") (List.mem_of_getElem? (i := 1) rfl)) (fun _ h9 => h9) rfl dX12_tapeAt_2 ?_
  refine n_icmp_ge (x := p9) (y := ksize) (tgt := 17) hx hb (by omega) (by omega) dX12_tapeAt_5 (by decide) (fun c1 => ?_) (fun c1 => ?_)
  · refine lv_iconst (v := nI 0) hx hb dX12_tapeAt_17 (by decide) ?_
    rw [hQ]
    exact W.iret (v := nI 0) hx hb hr (fun t9 ht9 hW9 => ⟨nI 0, rfl, (lf_g_tapeAt_1 bt o kthrown ktape ktaped ksize klimit kto kfrom kkind knumber ksign kfault kplace kword ktold know kread kkept ksnaps kaside kname kreadName kkeptName kisKept konces ksnapMany khasCells kpoured kfar ksides ksideMany kwayDays khasWay klines kmet kmetMany ksunk ktrying ksunkMany ksending kfleets ktext ktexts kseed kline kwritten klineMany khasWritten knode knodes konesMany kwithin ktop ktapeF p9 iv_ko_0 iv_ko_1 iv_ko_2 iv_ko_3 iv_ko_4 iv_ko_5 iv_ko_6 iv_ko_7 iv_ko_8 iv_ko_9 iv_ko_10 iv_ko_11 iv_ko_12 iv_ko_13 iv_ko_14 hTM hp c1), ht9⟩) (fun _ h => absurd h List.not_mem_nil) dX12_tapeAt_18
  · refine lv_aload_n hx hb dX12_tapeAt_8 rfl (lv_at hl 0 rfl) ?_
    refine va_get (D := (dC, dI)) (ci := 12) (v := .ref ktape) (C := RX12) (T := TX12) (N := 52) hx hb hts hin12 hown hK hP 0 rfl rfl 1 (by decide) (hts (.fieldLink RX12 7 "PorridgeSeaModel" "tape" "[I") (List.mem_of_getElem? (i := 2) rfl)) (fun _ h9 => h9) rfl dX12_tapeAt_9 ?_
    refine lv_iload_n hx hb dX12_tapeAt_12 rfl (lv_at hl 1 rfl) ?_
    obtain ⟨y2, e3⟩ : ∃ z9, z9 = ktapeF p9 := ⟨_, rfl⟩
    refine r_iald hx hb hK hP 1 rfl p9 (lf_g_tapeAt_2 bt ksize kto ktapeF p9 y2 iv_ko_1 iv_ko_3 hTM hp c1 e3) (by decide) y2 e3.symm dX12_tapeAt_13 ?_
    obtain ⟨t4, t5⟩ : bt p9 < 256 ∧ (y2 = nI (bt p9)) := by rw [e3]; exact hTM p9 (lf_g_tapeAt_3 bt ksize kto ktapeF p9 y2 iv_ko_1 iv_ko_3 hTM hp c1 e3)
    refine lv_goto (tgt := 18) hx hb dX12_tapeAt_14 (by decide) ?_
    rw [hQ]
    exact W.iret (v := y2) hx hb hr (fun t9 ht9 hW9 => ⟨y2, rfl, (lf_g_tapeAt_4 bt o kthrown ktape ktaped ksize klimit kto kfrom kkind knumber ksign kfault kplace kword ktold know kread kkept ksnaps kaside kname kreadName kkeptName kisKept konces ksnapMany khasCells kpoured kfar ksides ksideMany kwayDays khasWay klines kmet kmetMany ksunk ktrying ksunkMany ksending kfleets ktext ktexts kseed kline kwritten klineMany khasWritten knode knodes konesMany kwithin ktop ktapeF p9 y2 iv_ko_0 iv_ko_1 iv_ko_2 iv_ko_3 iv_ko_4 iv_ko_5 iv_ko_6 iv_ko_7 iv_ko_8 iv_ko_9 iv_ko_10 iv_ko_11 iv_ko_12 iv_ko_13 iv_ko_14 hTM hp c1 e3 t4 t5), ht9⟩) (fun _ h => absurd h List.not_mem_nil) dX12_tapeAt_18
set_option maxRecDepth 20000 in
theorem lf_g_go_1 (bt : Nat → Nat) (ksize : Nat) (klimit : Nat) (kto : Nat) (ktapeF : Nat → Int32) (gq : Nat) (k4 : Nat) (n8 : Nat) (y16 : Int32) (iv_ko_1 : ksize ≤ 940) (iv_ko_2 : klimit ≤ 900) (iv_ko_3 : kto ≤ ksize) (hTM : TM bt ktapeF) (hgq : kto = gq) (j5 : k4 ≤ 940) (j6 : k4 ≤ ksize) (jSk : sk bt ksize kto = sk bt ksize k4) (hm10 : 940 - k4 < n8 + 1) (jQ : sk bt ksize kto = k4) (jM : ¬ (klimit < ksize ∧ klimit ≤ k4)) (c15 : k4 < ksize) (e17 : y16 = ktapeF k4) : k4 < 940 := by
  have b_y16 := ia_b y16
  try simp only [ia_lt, ia_le, ia_eq, ia_m1, ia_0, ia_1, ne_eq, true_and, and_true, false_and, and_false, or_false, false_or, or_true, true_or, not_true_eq_false, not_false_eq_true] at *
  all_goals omega
set_option maxRecDepth 20000 in
theorem lf_g_go_2 (bt : Nat → Nat) (ksize : Nat) (klimit : Nat) (kto : Nat) (ktapeF : Nat → Int32) (gq : Nat) (k4 : Nat) (n8 : Nat) (y16 : Int32) (iv_ko_1 : ksize ≤ 940) (iv_ko_2 : klimit ≤ 900) (iv_ko_3 : kto ≤ ksize) (hTM : TM bt ktapeF) (hgq : kto = gq) (j5 : k4 ≤ 940) (j6 : k4 ≤ ksize) (jSk : sk bt ksize kto = sk bt ksize k4) (hm10 : 940 - k4 < n8 + 1) (jQ : sk bt ksize kto = k4) (jM : ¬ (klimit < ksize ∧ klimit ≤ k4)) (c15 : k4 < ksize) (e17 : y16 = ktapeF k4) : k4 < 940 := by
  have b_y16 := ia_b y16
  try simp only [ia_lt, ia_le, ia_eq, ia_m1, ia_0, ia_1, ne_eq, true_and, and_true, false_and, and_false, or_false, false_or, or_true, true_or, not_true_eq_false, not_false_eq_true] at *
  all_goals omega
set_option maxRecDepth 20000 in
theorem lf_g_go_3 (bt : Nat → Nat) (ksize : Nat) (klimit : Nat) (kto : Nat) (ktapeF : Nat → Int32) (gq : Nat) (k4 : Nat) (n8 : Nat) (y16 : Int32) (x38 : Int32) (k39 : Nat) (x40 : Int32) (w41 : Int64) (n46 : Nat) (r49 : Int32) (y57 : Int32) (iv_ko_1 : ksize ≤ 940) (iv_ko_2 : klimit ≤ 900) (iv_ko_3 : kto ≤ ksize) (hTM : TM bt ktapeF) (hgq : kto = gq) (j5 : k4 ≤ 940) (j6 : k4 ≤ ksize) (jSk : sk bt ksize kto = sk bt ksize k4) (hm10 : 940 - k4 < n8 + 1) (jQ : sk bt ksize kto = k4) (jM : ¬ (klimit < ksize ∧ klimit ≤ k4)) (c15 : k4 < ksize) (e17 : y16 = ktapeF k4) (t18 : bt k4 < 256) (t19 : y16 = nI (bt k4)) (t22 : 97 ≤ y16.toInt) (t23 : y16.toInt ≤ 122) (t28 : 97 ≤ y16.toInt) (t29 : y16.toInt ≤ 122) (j42 : x38 = nI 0 ∨ x38 = nI 1) (j43 : k39 ≤ 940) (j44 : k39 ≤ ksize) (jPl : k4 ≤ k39) (jRn : rn bt ksize k4 = rn bt ksize k39) (jG : (x38 = nI 1 ∧ dcn bt k4 (k39 - k4) = 0) ∨ (x38 = nI 0 ∧ dcn bt k4 (k39 - k4) ≠ 0)) (jN : ¬ (dcn bt k4 (k39 - k4) = (k39 - k4) ∧ (k39 - k4) ≤ 3) ∨ x40 = nI (nvn bt k4 (k39 - k4))) (jW : ¬ (dcn bt k4 (k39 - k4) = 0 ∧ (k39 - k4) ≤ 7) ∨ w41 = Int64.ofNat (c27 bt k4 (k39 - k4))) (jE : dcn bt k4 (k39 - k4) ≠ 0 ∨ LET bt k4 (k39 - k4)) (hm48 : 940 - k39 < n46 + 1) (p50 : (k39 < ksize ∧ r49 = nI (bt k39)) ∨ (¬ k39 < ksize ∧ r49 = nI 0)) (jKs : k39 < ksize) (jAl : cAl (bt k39)) (e58 : y57 = ktapeF k39) : k39 < 940 := by
  have b_y16 := ia_b y16
  have b_x38 := ia_b x38
  have b_x40 := ia_b x40
  have b_r49 := ia_b r49
  have b_y57 := ia_b y57
  have b_w41 := Int64.toInt_lt w41
  try have k_0 := ia_n (bt k4) (by first | decide | omega)
  try have k_1 := ia_n 0 (by first | decide | omega)
  try have k_2 := ia_n 1 (by first | decide | omega)
  try have k_3 := ia_n (nvn bt k4 (k39 - k4)) (by first | decide | omega)
  try have k_4 := ia_n (bt k39) (by first | decide | omega)
  try simp only [ia_lt, ia_le, ia_eq, ia_m1, ia_0, ia_1, ne_eq, true_and, and_true, false_and, and_false, or_false, false_or, or_true, true_or, not_true_eq_false, not_false_eq_true] at *
  all_goals omega
set_option maxRecDepth 20000 in
theorem lf_g_go_4 (bt : Nat → Nat) (ksize : Nat) (klimit : Nat) (kto : Nat) (ktapeF : Nat → Int32) (gq : Nat) (k4 : Nat) (n8 : Nat) (y16 : Int32) (x38 : Int32) (k39 : Nat) (x40 : Int32) (w41 : Int64) (n46 : Nat) (r49 : Int32) (y57 : Int32) (iv_ko_1 : ksize ≤ 940) (iv_ko_2 : klimit ≤ 900) (iv_ko_3 : kto ≤ ksize) (hTM : TM bt ktapeF) (hgq : kto = gq) (j5 : k4 ≤ 940) (j6 : k4 ≤ ksize) (jSk : sk bt ksize kto = sk bt ksize k4) (hm10 : 940 - k4 < n8 + 1) (jQ : sk bt ksize kto = k4) (jM : ¬ (klimit < ksize ∧ klimit ≤ k4)) (c15 : k4 < ksize) (e17 : y16 = ktapeF k4) (t18 : bt k4 < 256) (t19 : y16 = nI (bt k4)) (t22 : 97 ≤ y16.toInt) (t23 : y16.toInt ≤ 122) (t28 : 97 ≤ y16.toInt) (t29 : y16.toInt ≤ 122) (j42 : x38 = nI 0 ∨ x38 = nI 1) (j43 : k39 ≤ 940) (j44 : k39 ≤ ksize) (jPl : k4 ≤ k39) (jRn : rn bt ksize k4 = rn bt ksize k39) (jG : (x38 = nI 1 ∧ dcn bt k4 (k39 - k4) = 0) ∨ (x38 = nI 0 ∧ dcn bt k4 (k39 - k4) ≠ 0)) (jN : ¬ (dcn bt k4 (k39 - k4) = (k39 - k4) ∧ (k39 - k4) ≤ 3) ∨ x40 = nI (nvn bt k4 (k39 - k4))) (jW : ¬ (dcn bt k4 (k39 - k4) = 0 ∧ (k39 - k4) ≤ 7) ∨ w41 = Int64.ofNat (c27 bt k4 (k39 - k4))) (jE : dcn bt k4 (k39 - k4) ≠ 0 ∨ LET bt k4 (k39 - k4)) (hm48 : 940 - k39 < n46 + 1) (p50 : (k39 < ksize ∧ r49 = nI (bt k39)) ∨ (¬ k39 < ksize ∧ r49 = nI 0)) (jKs : k39 < ksize) (jAl : cAl (bt k39)) (e58 : y57 = ktapeF k39) : k39 < 940 := by
  have b_y16 := ia_b y16
  have b_x38 := ia_b x38
  have b_x40 := ia_b x40
  have b_r49 := ia_b r49
  have b_y57 := ia_b y57
  have b_w41 := Int64.toInt_lt w41
  try have k_0 := ia_n (bt k4) (by first | decide | omega)
  try have k_1 := ia_n 0 (by first | decide | omega)
  try have k_2 := ia_n 1 (by first | decide | omega)
  try have k_3 := ia_n (nvn bt k4 (k39 - k4)) (by first | decide | omega)
  try have k_4 := ia_n (bt k39) (by first | decide | omega)
  try simp only [ia_lt, ia_le, ia_eq, ia_m1, ia_0, ia_1, ne_eq, true_and, and_true, false_and, and_false, or_false, false_or, or_true, true_or, not_true_eq_false, not_false_eq_true] at *
  all_goals omega
set_option maxRecDepth 20000 in
theorem lf_g_go_5 (bt : Nat → Nat) (ksize : Nat) (klimit : Nat) (kto : Nat) (ktapeF : Nat → Int32) (gq : Nat) (k4 : Nat) (n8 : Nat) (y16 : Int32) (x38 : Int32) (k39 : Nat) (x40 : Int32) (w41 : Int64) (n46 : Nat) (r49 : Int32) (y57 : Int32) (x62 : Int32) (iv_ko_1 : ksize ≤ 940) (iv_ko_2 : klimit ≤ 900) (iv_ko_3 : kto ≤ ksize) (hTM : TM bt ktapeF) (hgq : kto = gq) (j5 : k4 ≤ 940) (j6 : k4 ≤ ksize) (jSk : sk bt ksize kto = sk bt ksize k4) (hm10 : 940 - k4 < n8 + 1) (jQ : sk bt ksize kto = k4) (jM : ¬ (klimit < ksize ∧ klimit ≤ k4)) (c15 : k4 < ksize) (e17 : y16 = ktapeF k4) (t18 : bt k4 < 256) (t19 : y16 = nI (bt k4)) (t22 : 97 ≤ y16.toInt) (t23 : y16.toInt ≤ 122) (t28 : 97 ≤ y16.toInt) (t29 : y16.toInt ≤ 122) (j42 : x38 = nI 0 ∨ x38 = nI 1) (j43 : k39 ≤ 940) (j44 : k39 ≤ ksize) (jPl : k4 ≤ k39) (jRn : rn bt ksize k4 = rn bt ksize k39) (jG : (x38 = nI 1 ∧ dcn bt k4 (k39 - k4) = 0) ∨ (x38 = nI 0 ∧ dcn bt k4 (k39 - k4) ≠ 0)) (jN : ¬ (dcn bt k4 (k39 - k4) = (k39 - k4) ∧ (k39 - k4) ≤ 3) ∨ x40 = nI (nvn bt k4 (k39 - k4))) (jW : ¬ (dcn bt k4 (k39 - k4) = 0 ∧ (k39 - k4) ≤ 7) ∨ w41 = Int64.ofNat (c27 bt k4 (k39 - k4))) (jE : dcn bt k4 (k39 - k4) ≠ 0 ∨ LET bt k4 (k39 - k4)) (hm48 : 940 - k39 < n46 + 1) (p50 : (k39 < ksize ∧ r49 = nI (bt k39)) ∨ (¬ k39 < ksize ∧ r49 = nI 0)) (jKs : k39 < ksize) (jAl : cAl (bt k39)) (e58 : y57 = ktapeF k39) (t59 : bt k39 < 256) (t60 : y57 = nI (bt k39)) (j63 : x62 = nI 0 ∨ x62 = nI 1) (jG1 : (x62 = nI 1 ∧ dcn bt k4 ((k39 + 1) - k4) = 0) ∨ (x62 = nI 0 ∧ dcn bt k4 ((k39 + 1) - k4) ≠ 0)) : k4 ≤ k39 := by
  have b_y16 := ia_b y16
  have b_x38 := ia_b x38
  have b_x40 := ia_b x40
  have b_r49 := ia_b r49
  have b_y57 := ia_b y57
  have b_x62 := ia_b x62
  have b_w41 := Int64.toInt_lt w41
  try have k_0 := ia_n (bt k4) (by first | decide | omega)
  try have k_1 := ia_n 0 (by first | decide | omega)
  try have k_2 := ia_n 1 (by first | decide | omega)
  try have k_3 := ia_n (nvn bt k4 (k39 - k4)) (by first | decide | omega)
  try have k_4 := ia_n (bt k39) (by first | decide | omega)
  try simp only [ia_lt, ia_le, ia_eq, ia_m1, ia_0, ia_1, ne_eq, true_and, and_true, false_and, and_false, or_false, false_or, or_true, true_or, not_true_eq_false, not_false_eq_true] at *
  all_goals omega
set_option maxRecDepth 20000 in
theorem lf_g_go_6 (bt : Nat → Nat) (ksize : Nat) (klimit : Nat) (kto : Nat) (ktapeF : Nat → Int32) (gq : Nat) (k4 : Nat) (n8 : Nat) (y16 : Int32) (x38 : Int32) (k39 : Nat) (x40 : Int32) (w41 : Int64) (n46 : Nat) (r49 : Int32) (y57 : Int32) (x62 : Int32) (w66 : Int64) (iv_ko_1 : ksize ≤ 940) (iv_ko_2 : klimit ≤ 900) (iv_ko_3 : kto ≤ ksize) (hTM : TM bt ktapeF) (hgq : kto = gq) (j5 : k4 ≤ 940) (j6 : k4 ≤ ksize) (jSk : sk bt ksize kto = sk bt ksize k4) (hm10 : 940 - k4 < n8 + 1) (jQ : sk bt ksize kto = k4) (jM : ¬ (klimit < ksize ∧ klimit ≤ k4)) (c15 : k4 < ksize) (e17 : y16 = ktapeF k4) (t18 : bt k4 < 256) (t19 : y16 = nI (bt k4)) (t22 : 97 ≤ y16.toInt) (t23 : y16.toInt ≤ 122) (t28 : 97 ≤ y16.toInt) (t29 : y16.toInt ≤ 122) (j42 : x38 = nI 0 ∨ x38 = nI 1) (j43 : k39 ≤ 940) (j44 : k39 ≤ ksize) (jPl : k4 ≤ k39) (jRn : rn bt ksize k4 = rn bt ksize k39) (jG : (x38 = nI 1 ∧ dcn bt k4 (k39 - k4) = 0) ∨ (x38 = nI 0 ∧ dcn bt k4 (k39 - k4) ≠ 0)) (jN : ¬ (dcn bt k4 (k39 - k4) = (k39 - k4) ∧ (k39 - k4) ≤ 3) ∨ x40 = nI (nvn bt k4 (k39 - k4))) (jW : ¬ (dcn bt k4 (k39 - k4) = 0 ∧ (k39 - k4) ≤ 7) ∨ w41 = Int64.ofNat (c27 bt k4 (k39 - k4))) (jE : dcn bt k4 (k39 - k4) ≠ 0 ∨ LET bt k4 (k39 - k4)) (hm48 : 940 - k39 < n46 + 1) (p50 : (k39 < ksize ∧ r49 = nI (bt k39)) ∨ (¬ k39 < ksize ∧ r49 = nI 0)) (jKs : k39 < ksize) (jAl : cAl (bt k39)) (e58 : y57 = ktapeF k39) (t59 : bt k39 < 256) (t60 : y57 = nI (bt k39)) (j63 : x62 = nI 0 ∨ x62 = nI 1) (jG1 : (x62 = nI 1 ∧ dcn bt k4 ((k39 + 1) - k4) = 0) ∨ (x62 = nI 0 ∧ dcn bt k4 ((k39 + 1) - k4) ≠ 0)) (jW1 : ¬ (dcn bt k4 ((k39 + 1) - k4) = 0 ∧ ((k39 + 1) - k4) ≤ 7) ∨ w66 = Int64.ofNat (c27 bt k4 ((k39 + 1) - k4))) : k4 ≤ k39 := by
  have b_y16 := ia_b y16
  have b_x38 := ia_b x38
  have b_x40 := ia_b x40
  have b_r49 := ia_b r49
  have b_y57 := ia_b y57
  have b_x62 := ia_b x62
  have b_w41 := Int64.toInt_lt w41
  have b_w66 := Int64.toInt_lt w66
  try have k_0 := ia_n (bt k4) (by first | decide | omega)
  try have k_1 := ia_n 0 (by first | decide | omega)
  try have k_2 := ia_n 1 (by first | decide | omega)
  try have k_3 := ia_n (nvn bt k4 (k39 - k4)) (by first | decide | omega)
  try have k_4 := ia_n (bt k39) (by first | decide | omega)
  try simp only [ia_lt, ia_le, ia_eq, ia_m1, ia_0, ia_1, ne_eq, true_and, and_true, false_and, and_false, or_false, false_or, or_true, true_or, not_true_eq_false, not_false_eq_true] at *
  all_goals omega
set_option maxRecDepth 20000 in
theorem lf_g_go_7 (bt : Nat → Nat) (ksize : Nat) (klimit : Nat) (kto : Nat) (ktapeF : Nat → Int32) (gq : Nat) (k4 : Nat) (n8 : Nat) (y16 : Int32) (x38 : Int32) (k39 : Nat) (x40 : Int32) (w41 : Int64) (n46 : Nat) (r49 : Int32) (y57 : Int32) (x62 : Int32) (w66 : Int64) (x69 : Int32) (iv_ko_1 : ksize ≤ 940) (iv_ko_2 : klimit ≤ 900) (iv_ko_3 : kto ≤ ksize) (hTM : TM bt ktapeF) (hgq : kto = gq) (j5 : k4 ≤ 940) (j6 : k4 ≤ ksize) (jSk : sk bt ksize kto = sk bt ksize k4) (hm10 : 940 - k4 < n8 + 1) (jQ : sk bt ksize kto = k4) (jM : ¬ (klimit < ksize ∧ klimit ≤ k4)) (c15 : k4 < ksize) (e17 : y16 = ktapeF k4) (t18 : bt k4 < 256) (t19 : y16 = nI (bt k4)) (t22 : 97 ≤ y16.toInt) (t23 : y16.toInt ≤ 122) (t28 : 97 ≤ y16.toInt) (t29 : y16.toInt ≤ 122) (j42 : x38 = nI 0 ∨ x38 = nI 1) (j43 : k39 ≤ 940) (j44 : k39 ≤ ksize) (jPl : k4 ≤ k39) (jRn : rn bt ksize k4 = rn bt ksize k39) (jG : (x38 = nI 1 ∧ dcn bt k4 (k39 - k4) = 0) ∨ (x38 = nI 0 ∧ dcn bt k4 (k39 - k4) ≠ 0)) (jN : ¬ (dcn bt k4 (k39 - k4) = (k39 - k4) ∧ (k39 - k4) ≤ 3) ∨ x40 = nI (nvn bt k4 (k39 - k4))) (jW : ¬ (dcn bt k4 (k39 - k4) = 0 ∧ (k39 - k4) ≤ 7) ∨ w41 = Int64.ofNat (c27 bt k4 (k39 - k4))) (jE : dcn bt k4 (k39 - k4) ≠ 0 ∨ LET bt k4 (k39 - k4)) (hm48 : 940 - k39 < n46 + 1) (p50 : (k39 < ksize ∧ r49 = nI (bt k39)) ∨ (¬ k39 < ksize ∧ r49 = nI 0)) (jKs : k39 < ksize) (jAl : cAl (bt k39)) (e58 : y57 = ktapeF k39) (t59 : bt k39 < 256) (t60 : y57 = nI (bt k39)) (j63 : x62 = nI 0 ∨ x62 = nI 1) (jG1 : (x62 = nI 1 ∧ dcn bt k4 ((k39 + 1) - k4) = 0) ∨ (x62 = nI 0 ∧ dcn bt k4 ((k39 + 1) - k4) ≠ 0)) (jW1 : ¬ (dcn bt k4 ((k39 + 1) - k4) = 0 ∧ ((k39 + 1) - k4) ≤ 7) ∨ w66 = Int64.ofNat (c27 bt k4 ((k39 + 1) - k4))) (jN1 : ¬ (dcn bt k4 ((k39 + 1) - k4) = ((k39 + 1) - k4) ∧ ((k39 + 1) - k4) ≤ 3) ∨ x69 = nI (nvn bt k4 ((k39 + 1) - k4))) : (k39 + 1) ≤ 940 := by
  have b_y16 := ia_b y16
  have b_x38 := ia_b x38
  have b_x40 := ia_b x40
  have b_r49 := ia_b r49
  have b_y57 := ia_b y57
  have b_x62 := ia_b x62
  have b_x69 := ia_b x69
  have b_w41 := Int64.toInt_lt w41
  have b_w66 := Int64.toInt_lt w66
  try have k_0 := ia_n (bt k4) (by first | decide | omega)
  try have k_1 := ia_n 0 (by first | decide | omega)
  try have k_2 := ia_n 1 (by first | decide | omega)
  try have k_3 := ia_n (nvn bt k4 (k39 - k4)) (by first | decide | omega)
  try have k_4 := ia_n (bt k39) (by first | decide | omega)
  try have k_5 := ia_n (nvn bt k4 ((k39 + 1) - k4)) (by first | decide | omega)
  try simp only [ia_lt, ia_le, ia_eq, ia_m1, ia_0, ia_1, ne_eq, true_and, and_true, false_and, and_false, or_false, false_or, or_true, true_or, not_true_eq_false, not_false_eq_true] at *
  all_goals omega
set_option maxRecDepth 20000 in
theorem lf_g_go_8 (bt : Nat → Nat) (ksize : Nat) (klimit : Nat) (kto : Nat) (ktapeF : Nat → Int32) (gq : Nat) (k4 : Nat) (n8 : Nat) (y16 : Int32) (x38 : Int32) (k39 : Nat) (x40 : Int32) (w41 : Int64) (n46 : Nat) (r49 : Int32) (y57 : Int32) (x62 : Int32) (w66 : Int64) (x69 : Int32) (iv_ko_1 : ksize ≤ 940) (iv_ko_2 : klimit ≤ 900) (iv_ko_3 : kto ≤ ksize) (hTM : TM bt ktapeF) (hgq : kto = gq) (j5 : k4 ≤ 940) (j6 : k4 ≤ ksize) (jSk : sk bt ksize kto = sk bt ksize k4) (hm10 : 940 - k4 < n8 + 1) (jQ : sk bt ksize kto = k4) (jM : ¬ (klimit < ksize ∧ klimit ≤ k4)) (c15 : k4 < ksize) (e17 : y16 = ktapeF k4) (t18 : bt k4 < 256) (t19 : y16 = nI (bt k4)) (t22 : 97 ≤ y16.toInt) (t23 : y16.toInt ≤ 122) (t28 : 97 ≤ y16.toInt) (t29 : y16.toInt ≤ 122) (j42 : x38 = nI 0 ∨ x38 = nI 1) (j43 : k39 ≤ 940) (j44 : k39 ≤ ksize) (jPl : k4 ≤ k39) (jRn : rn bt ksize k4 = rn bt ksize k39) (jG : (x38 = nI 1 ∧ dcn bt k4 (k39 - k4) = 0) ∨ (x38 = nI 0 ∧ dcn bt k4 (k39 - k4) ≠ 0)) (jN : ¬ (dcn bt k4 (k39 - k4) = (k39 - k4) ∧ (k39 - k4) ≤ 3) ∨ x40 = nI (nvn bt k4 (k39 - k4))) (jW : ¬ (dcn bt k4 (k39 - k4) = 0 ∧ (k39 - k4) ≤ 7) ∨ w41 = Int64.ofNat (c27 bt k4 (k39 - k4))) (jE : dcn bt k4 (k39 - k4) ≠ 0 ∨ LET bt k4 (k39 - k4)) (hm48 : 940 - k39 < n46 + 1) (p50 : (k39 < ksize ∧ r49 = nI (bt k39)) ∨ (¬ k39 < ksize ∧ r49 = nI 0)) (jKs : k39 < ksize) (jAl : cAl (bt k39)) (e58 : y57 = ktapeF k39) (t59 : bt k39 < 256) (t60 : y57 = nI (bt k39)) (j63 : x62 = nI 0 ∨ x62 = nI 1) (jG1 : (x62 = nI 1 ∧ dcn bt k4 ((k39 + 1) - k4) = 0) ∨ (x62 = nI 0 ∧ dcn bt k4 ((k39 + 1) - k4) ≠ 0)) (jW1 : ¬ (dcn bt k4 ((k39 + 1) - k4) = 0 ∧ ((k39 + 1) - k4) ≤ 7) ∨ w66 = Int64.ofNat (c27 bt k4 ((k39 + 1) - k4))) (jN1 : ¬ (dcn bt k4 ((k39 + 1) - k4) = ((k39 + 1) - k4) ∧ ((k39 + 1) - k4) ≤ 3) ∨ x69 = nI (nvn bt k4 ((k39 + 1) - k4))) : (k39 + 1) ≤ ksize := by
  have b_y16 := ia_b y16
  have b_x38 := ia_b x38
  have b_x40 := ia_b x40
  have b_r49 := ia_b r49
  have b_y57 := ia_b y57
  have b_x62 := ia_b x62
  have b_x69 := ia_b x69
  have b_w41 := Int64.toInt_lt w41
  have b_w66 := Int64.toInt_lt w66
  try have k_0 := ia_n (bt k4) (by first | decide | omega)
  try have k_1 := ia_n 0 (by first | decide | omega)
  try have k_2 := ia_n 1 (by first | decide | omega)
  try have k_3 := ia_n (nvn bt k4 (k39 - k4)) (by first | decide | omega)
  try have k_4 := ia_n (bt k39) (by first | decide | omega)
  try have k_5 := ia_n (nvn bt k4 ((k39 + 1) - k4)) (by first | decide | omega)
  try simp only [ia_lt, ia_le, ia_eq, ia_m1, ia_0, ia_1, ne_eq, true_and, and_true, false_and, and_false, or_false, false_or, or_true, true_or, not_true_eq_false, not_false_eq_true] at *
  all_goals omega
set_option maxRecDepth 20000 in
theorem lf_g_go_9 (bt : Nat → Nat) (ksize : Nat) (klimit : Nat) (kto : Nat) (ktapeF : Nat → Int32) (gq : Nat) (k4 : Nat) (n8 : Nat) (y16 : Int32) (x38 : Int32) (k39 : Nat) (x40 : Int32) (w41 : Int64) (n46 : Nat) (r49 : Int32) (y57 : Int32) (x62 : Int32) (w66 : Int64) (x69 : Int32) (iv_ko_1 : ksize ≤ 940) (iv_ko_2 : klimit ≤ 900) (iv_ko_3 : kto ≤ ksize) (hTM : TM bt ktapeF) (hgq : kto = gq) (j5 : k4 ≤ 940) (j6 : k4 ≤ ksize) (jSk : sk bt ksize kto = sk bt ksize k4) (hm10 : 940 - k4 < n8 + 1) (jQ : sk bt ksize kto = k4) (jM : ¬ (klimit < ksize ∧ klimit ≤ k4)) (c15 : k4 < ksize) (e17 : y16 = ktapeF k4) (t18 : bt k4 < 256) (t19 : y16 = nI (bt k4)) (t22 : 97 ≤ y16.toInt) (t23 : y16.toInt ≤ 122) (t28 : 97 ≤ y16.toInt) (t29 : y16.toInt ≤ 122) (j42 : x38 = nI 0 ∨ x38 = nI 1) (j43 : k39 ≤ 940) (j44 : k39 ≤ ksize) (jPl : k4 ≤ k39) (jRn : rn bt ksize k4 = rn bt ksize k39) (jG : (x38 = nI 1 ∧ dcn bt k4 (k39 - k4) = 0) ∨ (x38 = nI 0 ∧ dcn bt k4 (k39 - k4) ≠ 0)) (jN : ¬ (dcn bt k4 (k39 - k4) = (k39 - k4) ∧ (k39 - k4) ≤ 3) ∨ x40 = nI (nvn bt k4 (k39 - k4))) (jW : ¬ (dcn bt k4 (k39 - k4) = 0 ∧ (k39 - k4) ≤ 7) ∨ w41 = Int64.ofNat (c27 bt k4 (k39 - k4))) (jE : dcn bt k4 (k39 - k4) ≠ 0 ∨ LET bt k4 (k39 - k4)) (hm48 : 940 - k39 < n46 + 1) (p50 : (k39 < ksize ∧ r49 = nI (bt k39)) ∨ (¬ k39 < ksize ∧ r49 = nI 0)) (jKs : k39 < ksize) (jAl : cAl (bt k39)) (e58 : y57 = ktapeF k39) (t59 : bt k39 < 256) (t60 : y57 = nI (bt k39)) (j63 : x62 = nI 0 ∨ x62 = nI 1) (jG1 : (x62 = nI 1 ∧ dcn bt k4 ((k39 + 1) - k4) = 0) ∨ (x62 = nI 0 ∧ dcn bt k4 ((k39 + 1) - k4) ≠ 0)) (jW1 : ¬ (dcn bt k4 ((k39 + 1) - k4) = 0 ∧ ((k39 + 1) - k4) ≤ 7) ∨ w66 = Int64.ofNat (c27 bt k4 ((k39 + 1) - k4))) (jN1 : ¬ (dcn bt k4 ((k39 + 1) - k4) = ((k39 + 1) - k4) ∧ ((k39 + 1) - k4) ≤ 3) ∨ x69 = nI (nvn bt k4 ((k39 + 1) - k4))) : k4 ≤ (k39 + 1) := by
  have b_y16 := ia_b y16
  have b_x38 := ia_b x38
  have b_x40 := ia_b x40
  have b_r49 := ia_b r49
  have b_y57 := ia_b y57
  have b_x62 := ia_b x62
  have b_x69 := ia_b x69
  have b_w41 := Int64.toInt_lt w41
  have b_w66 := Int64.toInt_lt w66
  try have k_0 := ia_n (bt k4) (by first | decide | omega)
  try have k_1 := ia_n 0 (by first | decide | omega)
  try have k_2 := ia_n 1 (by first | decide | omega)
  try have k_3 := ia_n (nvn bt k4 (k39 - k4)) (by first | decide | omega)
  try have k_4 := ia_n (bt k39) (by first | decide | omega)
  try have k_5 := ia_n (nvn bt k4 ((k39 + 1) - k4)) (by first | decide | omega)
  try simp only [ia_lt, ia_le, ia_eq, ia_m1, ia_0, ia_1, ne_eq, true_and, and_true, false_and, and_false, or_false, false_or, or_true, true_or, not_true_eq_false, not_false_eq_true] at *
  all_goals omega
set_option maxRecDepth 20000 in
theorem lf_g_go_10 (bt : Nat → Nat) (ksize : Nat) (klimit : Nat) (kto : Nat) (ktapeF : Nat → Int32) (gq : Nat) (k4 : Nat) (n8 : Nat) (y16 : Int32) (x38 : Int32) (k39 : Nat) (x40 : Int32) (w41 : Int64) (n46 : Nat) (r49 : Int32) (y57 : Int32) (x62 : Int32) (w66 : Int64) (x69 : Int32) (iv_ko_1 : ksize ≤ 940) (iv_ko_2 : klimit ≤ 900) (iv_ko_3 : kto ≤ ksize) (hTM : TM bt ktapeF) (hgq : kto = gq) (j5 : k4 ≤ 940) (j6 : k4 ≤ ksize) (jSk : sk bt ksize kto = sk bt ksize k4) (hm10 : 940 - k4 < n8 + 1) (jQ : sk bt ksize kto = k4) (jM : ¬ (klimit < ksize ∧ klimit ≤ k4)) (c15 : k4 < ksize) (e17 : y16 = ktapeF k4) (t18 : bt k4 < 256) (t19 : y16 = nI (bt k4)) (t22 : 97 ≤ y16.toInt) (t23 : y16.toInt ≤ 122) (t28 : 97 ≤ y16.toInt) (t29 : y16.toInt ≤ 122) (j42 : x38 = nI 0 ∨ x38 = nI 1) (j43 : k39 ≤ 940) (j44 : k39 ≤ ksize) (jPl : k4 ≤ k39) (jRn : rn bt ksize k4 = rn bt ksize k39) (jG : (x38 = nI 1 ∧ dcn bt k4 (k39 - k4) = 0) ∨ (x38 = nI 0 ∧ dcn bt k4 (k39 - k4) ≠ 0)) (jN : ¬ (dcn bt k4 (k39 - k4) = (k39 - k4) ∧ (k39 - k4) ≤ 3) ∨ x40 = nI (nvn bt k4 (k39 - k4))) (jW : ¬ (dcn bt k4 (k39 - k4) = 0 ∧ (k39 - k4) ≤ 7) ∨ w41 = Int64.ofNat (c27 bt k4 (k39 - k4))) (jE : dcn bt k4 (k39 - k4) ≠ 0 ∨ LET bt k4 (k39 - k4)) (hm48 : 940 - k39 < n46 + 1) (p50 : (k39 < ksize ∧ r49 = nI (bt k39)) ∨ (¬ k39 < ksize ∧ r49 = nI 0)) (jKs : k39 < ksize) (jAl : cAl (bt k39)) (e58 : y57 = ktapeF k39) (t59 : bt k39 < 256) (t60 : y57 = nI (bt k39)) (j63 : x62 = nI 0 ∨ x62 = nI 1) (jG1 : (x62 = nI 1 ∧ dcn bt k4 ((k39 + 1) - k4) = 0) ∨ (x62 = nI 0 ∧ dcn bt k4 ((k39 + 1) - k4) ≠ 0)) (jW1 : ¬ (dcn bt k4 ((k39 + 1) - k4) = 0 ∧ ((k39 + 1) - k4) ≤ 7) ∨ w66 = Int64.ofNat (c27 bt k4 ((k39 + 1) - k4))) (jN1 : ¬ (dcn bt k4 ((k39 + 1) - k4) = ((k39 + 1) - k4) ∧ ((k39 + 1) - k4) ≤ 3) ∨ x69 = nI (nvn bt k4 ((k39 + 1) - k4))) : rn bt ksize k4 = rn bt ksize (k39 + 1) := by
  rw [jRn]
  exact rn_step jKs jAl
set_option maxRecDepth 20000 in
theorem lf_g_go_11 (bt : Nat → Nat) (ksize : Nat) (klimit : Nat) (kto : Nat) (ktapeF : Nat → Int32) (gq : Nat) (k4 : Nat) (n8 : Nat) (y16 : Int32) (x38 : Int32) (k39 : Nat) (x40 : Int32) (w41 : Int64) (n46 : Nat) (r49 : Int32) (y57 : Int32) (x62 : Int32) (w66 : Int64) (x69 : Int32) (iv_ko_1 : ksize ≤ 940) (iv_ko_2 : klimit ≤ 900) (iv_ko_3 : kto ≤ ksize) (hTM : TM bt ktapeF) (hgq : kto = gq) (j5 : k4 ≤ 940) (j6 : k4 ≤ ksize) (jSk : sk bt ksize kto = sk bt ksize k4) (hm10 : 940 - k4 < n8 + 1) (jQ : sk bt ksize kto = k4) (jM : ¬ (klimit < ksize ∧ klimit ≤ k4)) (c15 : k4 < ksize) (e17 : y16 = ktapeF k4) (t18 : bt k4 < 256) (t19 : y16 = nI (bt k4)) (t22 : 97 ≤ y16.toInt) (t23 : y16.toInt ≤ 122) (t28 : 97 ≤ y16.toInt) (t29 : y16.toInt ≤ 122) (j42 : x38 = nI 0 ∨ x38 = nI 1) (j43 : k39 ≤ 940) (j44 : k39 ≤ ksize) (jPl : k4 ≤ k39) (jRn : rn bt ksize k4 = rn bt ksize k39) (jG : (x38 = nI 1 ∧ dcn bt k4 (k39 - k4) = 0) ∨ (x38 = nI 0 ∧ dcn bt k4 (k39 - k4) ≠ 0)) (jN : ¬ (dcn bt k4 (k39 - k4) = (k39 - k4) ∧ (k39 - k4) ≤ 3) ∨ x40 = nI (nvn bt k4 (k39 - k4))) (jW : ¬ (dcn bt k4 (k39 - k4) = 0 ∧ (k39 - k4) ≤ 7) ∨ w41 = Int64.ofNat (c27 bt k4 (k39 - k4))) (jE : dcn bt k4 (k39 - k4) ≠ 0 ∨ LET bt k4 (k39 - k4)) (hm48 : 940 - k39 < n46 + 1) (p50 : (k39 < ksize ∧ r49 = nI (bt k39)) ∨ (¬ k39 < ksize ∧ r49 = nI 0)) (jKs : k39 < ksize) (jAl : cAl (bt k39)) (e58 : y57 = ktapeF k39) (t59 : bt k39 < 256) (t60 : y57 = nI (bt k39)) (j63 : x62 = nI 0 ∨ x62 = nI 1) (jG1 : (x62 = nI 1 ∧ dcn bt k4 ((k39 + 1) - k4) = 0) ∨ (x62 = nI 0 ∧ dcn bt k4 ((k39 + 1) - k4) ≠ 0)) (jW1 : ¬ (dcn bt k4 ((k39 + 1) - k4) = 0 ∧ ((k39 + 1) - k4) ≤ 7) ∨ w66 = Int64.ofNat (c27 bt k4 ((k39 + 1) - k4))) (jN1 : ¬ (dcn bt k4 ((k39 + 1) - k4) = ((k39 + 1) - k4) ∧ ((k39 + 1) - k4) ≤ 3) ∨ x69 = nI (nvn bt k4 ((k39 + 1) - k4))) : dcn bt k4 ((k39 + 1) - k4) ≠ 0 ∨ LET bt k4 ((k39 + 1) - k4) := by
  exact go_e jPl jE jAl
set_option maxRecDepth 20000 in
theorem lf_g_go_12 (bt : Nat → Nat) (ksize : Nat) (klimit : Nat) (kto : Nat) (ktapeF : Nat → Int32) (gq : Nat) (k4 : Nat) (n8 : Nat) (y16 : Int32) (x38 : Int32) (k39 : Nat) (x40 : Int32) (w41 : Int64) (n46 : Nat) (r49 : Int32) (y57 : Int32) (x62 : Int32) (w66 : Int64) (x69 : Int32) (iv_ko_1 : ksize ≤ 940) (iv_ko_2 : klimit ≤ 900) (iv_ko_3 : kto ≤ ksize) (hTM : TM bt ktapeF) (hgq : kto = gq) (j5 : k4 ≤ 940) (j6 : k4 ≤ ksize) (jSk : sk bt ksize kto = sk bt ksize k4) (hm10 : 940 - k4 < n8 + 1) (jQ : sk bt ksize kto = k4) (jM : ¬ (klimit < ksize ∧ klimit ≤ k4)) (c15 : k4 < ksize) (e17 : y16 = ktapeF k4) (t18 : bt k4 < 256) (t19 : y16 = nI (bt k4)) (t22 : 97 ≤ y16.toInt) (t23 : y16.toInt ≤ 122) (t28 : 97 ≤ y16.toInt) (t29 : y16.toInt ≤ 122) (j42 : x38 = nI 0 ∨ x38 = nI 1) (j43 : k39 ≤ 940) (j44 : k39 ≤ ksize) (jPl : k4 ≤ k39) (jRn : rn bt ksize k4 = rn bt ksize k39) (jG : (x38 = nI 1 ∧ dcn bt k4 (k39 - k4) = 0) ∨ (x38 = nI 0 ∧ dcn bt k4 (k39 - k4) ≠ 0)) (jN : ¬ (dcn bt k4 (k39 - k4) = (k39 - k4) ∧ (k39 - k4) ≤ 3) ∨ x40 = nI (nvn bt k4 (k39 - k4))) (jW : ¬ (dcn bt k4 (k39 - k4) = 0 ∧ (k39 - k4) ≤ 7) ∨ w41 = Int64.ofNat (c27 bt k4 (k39 - k4))) (jE : dcn bt k4 (k39 - k4) ≠ 0 ∨ LET bt k4 (k39 - k4)) (hm48 : 940 - k39 < n46 + 1) (p50 : (k39 < ksize ∧ r49 = nI (bt k39)) ∨ (¬ k39 < ksize ∧ r49 = nI 0)) (jKs : k39 < ksize) (jAl : cAl (bt k39)) (e58 : y57 = ktapeF k39) (t59 : bt k39 < 256) (t60 : y57 = nI (bt k39)) (j63 : x62 = nI 0 ∨ x62 = nI 1) (jG1 : (x62 = nI 1 ∧ dcn bt k4 ((k39 + 1) - k4) = 0) ∨ (x62 = nI 0 ∧ dcn bt k4 ((k39 + 1) - k4) ≠ 0)) (jW1 : ¬ (dcn bt k4 ((k39 + 1) - k4) = 0 ∧ ((k39 + 1) - k4) ≤ 7) ∨ w66 = Int64.ofNat (c27 bt k4 ((k39 + 1) - k4))) (jN1 : ¬ (dcn bt k4 ((k39 + 1) - k4) = ((k39 + 1) - k4) ∧ ((k39 + 1) - k4) ≤ 3) ∨ x69 = nI (nvn bt k4 ((k39 + 1) - k4))) : 940 - (k39 + 1) < n46 := by
  have b_y16 := ia_b y16
  have b_x38 := ia_b x38
  have b_x40 := ia_b x40
  have b_r49 := ia_b r49
  have b_y57 := ia_b y57
  have b_x62 := ia_b x62
  have b_x69 := ia_b x69
  have b_w41 := Int64.toInt_lt w41
  have b_w66 := Int64.toInt_lt w66
  try have k_0 := ia_n (bt k4) (by first | decide | omega)
  try have k_1 := ia_n 0 (by first | decide | omega)
  try have k_2 := ia_n 1 (by first | decide | omega)
  try have k_3 := ia_n (nvn bt k4 (k39 - k4)) (by first | decide | omega)
  try have k_4 := ia_n (bt k39) (by first | decide | omega)
  try have k_5 := ia_n (nvn bt k4 ((k39 + 1) - k4)) (by first | decide | omega)
  try simp only [ia_lt, ia_le, ia_eq, ia_m1, ia_0, ia_1, ne_eq, true_and, and_true, false_and, and_false, or_false, false_or, or_true, true_or, not_true_eq_false, not_false_eq_true] at *
  all_goals omega
set_option maxRecDepth 20000 in
theorem lf_g_go_13 (bt : Nat → Nat) (ksize : Nat) (klimit : Nat) (kto : Nat) (ktapeF : Nat → Int32) (gq : Nat) (k4 : Nat) (n8 : Nat) (y16 : Int32) (x38 : Int32) (k39 : Nat) (x40 : Int32) (w41 : Int64) (n46 : Nat) (r49 : Int32) (y57 : Int32) (x62 : Int32) (w66 : Int64) (iv_ko_1 : ksize ≤ 940) (iv_ko_2 : klimit ≤ 900) (iv_ko_3 : kto ≤ ksize) (hTM : TM bt ktapeF) (hgq : kto = gq) (j5 : k4 ≤ 940) (j6 : k4 ≤ ksize) (jSk : sk bt ksize kto = sk bt ksize k4) (hm10 : 940 - k4 < n8 + 1) (jQ : sk bt ksize kto = k4) (jM : ¬ (klimit < ksize ∧ klimit ≤ k4)) (c15 : k4 < ksize) (e17 : y16 = ktapeF k4) (t18 : bt k4 < 256) (t19 : y16 = nI (bt k4)) (t22 : 97 ≤ y16.toInt) (t23 : y16.toInt ≤ 122) (t28 : 97 ≤ y16.toInt) (t29 : y16.toInt ≤ 122) (j42 : x38 = nI 0 ∨ x38 = nI 1) (j43 : k39 ≤ 940) (j44 : k39 ≤ ksize) (jPl : k4 ≤ k39) (jRn : rn bt ksize k4 = rn bt ksize k39) (jG : (x38 = nI 1 ∧ dcn bt k4 (k39 - k4) = 0) ∨ (x38 = nI 0 ∧ dcn bt k4 (k39 - k4) ≠ 0)) (jN : ¬ (dcn bt k4 (k39 - k4) = (k39 - k4) ∧ (k39 - k4) ≤ 3) ∨ x40 = nI (nvn bt k4 (k39 - k4))) (jW : ¬ (dcn bt k4 (k39 - k4) = 0 ∧ (k39 - k4) ≤ 7) ∨ w41 = Int64.ofNat (c27 bt k4 (k39 - k4))) (jE : dcn bt k4 (k39 - k4) ≠ 0 ∨ LET bt k4 (k39 - k4)) (hm48 : 940 - k39 < n46 + 1) (p50 : (k39 < ksize ∧ r49 = nI (bt k39)) ∨ (¬ k39 < ksize ∧ r49 = nI 0)) (jKs : k39 < ksize) (jAl : cAl (bt k39)) (e58 : y57 = ktapeF k39) (t59 : bt k39 < 256) (t60 : y57 = nI (bt k39)) (j63 : x62 = nI 0 ∨ x62 = nI 1) (jG1 : (x62 = nI 1 ∧ dcn bt k4 ((k39 + 1) - k4) = 0) ∨ (x62 = nI 0 ∧ dcn bt k4 ((k39 + 1) - k4) ≠ 0)) (jW1 : ¬ (dcn bt k4 ((k39 + 1) - k4) = 0 ∧ ((k39 + 1) - k4) ≤ 7) ∨ w66 = Int64.ofNat (c27 bt k4 ((k39 + 1) - k4))) (c68 : 3 ≤ (k39 - k4)) : ¬ (dcn bt k4 ((k39 + 1) - k4) = ((k39 + 1) - k4) ∧ ((k39 + 1) - k4) ≤ 3) ∨ x40 = nI (nvn bt k4 ((k39 + 1) - k4)) := by
  by_cases h9 : k39 - k4 < 3
  · subst_vars
    first
      | exact go_n jPl jN h9 (by assumption) (by assumption)
      | (exfalso; omega)
  · exact Or.inl (by omega)
set_option maxRecDepth 20000 in
theorem lf_g_go_14 (bt : Nat → Nat) (ksize : Nat) (klimit : Nat) (kto : Nat) (ktapeF : Nat → Int32) (gq : Nat) (k4 : Nat) (n8 : Nat) (y16 : Int32) (x38 : Int32) (k39 : Nat) (x40 : Int32) (w41 : Int64) (n46 : Nat) (r49 : Int32) (y57 : Int32) (x62 : Int32) (w66 : Int64) (y71 : Int32) (y73 : Int32) (y75 : Int32) (iv_ko_1 : ksize ≤ 940) (iv_ko_2 : klimit ≤ 900) (iv_ko_3 : kto ≤ ksize) (hTM : TM bt ktapeF) (hgq : kto = gq) (j5 : k4 ≤ 940) (j6 : k4 ≤ ksize) (jSk : sk bt ksize kto = sk bt ksize k4) (hm10 : 940 - k4 < n8 + 1) (jQ : sk bt ksize kto = k4) (jM : ¬ (klimit < ksize ∧ klimit ≤ k4)) (c15 : k4 < ksize) (e17 : y16 = ktapeF k4) (t18 : bt k4 < 256) (t19 : y16 = nI (bt k4)) (t22 : 97 ≤ y16.toInt) (t23 : y16.toInt ≤ 122) (t28 : 97 ≤ y16.toInt) (t29 : y16.toInt ≤ 122) (j42 : x38 = nI 0 ∨ x38 = nI 1) (j43 : k39 ≤ 940) (j44 : k39 ≤ ksize) (jPl : k4 ≤ k39) (jRn : rn bt ksize k4 = rn bt ksize k39) (jG : (x38 = nI 1 ∧ dcn bt k4 (k39 - k4) = 0) ∨ (x38 = nI 0 ∧ dcn bt k4 (k39 - k4) ≠ 0)) (jN : ¬ (dcn bt k4 (k39 - k4) = (k39 - k4) ∧ (k39 - k4) ≤ 3) ∨ x40 = nI (nvn bt k4 (k39 - k4))) (jW : ¬ (dcn bt k4 (k39 - k4) = 0 ∧ (k39 - k4) ≤ 7) ∨ w41 = Int64.ofNat (c27 bt k4 (k39 - k4))) (jE : dcn bt k4 (k39 - k4) ≠ 0 ∨ LET bt k4 (k39 - k4)) (hm48 : 940 - k39 < n46 + 1) (p50 : (k39 < ksize ∧ r49 = nI (bt k39)) ∨ (¬ k39 < ksize ∧ r49 = nI 0)) (jKs : k39 < ksize) (jAl : cAl (bt k39)) (e58 : y57 = ktapeF k39) (t59 : bt k39 < 256) (t60 : y57 = nI (bt k39)) (j63 : x62 = nI 0 ∨ x62 = nI 1) (jG1 : (x62 = nI 1 ∧ dcn bt k4 ((k39 + 1) - k4) = 0) ∨ (x62 = nI 0 ∧ dcn bt k4 ((k39 + 1) - k4) ≠ 0)) (jW1 : ¬ (dcn bt k4 ((k39 + 1) - k4) = 0 ∧ ((k39 + 1) - k4) ≤ 7) ∨ w66 = Int64.ofNat (c27 bt k4 ((k39 + 1) - k4))) (c68 : (k39 - k4) < 3) (e72 : y71 = (nI 10) * x40) (e74 : y73 = y71 + y57) (e76 : y75 = y73 - (nI 48)) : ¬ (dcn bt k4 ((k39 + 1) - k4) = ((k39 + 1) - k4) ∧ ((k39 + 1) - k4) ≤ 3) ∨ y75 = nI (nvn bt k4 ((k39 + 1) - k4)) := by
  by_cases h9 : k39 - k4 < 3
  · subst_vars
    first
      | exact go_n jPl jN h9 (by assumption) (by assumption)
      | (exfalso; omega)
  · exact Or.inl (by omega)
set_option maxRecDepth 20000 in
theorem lf_g_go_15 (bt : Nat → Nat) (ksize : Nat) (klimit : Nat) (kto : Nat) (ktapeF : Nat → Int32) (gq : Nat) (k4 : Nat) (n8 : Nat) (y16 : Int32) (x38 : Int32) (k39 : Nat) (x40 : Int32) (w41 : Int64) (n46 : Nat) (r49 : Int32) (y57 : Int32) (x62 : Int32) (iv_ko_1 : ksize ≤ 940) (iv_ko_2 : klimit ≤ 900) (iv_ko_3 : kto ≤ ksize) (hTM : TM bt ktapeF) (hgq : kto = gq) (j5 : k4 ≤ 940) (j6 : k4 ≤ ksize) (jSk : sk bt ksize kto = sk bt ksize k4) (hm10 : 940 - k4 < n8 + 1) (jQ : sk bt ksize kto = k4) (jM : ¬ (klimit < ksize ∧ klimit ≤ k4)) (c15 : k4 < ksize) (e17 : y16 = ktapeF k4) (t18 : bt k4 < 256) (t19 : y16 = nI (bt k4)) (t22 : 97 ≤ y16.toInt) (t23 : y16.toInt ≤ 122) (t28 : 97 ≤ y16.toInt) (t29 : y16.toInt ≤ 122) (j42 : x38 = nI 0 ∨ x38 = nI 1) (j43 : k39 ≤ 940) (j44 : k39 ≤ ksize) (jPl : k4 ≤ k39) (jRn : rn bt ksize k4 = rn bt ksize k39) (jG : (x38 = nI 1 ∧ dcn bt k4 (k39 - k4) = 0) ∨ (x38 = nI 0 ∧ dcn bt k4 (k39 - k4) ≠ 0)) (jN : ¬ (dcn bt k4 (k39 - k4) = (k39 - k4) ∧ (k39 - k4) ≤ 3) ∨ x40 = nI (nvn bt k4 (k39 - k4))) (jW : ¬ (dcn bt k4 (k39 - k4) = 0 ∧ (k39 - k4) ≤ 7) ∨ w41 = Int64.ofNat (c27 bt k4 (k39 - k4))) (jE : dcn bt k4 (k39 - k4) ≠ 0 ∨ LET bt k4 (k39 - k4)) (hm48 : 940 - k39 < n46 + 1) (p50 : (k39 < ksize ∧ r49 = nI (bt k39)) ∨ (¬ k39 < ksize ∧ r49 = nI 0)) (jKs : k39 < ksize) (jAl : cAl (bt k39)) (e58 : y57 = ktapeF k39) (t59 : bt k39 < 256) (t60 : y57 = nI (bt k39)) (j63 : x62 = nI 0 ∨ x62 = nI 1) (jG1 : (x62 = nI 1 ∧ dcn bt k4 ((k39 + 1) - k4) = 0) ∨ (x62 = nI 0 ∧ dcn bt k4 ((k39 + 1) - k4) ≠ 0)) (c65 : 7 ≤ (k39 - k4)) : ¬ (dcn bt k4 ((k39 + 1) - k4) = 0 ∧ ((k39 + 1) - k4) ≤ 7) ∨ w41 = Int64.ofNat (c27 bt k4 ((k39 + 1) - k4)) := by
  by_cases h9 : k39 - k4 < 7
  · subst_vars
    first
      | exact go_w jPl jW h9 (by assumption) jAl (by assumption)
      | (exfalso; omega)
  · exact Or.inl (by omega)
set_option maxRecDepth 20000 in
theorem lf_g_go_16 (bt : Nat → Nat) (ksize : Nat) (klimit : Nat) (kto : Nat) (ktapeF : Nat → Int32) (gq : Nat) (k4 : Nat) (n8 : Nat) (y16 : Int32) (x38 : Int32) (k39 : Nat) (x40 : Int32) (w41 : Int64) (n46 : Nat) (r49 : Int32) (y57 : Int32) (x62 : Int32) (w77 : Int64) (w79 : Int64) (w81 : Int64) (w83 : Int64) (iv_ko_1 : ksize ≤ 940) (iv_ko_2 : klimit ≤ 900) (iv_ko_3 : kto ≤ ksize) (hTM : TM bt ktapeF) (hgq : kto = gq) (j5 : k4 ≤ 940) (j6 : k4 ≤ ksize) (jSk : sk bt ksize kto = sk bt ksize k4) (hm10 : 940 - k4 < n8 + 1) (jQ : sk bt ksize kto = k4) (jM : ¬ (klimit < ksize ∧ klimit ≤ k4)) (c15 : k4 < ksize) (e17 : y16 = ktapeF k4) (t18 : bt k4 < 256) (t19 : y16 = nI (bt k4)) (t22 : 97 ≤ y16.toInt) (t23 : y16.toInt ≤ 122) (t28 : 97 ≤ y16.toInt) (t29 : y16.toInt ≤ 122) (j42 : x38 = nI 0 ∨ x38 = nI 1) (j43 : k39 ≤ 940) (j44 : k39 ≤ ksize) (jPl : k4 ≤ k39) (jRn : rn bt ksize k4 = rn bt ksize k39) (jG : (x38 = nI 1 ∧ dcn bt k4 (k39 - k4) = 0) ∨ (x38 = nI 0 ∧ dcn bt k4 (k39 - k4) ≠ 0)) (jN : ¬ (dcn bt k4 (k39 - k4) = (k39 - k4) ∧ (k39 - k4) ≤ 3) ∨ x40 = nI (nvn bt k4 (k39 - k4))) (jW : ¬ (dcn bt k4 (k39 - k4) = 0 ∧ (k39 - k4) ≤ 7) ∨ w41 = Int64.ofNat (c27 bt k4 (k39 - k4))) (jE : dcn bt k4 (k39 - k4) ≠ 0 ∨ LET bt k4 (k39 - k4)) (hm48 : 940 - k39 < n46 + 1) (p50 : (k39 < ksize ∧ r49 = nI (bt k39)) ∨ (¬ k39 < ksize ∧ r49 = nI 0)) (jKs : k39 < ksize) (jAl : cAl (bt k39)) (e58 : y57 = ktapeF k39) (t59 : bt k39 < 256) (t60 : y57 = nI (bt k39)) (j63 : x62 = nI 0 ∨ x62 = nI 1) (jG1 : (x62 = nI 1 ∧ dcn bt k4 ((k39 + 1) - k4) = 0) ∨ (x62 = nI 0 ∧ dcn bt k4 ((k39 + 1) - k4) ≠ 0)) (c65 : (k39 - k4) < 7) (e78 : w77 = (27 : Int64) * w41) (e80 : w79 = (y57).toInt64) (e82 : w81 = w77 + w79) (e84 : w83 = w81 - (96 : Int64)) : ¬ (dcn bt k4 ((k39 + 1) - k4) = 0 ∧ ((k39 + 1) - k4) ≤ 7) ∨ w83 = Int64.ofNat (c27 bt k4 ((k39 + 1) - k4)) := by
  by_cases h9 : k39 - k4 < 7
  · subst_vars
    first
      | exact go_w jPl jW h9 (by assumption) jAl (by assumption)
      | (exfalso; omega)
  · exact Or.inl (by omega)
set_option maxRecDepth 20000 in
theorem lf_g_go_17   : (nI 0) = nI 0 ∨ (nI 0) = nI 1 := by
  try have k_0 := ia_n 0 (by first | decide | omega)
  try have k_1 := ia_n 1 (by first | decide | omega)
  try simp only [ia_lt, ia_le, ia_eq, ia_m1, ia_0, ia_1, ne_eq, true_and, and_true, false_and, and_false, or_false, false_or, or_true, true_or, not_true_eq_false, not_false_eq_true] at *
  all_goals omega
set_option maxRecDepth 20000 in
theorem lf_g_go_18 (bt : Nat → Nat) (ksize : Nat) (klimit : Nat) (kto : Nat) (ktapeF : Nat → Int32) (gq : Nat) (k4 : Nat) (n8 : Nat) (y16 : Int32) (x38 : Int32) (k39 : Nat) (x40 : Int32) (w41 : Int64) (n46 : Nat) (r49 : Int32) (y57 : Int32) (iv_ko_1 : ksize ≤ 940) (iv_ko_2 : klimit ≤ 900) (iv_ko_3 : kto ≤ ksize) (hTM : TM bt ktapeF) (hgq : kto = gq) (j5 : k4 ≤ 940) (j6 : k4 ≤ ksize) (jSk : sk bt ksize kto = sk bt ksize k4) (hm10 : 940 - k4 < n8 + 1) (jQ : sk bt ksize kto = k4) (jM : ¬ (klimit < ksize ∧ klimit ≤ k4)) (c15 : k4 < ksize) (e17 : y16 = ktapeF k4) (t18 : bt k4 < 256) (t19 : y16 = nI (bt k4)) (t22 : 97 ≤ y16.toInt) (t23 : y16.toInt ≤ 122) (t28 : 97 ≤ y16.toInt) (t29 : y16.toInt ≤ 122) (j42 : x38 = nI 0 ∨ x38 = nI 1) (j43 : k39 ≤ 940) (j44 : k39 ≤ ksize) (jPl : k4 ≤ k39) (jRn : rn bt ksize k4 = rn bt ksize k39) (jG : (x38 = nI 1 ∧ dcn bt k4 (k39 - k4) = 0) ∨ (x38 = nI 0 ∧ dcn bt k4 (k39 - k4) ≠ 0)) (jN : ¬ (dcn bt k4 (k39 - k4) = (k39 - k4) ∧ (k39 - k4) ≤ 3) ∨ x40 = nI (nvn bt k4 (k39 - k4))) (jW : ¬ (dcn bt k4 (k39 - k4) = 0 ∧ (k39 - k4) ≤ 7) ∨ w41 = Int64.ofNat (c27 bt k4 (k39 - k4))) (jE : dcn bt k4 (k39 - k4) ≠ 0 ∨ LET bt k4 (k39 - k4)) (hm48 : 940 - k39 < n46 + 1) (p50 : (k39 < ksize ∧ r49 = nI (bt k39)) ∨ (¬ k39 < ksize ∧ r49 = nI 0)) (jKs : k39 < ksize) (jAl : cAl (bt k39)) (e58 : y57 = ktapeF k39) (t59 : bt k39 < 256) (t60 : y57 = nI (bt k39)) (c61 : x38 = 0) : ((nI 0) = nI 1 ∧ dcn bt k4 ((k39 + 1) - k4) = 0) ∨ ((nI 0) = nI 0 ∧ dcn bt k4 ((k39 + 1) - k4) ≠ 0) := by
  have hb8 := ia_n (bt k39) (by omega)
  have h5 := dcn_le bt k4 (k39 - k4)
  have hal := jAl
  by_cases h9 : cDi (bt k39)
  · rw [rr_dy jPl h9]
    unfold cDi at h9
    unfold cAl cLe cDi at hal
    have kk0 := ia_n 0 (by decide)
    have kk1 := ia_n 1 (by decide)
    have b_y16 := ia_b y16
    have b_x38 := ia_b x38
    have b_x40 := ia_b x40
    have b_r49 := ia_b r49
    have b_y57 := ia_b y57
    have b_w41 := Int64.toInt_lt w41
    try have k_0 := ia_n (bt k4) (by first | decide | omega)
    try have k_1 := ia_n 0 (by first | decide | omega)
    try have k_2 := ia_n 1 (by first | decide | omega)
    try have k_3 := ia_n (nvn bt k4 (k39 - k4)) (by first | decide | omega)
    try have k_4 := ia_n (bt k39) (by first | decide | omega)
    try simp only [ia_lt, ia_le, ia_eq, ia_m1, ia_0, ia_1, ne_eq, true_and, and_true, false_and, and_false, or_false, false_or, or_true, true_or, not_true_eq_false, not_false_eq_true] at *
    all_goals omega
  · rw [rr_dn jPl h9]
    unfold cDi at h9
    unfold cAl cLe cDi at hal
    have kk0 := ia_n 0 (by decide)
    have kk1 := ia_n 1 (by decide)
    have b_y16 := ia_b y16
    have b_x38 := ia_b x38
    have b_x40 := ia_b x40
    have b_r49 := ia_b r49
    have b_y57 := ia_b y57
    have b_w41 := Int64.toInt_lt w41
    try have k_0 := ia_n (bt k4) (by first | decide | omega)
    try have k_1 := ia_n 0 (by first | decide | omega)
    try have k_2 := ia_n 1 (by first | decide | omega)
    try have k_3 := ia_n (nvn bt k4 (k39 - k4)) (by first | decide | omega)
    try have k_4 := ia_n (bt k39) (by first | decide | omega)
    try simp only [ia_lt, ia_le, ia_eq, ia_m1, ia_0, ia_1, ne_eq, true_and, and_true, false_and, and_false, or_false, false_or, or_true, true_or, not_true_eq_false, not_false_eq_true] at *
    all_goals omega
set_option maxRecDepth 20000 in
theorem lf_g_go_19   : (nI 1) = nI 0 ∨ (nI 1) = nI 1 := by
  try have k_0 := ia_n 1 (by first | decide | omega)
  try have k_1 := ia_n 0 (by first | decide | omega)
  try simp only [ia_lt, ia_le, ia_eq, ia_m1, ia_0, ia_1, ne_eq, true_and, and_true, false_and, and_false, or_false, false_or, or_true, true_or, not_true_eq_false, not_false_eq_true] at *
  all_goals omega
set_option maxRecDepth 20000 in
theorem lf_g_go_20 (bt : Nat → Nat) (ksize : Nat) (klimit : Nat) (kto : Nat) (ktapeF : Nat → Int32) (gq : Nat) (k4 : Nat) (n8 : Nat) (y16 : Int32) (x38 : Int32) (k39 : Nat) (x40 : Int32) (w41 : Int64) (n46 : Nat) (r49 : Int32) (y57 : Int32) (iv_ko_1 : ksize ≤ 940) (iv_ko_2 : klimit ≤ 900) (iv_ko_3 : kto ≤ ksize) (hTM : TM bt ktapeF) (hgq : kto = gq) (j5 : k4 ≤ 940) (j6 : k4 ≤ ksize) (jSk : sk bt ksize kto = sk bt ksize k4) (hm10 : 940 - k4 < n8 + 1) (jQ : sk bt ksize kto = k4) (jM : ¬ (klimit < ksize ∧ klimit ≤ k4)) (c15 : k4 < ksize) (e17 : y16 = ktapeF k4) (t18 : bt k4 < 256) (t19 : y16 = nI (bt k4)) (t22 : 97 ≤ y16.toInt) (t23 : y16.toInt ≤ 122) (t28 : 97 ≤ y16.toInt) (t29 : y16.toInt ≤ 122) (j42 : x38 = nI 0 ∨ x38 = nI 1) (j43 : k39 ≤ 940) (j44 : k39 ≤ ksize) (jPl : k4 ≤ k39) (jRn : rn bt ksize k4 = rn bt ksize k39) (jG : (x38 = nI 1 ∧ dcn bt k4 (k39 - k4) = 0) ∨ (x38 = nI 0 ∧ dcn bt k4 (k39 - k4) ≠ 0)) (jN : ¬ (dcn bt k4 (k39 - k4) = (k39 - k4) ∧ (k39 - k4) ≤ 3) ∨ x40 = nI (nvn bt k4 (k39 - k4))) (jW : ¬ (dcn bt k4 (k39 - k4) = 0 ∧ (k39 - k4) ≤ 7) ∨ w41 = Int64.ofNat (c27 bt k4 (k39 - k4))) (jE : dcn bt k4 (k39 - k4) ≠ 0 ∨ LET bt k4 (k39 - k4)) (hm48 : 940 - k39 < n46 + 1) (p50 : (k39 < ksize ∧ r49 = nI (bt k39)) ∨ (¬ k39 < ksize ∧ r49 = nI 0)) (jKs : k39 < ksize) (jAl : cAl (bt k39)) (e58 : y57 = ktapeF k39) (t59 : bt k39 < 256) (t60 : y57 = nI (bt k39)) (c61 : ¬ x38 = 0) (t87 : 97 ≤ y57.toInt) (t88 : y57.toInt ≤ 122) : ((nI 1) = nI 1 ∧ dcn bt k4 ((k39 + 1) - k4) = 0) ∨ ((nI 1) = nI 0 ∧ dcn bt k4 ((k39 + 1) - k4) ≠ 0) := by
  have hb8 := ia_n (bt k39) (by omega)
  have h5 := dcn_le bt k4 (k39 - k4)
  have hal := jAl
  by_cases h9 : cDi (bt k39)
  · rw [rr_dy jPl h9]
    unfold cDi at h9
    unfold cAl cLe cDi at hal
    have kk0 := ia_n 0 (by decide)
    have kk1 := ia_n 1 (by decide)
    have b_y16 := ia_b y16
    have b_x38 := ia_b x38
    have b_x40 := ia_b x40
    have b_r49 := ia_b r49
    have b_y57 := ia_b y57
    have b_w41 := Int64.toInt_lt w41
    try have k_0 := ia_n (bt k4) (by first | decide | omega)
    try have k_1 := ia_n 0 (by first | decide | omega)
    try have k_2 := ia_n 1 (by first | decide | omega)
    try have k_3 := ia_n (nvn bt k4 (k39 - k4)) (by first | decide | omega)
    try have k_4 := ia_n (bt k39) (by first | decide | omega)
    try simp only [ia_lt, ia_le, ia_eq, ia_m1, ia_0, ia_1, ne_eq, true_and, and_true, false_and, and_false, or_false, false_or, or_true, true_or, not_true_eq_false, not_false_eq_true] at *
    all_goals omega
  · rw [rr_dn jPl h9]
    unfold cDi at h9
    unfold cAl cLe cDi at hal
    have kk0 := ia_n 0 (by decide)
    have kk1 := ia_n 1 (by decide)
    have b_y16 := ia_b y16
    have b_x38 := ia_b x38
    have b_x40 := ia_b x40
    have b_r49 := ia_b r49
    have b_y57 := ia_b y57
    have b_w41 := Int64.toInt_lt w41
    try have k_0 := ia_n (bt k4) (by first | decide | omega)
    try have k_1 := ia_n 0 (by first | decide | omega)
    try have k_2 := ia_n 1 (by first | decide | omega)
    try have k_3 := ia_n (nvn bt k4 (k39 - k4)) (by first | decide | omega)
    try have k_4 := ia_n (bt k39) (by first | decide | omega)
    try simp only [ia_lt, ia_le, ia_eq, ia_m1, ia_0, ia_1, ne_eq, true_and, and_true, false_and, and_false, or_false, false_or, or_true, true_or, not_true_eq_false, not_false_eq_true] at *
    all_goals omega
set_option maxRecDepth 20000 in
theorem lf_g_go_21   : (nI 0) = nI 0 ∨ (nI 0) = nI 1 := by
  try have k_0 := ia_n 0 (by first | decide | omega)
  try have k_1 := ia_n 1 (by first | decide | omega)
  try simp only [ia_lt, ia_le, ia_eq, ia_m1, ia_0, ia_1, ne_eq, true_and, and_true, false_and, and_false, or_false, false_or, or_true, true_or, not_true_eq_false, not_false_eq_true] at *
  all_goals omega
set_option maxRecDepth 20000 in
theorem lf_g_go_22 (bt : Nat → Nat) (ksize : Nat) (klimit : Nat) (kto : Nat) (ktapeF : Nat → Int32) (gq : Nat) (k4 : Nat) (n8 : Nat) (y16 : Int32) (x38 : Int32) (k39 : Nat) (x40 : Int32) (w41 : Int64) (n46 : Nat) (r49 : Int32) (y57 : Int32) (iv_ko_1 : ksize ≤ 940) (iv_ko_2 : klimit ≤ 900) (iv_ko_3 : kto ≤ ksize) (hTM : TM bt ktapeF) (hgq : kto = gq) (j5 : k4 ≤ 940) (j6 : k4 ≤ ksize) (jSk : sk bt ksize kto = sk bt ksize k4) (hm10 : 940 - k4 < n8 + 1) (jQ : sk bt ksize kto = k4) (jM : ¬ (klimit < ksize ∧ klimit ≤ k4)) (c15 : k4 < ksize) (e17 : y16 = ktapeF k4) (t18 : bt k4 < 256) (t19 : y16 = nI (bt k4)) (t22 : 97 ≤ y16.toInt) (t23 : y16.toInt ≤ 122) (t28 : 97 ≤ y16.toInt) (t29 : y16.toInt ≤ 122) (j42 : x38 = nI 0 ∨ x38 = nI 1) (j43 : k39 ≤ 940) (j44 : k39 ≤ ksize) (jPl : k4 ≤ k39) (jRn : rn bt ksize k4 = rn bt ksize k39) (jG : (x38 = nI 1 ∧ dcn bt k4 (k39 - k4) = 0) ∨ (x38 = nI 0 ∧ dcn bt k4 (k39 - k4) ≠ 0)) (jN : ¬ (dcn bt k4 (k39 - k4) = (k39 - k4) ∧ (k39 - k4) ≤ 3) ∨ x40 = nI (nvn bt k4 (k39 - k4))) (jW : ¬ (dcn bt k4 (k39 - k4) = 0 ∧ (k39 - k4) ≤ 7) ∨ w41 = Int64.ofNat (c27 bt k4 (k39 - k4))) (jE : dcn bt k4 (k39 - k4) ≠ 0 ∨ LET bt k4 (k39 - k4)) (hm48 : 940 - k39 < n46 + 1) (p50 : (k39 < ksize ∧ r49 = nI (bt k39)) ∨ (¬ k39 < ksize ∧ r49 = nI 0)) (jKs : k39 < ksize) (jAl : cAl (bt k39)) (e58 : y57 = ktapeF k39) (t59 : bt k39 < 256) (t60 : y57 = nI (bt k39)) (c61 : ¬ x38 = 0) (t89 : ¬ (97 ≤ y57.toInt ∧ y57.toInt ≤ 122)) : ((nI 0) = nI 1 ∧ dcn bt k4 ((k39 + 1) - k4) = 0) ∨ ((nI 0) = nI 0 ∧ dcn bt k4 ((k39 + 1) - k4) ≠ 0) := by
  have hb8 := ia_n (bt k39) (by omega)
  have h5 := dcn_le bt k4 (k39 - k4)
  have hal := jAl
  by_cases h9 : cDi (bt k39)
  · rw [rr_dy jPl h9]
    unfold cDi at h9
    unfold cAl cLe cDi at hal
    have kk0 := ia_n 0 (by decide)
    have kk1 := ia_n 1 (by decide)
    have b_y16 := ia_b y16
    have b_x38 := ia_b x38
    have b_x40 := ia_b x40
    have b_r49 := ia_b r49
    have b_y57 := ia_b y57
    have b_w41 := Int64.toInt_lt w41
    try have k_0 := ia_n (bt k4) (by first | decide | omega)
    try have k_1 := ia_n 0 (by first | decide | omega)
    try have k_2 := ia_n 1 (by first | decide | omega)
    try have k_3 := ia_n (nvn bt k4 (k39 - k4)) (by first | decide | omega)
    try have k_4 := ia_n (bt k39) (by first | decide | omega)
    try simp only [ia_lt, ia_le, ia_eq, ia_m1, ia_0, ia_1, ne_eq, true_and, and_true, false_and, and_false, or_false, false_or, or_true, true_or, not_true_eq_false, not_false_eq_true] at *
    all_goals omega
  · rw [rr_dn jPl h9]
    unfold cDi at h9
    unfold cAl cLe cDi at hal
    have kk0 := ia_n 0 (by decide)
    have kk1 := ia_n 1 (by decide)
    have b_y16 := ia_b y16
    have b_x38 := ia_b x38
    have b_x40 := ia_b x40
    have b_r49 := ia_b r49
    have b_y57 := ia_b y57
    have b_w41 := Int64.toInt_lt w41
    try have k_0 := ia_n (bt k4) (by first | decide | omega)
    try have k_1 := ia_n 0 (by first | decide | omega)
    try have k_2 := ia_n 1 (by first | decide | omega)
    try have k_3 := ia_n (nvn bt k4 (k39 - k4)) (by first | decide | omega)
    try have k_4 := ia_n (bt k39) (by first | decide | omega)
    try simp only [ia_lt, ia_le, ia_eq, ia_m1, ia_0, ia_1, ne_eq, true_and, and_true, false_and, and_false, or_false, false_or, or_true, true_or, not_true_eq_false, not_false_eq_true] at *
    all_goals omega
set_option maxRecDepth 20000 in
theorem lf_g_go_23 (bt : Nat → Nat) (ksize : Nat) (klimit : Nat) (kto : Nat) (ktapeF : Nat → Int32) (gq : Nat) (k4 : Nat) (n8 : Nat) (y16 : Int32) (x38 : Int32) (k39 : Nat) (x40 : Int32) (w41 : Int64) (n46 : Nat) (r49 : Int32) (iv_ko_1 : ksize ≤ 940) (iv_ko_2 : klimit ≤ 900) (iv_ko_3 : kto ≤ ksize) (hTM : TM bt ktapeF) (hgq : kto = gq) (j5 : k4 ≤ 940) (j6 : k4 ≤ ksize) (jSk : sk bt ksize kto = sk bt ksize k4) (hm10 : 940 - k4 < n8 + 1) (jQ : sk bt ksize kto = k4) (jM : ¬ (klimit < ksize ∧ klimit ≤ k4)) (c15 : k4 < ksize) (e17 : y16 = ktapeF k4) (t18 : bt k4 < 256) (t19 : y16 = nI (bt k4)) (t22 : 97 ≤ y16.toInt) (t23 : y16.toInt ≤ 122) (t28 : 97 ≤ y16.toInt) (t29 : y16.toInt ≤ 122) (j42 : x38 = nI 0 ∨ x38 = nI 1) (j43 : k39 ≤ 940) (j44 : k39 ≤ ksize) (jPl : k4 ≤ k39) (jRn : rn bt ksize k4 = rn bt ksize k39) (jG : (x38 = nI 1 ∧ dcn bt k4 (k39 - k4) = 0) ∨ (x38 = nI 0 ∧ dcn bt k4 (k39 - k4) ≠ 0)) (jN : ¬ (dcn bt k4 (k39 - k4) = (k39 - k4) ∧ (k39 - k4) ≤ 3) ∨ x40 = nI (nvn bt k4 (k39 - k4))) (jW : ¬ (dcn bt k4 (k39 - k4) = 0 ∧ (k39 - k4) ≤ 7) ∨ w41 = Int64.ofNat (c27 bt k4 (k39 - k4))) (jE : dcn bt k4 (k39 - k4) ≠ 0 ∨ LET bt k4 (k39 - k4)) (hm48 : 940 - k39 < n46 + 1) (p50 : (k39 < ksize ∧ r49 = nI (bt k39)) ∨ (¬ k39 < ksize ∧ r49 = nI 0)) (t53 : 97 ≤ r49.toInt) (t54 : r49.toInt ≤ 122) : k39 < ksize := by
  have kk0 := ia_n 0 (by decide)
  have b_y16 := ia_b y16
  have b_x38 := ia_b x38
  have b_x40 := ia_b x40
  have b_r49 := ia_b r49
  have b_w41 := Int64.toInt_lt w41
  try have k_0 := ia_n (bt k4) (by first | decide | omega)
  try have k_1 := ia_n 0 (by first | decide | omega)
  try have k_2 := ia_n 1 (by first | decide | omega)
  try have k_3 := ia_n (nvn bt k4 (k39 - k4)) (by first | decide | omega)
  try have k_4 := ia_n (bt k39) (by first | decide | omega)
  try simp only [ia_lt, ia_le, ia_eq, ia_m1, ia_0, ia_1, ne_eq, true_and, and_true, false_and, and_false, or_false, false_or, or_true, true_or, not_true_eq_false, not_false_eq_true] at *
  all_goals omega
set_option maxRecDepth 20000 in
theorem lf_g_go_24 (bt : Nat → Nat) (ksize : Nat) (klimit : Nat) (kto : Nat) (ktapeF : Nat → Int32) (gq : Nat) (k4 : Nat) (n8 : Nat) (y16 : Int32) (x38 : Int32) (k39 : Nat) (x40 : Int32) (w41 : Int64) (n46 : Nat) (r49 : Int32) (iv_ko_1 : ksize ≤ 940) (iv_ko_2 : klimit ≤ 900) (iv_ko_3 : kto ≤ ksize) (hTM : TM bt ktapeF) (hgq : kto = gq) (j5 : k4 ≤ 940) (j6 : k4 ≤ ksize) (jSk : sk bt ksize kto = sk bt ksize k4) (hm10 : 940 - k4 < n8 + 1) (jQ : sk bt ksize kto = k4) (jM : ¬ (klimit < ksize ∧ klimit ≤ k4)) (c15 : k4 < ksize) (e17 : y16 = ktapeF k4) (t18 : bt k4 < 256) (t19 : y16 = nI (bt k4)) (t22 : 97 ≤ y16.toInt) (t23 : y16.toInt ≤ 122) (t28 : 97 ≤ y16.toInt) (t29 : y16.toInt ≤ 122) (j42 : x38 = nI 0 ∨ x38 = nI 1) (j43 : k39 ≤ 940) (j44 : k39 ≤ ksize) (jPl : k4 ≤ k39) (jRn : rn bt ksize k4 = rn bt ksize k39) (jG : (x38 = nI 1 ∧ dcn bt k4 (k39 - k4) = 0) ∨ (x38 = nI 0 ∧ dcn bt k4 (k39 - k4) ≠ 0)) (jN : ¬ (dcn bt k4 (k39 - k4) = (k39 - k4) ∧ (k39 - k4) ≤ 3) ∨ x40 = nI (nvn bt k4 (k39 - k4))) (jW : ¬ (dcn bt k4 (k39 - k4) = 0 ∧ (k39 - k4) ≤ 7) ∨ w41 = Int64.ofNat (c27 bt k4 (k39 - k4))) (jE : dcn bt k4 (k39 - k4) ≠ 0 ∨ LET bt k4 (k39 - k4)) (hm48 : 940 - k39 < n46 + 1) (p50 : (k39 < ksize ∧ r49 = nI (bt k39)) ∨ (¬ k39 < ksize ∧ r49 = nI 0)) (t53 : 97 ≤ r49.toInt) (t54 : r49.toInt ≤ 122) : cAl (bt k39) := by
  have hks : k39 < ksize := by
    have kk0 := ia_n 0 (by decide)
    have b_y16 := ia_b y16
    have b_x38 := ia_b x38
    have b_x40 := ia_b x40
    have b_r49 := ia_b r49
    have b_w41 := Int64.toInt_lt w41
    try have k_0 := ia_n (bt k4) (by first | decide | omega)
    try have k_1 := ia_n 0 (by first | decide | omega)
    try have k_2 := ia_n 1 (by first | decide | omega)
    try have k_3 := ia_n (nvn bt k4 (k39 - k4)) (by first | decide | omega)
    try have k_4 := ia_n (bt k39) (by first | decide | omega)
    try simp only [ia_lt, ia_le, ia_eq, ia_m1, ia_0, ia_1, ne_eq, true_and, and_true, false_and, and_false, or_false, false_or, or_true, true_or, not_true_eq_false, not_false_eq_true] at *
    all_goals omega
  have hb9 := (hTM k39 (by omega)).1
  have hb8 := ia_n (bt k39) (by omega)
  have kk0 := ia_n 0 (by decide)
  unfold cAl cLe cDi
  have b_y16 := ia_b y16
  have b_x38 := ia_b x38
  have b_x40 := ia_b x40
  have b_r49 := ia_b r49
  have b_w41 := Int64.toInt_lt w41
  try have k_0 := ia_n (bt k4) (by first | decide | omega)
  try have k_1 := ia_n 0 (by first | decide | omega)
  try have k_2 := ia_n 1 (by first | decide | omega)
  try have k_3 := ia_n (nvn bt k4 (k39 - k4)) (by first | decide | omega)
  try have k_4 := ia_n (bt k39) (by first | decide | omega)
  try simp only [ia_lt, ia_le, ia_eq, ia_m1, ia_0, ia_1, ne_eq, true_and, and_true, false_and, and_false, or_false, false_or, or_true, true_or, not_true_eq_false, not_false_eq_true] at *
  all_goals omega
set_option maxRecDepth 20000 in
theorem lf_g_go_25 (bt : Nat → Nat) (ksize : Nat) (klimit : Nat) (kto : Nat) (ktapeF : Nat → Int32) (gq : Nat) (k4 : Nat) (n8 : Nat) (y16 : Int32) (x38 : Int32) (k39 : Nat) (x40 : Int32) (w41 : Int64) (n46 : Nat) (r49 : Int32) (r94 : Int32) (iv_ko_1 : ksize ≤ 940) (iv_ko_2 : klimit ≤ 900) (iv_ko_3 : kto ≤ ksize) (hTM : TM bt ktapeF) (hgq : kto = gq) (j5 : k4 ≤ 940) (j6 : k4 ≤ ksize) (jSk : sk bt ksize kto = sk bt ksize k4) (hm10 : 940 - k4 < n8 + 1) (jQ : sk bt ksize kto = k4) (jM : ¬ (klimit < ksize ∧ klimit ≤ k4)) (c15 : k4 < ksize) (e17 : y16 = ktapeF k4) (t18 : bt k4 < 256) (t19 : y16 = nI (bt k4)) (t22 : 97 ≤ y16.toInt) (t23 : y16.toInt ≤ 122) (t28 : 97 ≤ y16.toInt) (t29 : y16.toInt ≤ 122) (j42 : x38 = nI 0 ∨ x38 = nI 1) (j43 : k39 ≤ 940) (j44 : k39 ≤ ksize) (jPl : k4 ≤ k39) (jRn : rn bt ksize k4 = rn bt ksize k39) (jG : (x38 = nI 1 ∧ dcn bt k4 (k39 - k4) = 0) ∨ (x38 = nI 0 ∧ dcn bt k4 (k39 - k4) ≠ 0)) (jN : ¬ (dcn bt k4 (k39 - k4) = (k39 - k4) ∧ (k39 - k4) ≤ 3) ∨ x40 = nI (nvn bt k4 (k39 - k4))) (jW : ¬ (dcn bt k4 (k39 - k4) = 0 ∧ (k39 - k4) ≤ 7) ∨ w41 = Int64.ofNat (c27 bt k4 (k39 - k4))) (jE : dcn bt k4 (k39 - k4) ≠ 0 ∨ LET bt k4 (k39 - k4)) (hm48 : 940 - k39 < n46 + 1) (p50 : (k39 < ksize ∧ r49 = nI (bt k39)) ∨ (¬ k39 < ksize ∧ r49 = nI 0)) (t55 : ¬ (97 ≤ r49.toInt ∧ r49.toInt ≤ 122)) (p95 : (k39 < ksize ∧ r94 = nI (bt k39)) ∨ (¬ k39 < ksize ∧ r94 = nI 0)) (t98 : 48 ≤ r94.toInt) (t99 : r94.toInt ≤ 57) : k39 < ksize := by
  have kk0 := ia_n 0 (by decide)
  have b_y16 := ia_b y16
  have b_x38 := ia_b x38
  have b_x40 := ia_b x40
  have b_r49 := ia_b r49
  have b_r94 := ia_b r94
  have b_w41 := Int64.toInt_lt w41
  try have k_0 := ia_n (bt k4) (by first | decide | omega)
  try have k_1 := ia_n 0 (by first | decide | omega)
  try have k_2 := ia_n 1 (by first | decide | omega)
  try have k_3 := ia_n (nvn bt k4 (k39 - k4)) (by first | decide | omega)
  try have k_4 := ia_n (bt k39) (by first | decide | omega)
  try simp only [ia_lt, ia_le, ia_eq, ia_m1, ia_0, ia_1, ne_eq, true_and, and_true, false_and, and_false, or_false, false_or, or_true, true_or, not_true_eq_false, not_false_eq_true] at *
  all_goals omega
set_option maxRecDepth 20000 in
theorem lf_g_go_26 (bt : Nat → Nat) (ksize : Nat) (klimit : Nat) (kto : Nat) (ktapeF : Nat → Int32) (gq : Nat) (k4 : Nat) (n8 : Nat) (y16 : Int32) (x38 : Int32) (k39 : Nat) (x40 : Int32) (w41 : Int64) (n46 : Nat) (r49 : Int32) (r94 : Int32) (iv_ko_1 : ksize ≤ 940) (iv_ko_2 : klimit ≤ 900) (iv_ko_3 : kto ≤ ksize) (hTM : TM bt ktapeF) (hgq : kto = gq) (j5 : k4 ≤ 940) (j6 : k4 ≤ ksize) (jSk : sk bt ksize kto = sk bt ksize k4) (hm10 : 940 - k4 < n8 + 1) (jQ : sk bt ksize kto = k4) (jM : ¬ (klimit < ksize ∧ klimit ≤ k4)) (c15 : k4 < ksize) (e17 : y16 = ktapeF k4) (t18 : bt k4 < 256) (t19 : y16 = nI (bt k4)) (t22 : 97 ≤ y16.toInt) (t23 : y16.toInt ≤ 122) (t28 : 97 ≤ y16.toInt) (t29 : y16.toInt ≤ 122) (j42 : x38 = nI 0 ∨ x38 = nI 1) (j43 : k39 ≤ 940) (j44 : k39 ≤ ksize) (jPl : k4 ≤ k39) (jRn : rn bt ksize k4 = rn bt ksize k39) (jG : (x38 = nI 1 ∧ dcn bt k4 (k39 - k4) = 0) ∨ (x38 = nI 0 ∧ dcn bt k4 (k39 - k4) ≠ 0)) (jN : ¬ (dcn bt k4 (k39 - k4) = (k39 - k4) ∧ (k39 - k4) ≤ 3) ∨ x40 = nI (nvn bt k4 (k39 - k4))) (jW : ¬ (dcn bt k4 (k39 - k4) = 0 ∧ (k39 - k4) ≤ 7) ∨ w41 = Int64.ofNat (c27 bt k4 (k39 - k4))) (jE : dcn bt k4 (k39 - k4) ≠ 0 ∨ LET bt k4 (k39 - k4)) (hm48 : 940 - k39 < n46 + 1) (p50 : (k39 < ksize ∧ r49 = nI (bt k39)) ∨ (¬ k39 < ksize ∧ r49 = nI 0)) (t55 : ¬ (97 ≤ r49.toInt ∧ r49.toInt ≤ 122)) (p95 : (k39 < ksize ∧ r94 = nI (bt k39)) ∨ (¬ k39 < ksize ∧ r94 = nI 0)) (t98 : 48 ≤ r94.toInt) (t99 : r94.toInt ≤ 57) : cAl (bt k39) := by
  have hks : k39 < ksize := by
    have kk0 := ia_n 0 (by decide)
    have b_y16 := ia_b y16
    have b_x38 := ia_b x38
    have b_x40 := ia_b x40
    have b_r49 := ia_b r49
    have b_r94 := ia_b r94
    have b_w41 := Int64.toInt_lt w41
    try have k_0 := ia_n (bt k4) (by first | decide | omega)
    try have k_1 := ia_n 0 (by first | decide | omega)
    try have k_2 := ia_n 1 (by first | decide | omega)
    try have k_3 := ia_n (nvn bt k4 (k39 - k4)) (by first | decide | omega)
    try have k_4 := ia_n (bt k39) (by first | decide | omega)
    try simp only [ia_lt, ia_le, ia_eq, ia_m1, ia_0, ia_1, ne_eq, true_and, and_true, false_and, and_false, or_false, false_or, or_true, true_or, not_true_eq_false, not_false_eq_true] at *
    all_goals omega
  have hb9 := (hTM k39 (by omega)).1
  have hb8 := ia_n (bt k39) (by omega)
  have kk0 := ia_n 0 (by decide)
  unfold cAl cLe cDi
  have b_y16 := ia_b y16
  have b_x38 := ia_b x38
  have b_x40 := ia_b x40
  have b_r49 := ia_b r49
  have b_r94 := ia_b r94
  have b_w41 := Int64.toInt_lt w41
  try have k_0 := ia_n (bt k4) (by first | decide | omega)
  try have k_1 := ia_n 0 (by first | decide | omega)
  try have k_2 := ia_n 1 (by first | decide | omega)
  try have k_3 := ia_n (nvn bt k4 (k39 - k4)) (by first | decide | omega)
  try have k_4 := ia_n (bt k39) (by first | decide | omega)
  try simp only [ia_lt, ia_le, ia_eq, ia_m1, ia_0, ia_1, ne_eq, true_and, and_true, false_and, and_false, or_false, false_or, or_true, true_or, not_true_eq_false, not_false_eq_true] at *
  all_goals omega
set_option maxRecDepth 20000 in
theorem lf_g_go_27 (bt : Nat → Nat) (ksize : Nat) (klimit : Nat) (kto : Nat) (ksign : Int32) (ktapeF : Nat → Int32) (gq : Nat) (k4 : Nat) (n8 : Nat) (y16 : Int32) (x38 : Int32) (k39 : Nat) (x40 : Int32) (w41 : Int64) (n46 : Nat) (r49 : Int32) (r94 : Int32) (iv_ko_1 : ksize ≤ 940) (iv_ko_2 : klimit ≤ 900) (iv_ko_3 : kto ≤ ksize) (hTM : TM bt ktapeF) (hgq : kto = gq) (j5 : k4 ≤ 940) (j6 : k4 ≤ ksize) (jSk : sk bt ksize kto = sk bt ksize k4) (hm10 : 940 - k4 < n8 + 1) (jQ : sk bt ksize kto = k4) (jM : ¬ (klimit < ksize ∧ klimit ≤ k4)) (c15 : k4 < ksize) (e17 : y16 = ktapeF k4) (t18 : bt k4 < 256) (t19 : y16 = nI (bt k4)) (t22 : 97 ≤ y16.toInt) (t23 : y16.toInt ≤ 122) (t28 : 97 ≤ y16.toInt) (t29 : y16.toInt ≤ 122) (j42 : x38 = nI 0 ∨ x38 = nI 1) (j43 : k39 ≤ 940) (j44 : k39 ≤ ksize) (jPl : k4 ≤ k39) (jRn : rn bt ksize k4 = rn bt ksize k39) (jG : (x38 = nI 1 ∧ dcn bt k4 (k39 - k4) = 0) ∨ (x38 = nI 0 ∧ dcn bt k4 (k39 - k4) ≠ 0)) (jN : ¬ (dcn bt k4 (k39 - k4) = (k39 - k4) ∧ (k39 - k4) ≤ 3) ∨ x40 = nI (nvn bt k4 (k39 - k4))) (jW : ¬ (dcn bt k4 (k39 - k4) = 0 ∧ (k39 - k4) ≤ 7) ∨ w41 = Int64.ofNat (c27 bt k4 (k39 - k4))) (jE : dcn bt k4 (k39 - k4) ≠ 0 ∨ LET bt k4 (k39 - k4)) (hm48 : 940 - k39 < n46 + 1) (p50 : (k39 < ksize ∧ r49 = nI (bt k39)) ∨ (¬ k39 < ksize ∧ r49 = nI 0)) (t55 : ¬ (97 ≤ r49.toInt ∧ r49.toInt ≤ 122)) (p95 : (k39 < ksize ∧ r94 = nI (bt k39)) ∨ (¬ k39 < ksize ∧ r94 = nI 0)) (t100 : ¬ (48 ≤ r94.toInt ∧ r94.toInt ≤ 57)) (c103 : x38 = 0) : MT bt ksize klimit gq (nI 1) ksign k4 k39 x40 w41 := by
  have q1 := jM
  have q2 : k4 < ksize := by
    have kk0 := ia_n 0 (by decide)
    have kk1 := ia_n 1 (by decide)
    have b_ksign := ia_b ksign
    have b_y16 := ia_b y16
    have b_x38 := ia_b x38
    have b_x40 := ia_b x40
    have b_r49 := ia_b r49
    have b_r94 := ia_b r94
    have b_w41 := Int64.toInt_lt w41
    try have k_0 := ia_n (bt k4) (by first | decide | omega)
    try have k_1 := ia_n 0 (by first | decide | omega)
    try have k_2 := ia_n 1 (by first | decide | omega)
    try have k_3 := ia_n (nvn bt k4 (k39 - k4)) (by first | decide | omega)
    try have k_4 := ia_n (bt k39) (by first | decide | omega)
    try simp only [ia_lt, ia_le, ia_eq, ia_m1, ia_0, ia_1, ne_eq, true_and, and_true, false_and, and_false, or_false, false_or, or_true, true_or, not_true_eq_false, not_false_eq_true] at *
    all_goals omega
  have hk7 := (hTM k4 (by omega)).1
  have hk8 := ia_n (bt k4) (by omega)
  have q3 : cAl (bt k4) := by
    have h8 := (hTM k4 (by omega)).1
    have hb8 := ia_n (bt k4) (by omega)
    unfold cAl cLe cDi
    have kk0 := ia_n 0 (by decide)
    have kk1 := ia_n 1 (by decide)
    have b_ksign := ia_b ksign
    have b_y16 := ia_b y16
    have b_x38 := ia_b x38
    have b_x40 := ia_b x40
    have b_r49 := ia_b r49
    have b_r94 := ia_b r94
    have b_w41 := Int64.toInt_lt w41
    try have k_0 := ia_n (bt k4) (by first | decide | omega)
    try have k_1 := ia_n 0 (by first | decide | omega)
    try have k_2 := ia_n 1 (by first | decide | omega)
    try have k_3 := ia_n (nvn bt k4 (k39 - k4)) (by first | decide | omega)
    try have k_4 := ia_n (bt k39) (by first | decide | omega)
    try simp only [ia_lt, ia_le, ia_eq, ia_m1, ia_0, ia_1, ne_eq, true_and, and_true, false_and, and_false, or_false, false_or, or_true, true_or, not_true_eq_false, not_false_eq_true] at *
    all_goals omega
  have q4 : rn bt ksize k4 = k39 := by
    rw [jRn]
    refine rn_stop (fun h9 => ?_)
    obtain ⟨h8, h9⟩ := h9
    unfold cAl cLe cDi at h9
    have h7 := (hTM k39 (by omega)).1
    have hb8 := ia_n (bt k39) (by omega)
    have kk0 := ia_n 0 (by decide)
    have kk1 := ia_n 1 (by decide)
    have b_ksign := ia_b ksign
    have b_y16 := ia_b y16
    have b_x38 := ia_b x38
    have b_x40 := ia_b x40
    have b_r49 := ia_b r49
    have b_r94 := ia_b r94
    have b_w41 := Int64.toInt_lt w41
    try have k_0 := ia_n (bt k4) (by first | decide | omega)
    try have k_1 := ia_n 0 (by first | decide | omega)
    try have k_2 := ia_n 1 (by first | decide | omega)
    try have k_3 := ia_n (nvn bt k4 (k39 - k4)) (by first | decide | omega)
    try have k_4 := ia_n (bt k39) (by first | decide | omega)
    try simp only [ia_lt, ia_le, ia_eq, ia_m1, ia_0, ia_1, ne_eq, true_and, and_true, false_and, and_false, or_false, false_or, or_true, true_or, not_true_eq_false, not_false_eq_true] at *
    all_goals omega
  have h5 := dcn_le bt k4 (k39 - k4)
  have h6 := rn_gt q2 q3
  have q5 : ¬ (dcn bt k4 (k39 - k4) = 0 ∧ k39 - k4 ≤ 7) ∧ ¬ (dcn bt k4 (k39 - k4) = k39 - k4 ∧ k39 - k4 ≤ 3) := by
    have f9 := dcn_fst (bt := bt) (p := k4) (k := k39 - k4) (by omega)
    by_cases hd9 : cDi (bt k4)
    · have f8 := f9.1 hd9
      clear f9
      unfold cDi at hd9
      have kk0 := ia_n 0 (by decide)
      have kk1 := ia_n 1 (by decide)
      have b_ksign := ia_b ksign
      have b_y16 := ia_b y16
      have b_x38 := ia_b x38
      have b_x40 := ia_b x40
      have b_r49 := ia_b r49
      have b_r94 := ia_b r94
      have b_w41 := Int64.toInt_lt w41
      try have k_0 := ia_n (bt k4) (by first | decide | omega)
      try have k_1 := ia_n 0 (by first | decide | omega)
      try have k_2 := ia_n 1 (by first | decide | omega)
      try have k_3 := ia_n (nvn bt k4 (k39 - k4)) (by first | decide | omega)
      try have k_4 := ia_n (bt k39) (by first | decide | omega)
      try simp only [ia_lt, ia_le, ia_eq, ia_m1, ia_0, ia_1, ne_eq, true_and, and_true, false_and, and_false, or_false, false_or, or_true, true_or, not_true_eq_false, not_false_eq_true] at *
      all_goals omega
    · have f8 := f9.2 hd9
      clear f9
      unfold cDi at hd9
      have kk0 := ia_n 0 (by decide)
      have kk1 := ia_n 1 (by decide)
      have b_ksign := ia_b ksign
      have b_y16 := ia_b y16
      have b_x38 := ia_b x38
      have b_x40 := ia_b x40
      have b_r49 := ia_b r49
      have b_r94 := ia_b r94
      have b_w41 := Int64.toInt_lt w41
      try have k_0 := ia_n (bt k4) (by first | decide | omega)
      try have k_1 := ia_n 0 (by first | decide | omega)
      try have k_2 := ia_n 1 (by first | decide | omega)
      try have k_3 := ia_n (nvn bt k4 (k39 - k4)) (by first | decide | omega)
      try have k_4 := ia_n (bt k39) (by first | decide | omega)
      try simp only [ia_lt, ia_le, ia_eq, ia_m1, ia_0, ia_1, ne_eq, true_and, and_true, false_and, and_false, or_false, false_or, or_true, true_or, not_true_eq_false, not_false_eq_true] at *
      all_goals omega
  subst hgq
  exact MT_bad jQ q1 q2 q3 q4 q5.1 q5.2
set_option maxRecDepth 20000 in
theorem lf_g_go_28 (bt : Nat → Nat) (ksize : Nat) (klimit : Nat) (kto : Nat) (ktapeF : Nat → Int32) (gq : Nat) (k4 : Nat) (n8 : Nat) (y16 : Int32) (x38 : Int32) (k39 : Nat) (x40 : Int32) (w41 : Int64) (n46 : Nat) (r49 : Int32) (r94 : Int32) (iv_ko_1 : ksize ≤ 940) (iv_ko_2 : klimit ≤ 900) (iv_ko_3 : kto ≤ ksize) (hTM : TM bt ktapeF) (hgq : kto = gq) (j5 : k4 ≤ 940) (j6 : k4 ≤ ksize) (jSk : sk bt ksize kto = sk bt ksize k4) (hm10 : 940 - k4 < n8 + 1) (jQ : sk bt ksize kto = k4) (jM : ¬ (klimit < ksize ∧ klimit ≤ k4)) (c15 : k4 < ksize) (e17 : y16 = ktapeF k4) (t18 : bt k4 < 256) (t19 : y16 = nI (bt k4)) (t22 : 97 ≤ y16.toInt) (t23 : y16.toInt ≤ 122) (t28 : 97 ≤ y16.toInt) (t29 : y16.toInt ≤ 122) (j42 : x38 = nI 0 ∨ x38 = nI 1) (j43 : k39 ≤ 940) (j44 : k39 ≤ ksize) (jPl : k4 ≤ k39) (jRn : rn bt ksize k4 = rn bt ksize k39) (jG : (x38 = nI 1 ∧ dcn bt k4 (k39 - k4) = 0) ∨ (x38 = nI 0 ∧ dcn bt k4 (k39 - k4) ≠ 0)) (jN : ¬ (dcn bt k4 (k39 - k4) = (k39 - k4) ∧ (k39 - k4) ≤ 3) ∨ x40 = nI (nvn bt k4 (k39 - k4))) (jW : ¬ (dcn bt k4 (k39 - k4) = 0 ∧ (k39 - k4) ≤ 7) ∨ w41 = Int64.ofNat (c27 bt k4 (k39 - k4))) (jE : dcn bt k4 (k39 - k4) ≠ 0 ∨ LET bt k4 (k39 - k4)) (hm48 : 940 - k39 < n46 + 1) (p50 : (k39 < ksize ∧ r49 = nI (bt k39)) ∨ (¬ k39 < ksize ∧ r49 = nI 0)) (t55 : ¬ (97 ≤ r49.toInt ∧ r49.toInt ≤ 122)) (p95 : (k39 < ksize ∧ r94 = nI (bt k39)) ∨ (¬ k39 < ksize ∧ r94 = nI 0)) (t100 : ¬ (48 ≤ r94.toInt ∧ r94.toInt ≤ 57)) (c103 : ¬ x38 = 0) : k4 ≤ k39 := by
  have b_y16 := ia_b y16
  have b_x38 := ia_b x38
  have b_x40 := ia_b x40
  have b_r49 := ia_b r49
  have b_r94 := ia_b r94
  have b_w41 := Int64.toInt_lt w41
  try have k_0 := ia_n (bt k4) (by first | decide | omega)
  try have k_1 := ia_n 0 (by first | decide | omega)
  try have k_2 := ia_n 1 (by first | decide | omega)
  try have k_3 := ia_n (nvn bt k4 (k39 - k4)) (by first | decide | omega)
  try have k_4 := ia_n (bt k39) (by first | decide | omega)
  try simp only [ia_lt, ia_le, ia_eq, ia_m1, ia_0, ia_1, ne_eq, true_and, and_true, false_and, and_false, or_false, false_or, or_true, true_or, not_true_eq_false, not_false_eq_true] at *
  all_goals omega
set_option maxRecDepth 20000 in
theorem lf_g_go_29 (bt : Nat → Nat) (ksize : Nat) (klimit : Nat) (kto : Nat) (ksign : Int32) (ktapeF : Nat → Int32) (gq : Nat) (k4 : Nat) (n8 : Nat) (y16 : Int32) (x38 : Int32) (k39 : Nat) (x40 : Int32) (w41 : Int64) (n46 : Nat) (r49 : Int32) (r94 : Int32) (iv_ko_1 : ksize ≤ 940) (iv_ko_2 : klimit ≤ 900) (iv_ko_3 : kto ≤ ksize) (hTM : TM bt ktapeF) (hgq : kto = gq) (j5 : k4 ≤ 940) (j6 : k4 ≤ ksize) (jSk : sk bt ksize kto = sk bt ksize k4) (hm10 : 940 - k4 < n8 + 1) (jQ : sk bt ksize kto = k4) (jM : ¬ (klimit < ksize ∧ klimit ≤ k4)) (c15 : k4 < ksize) (e17 : y16 = ktapeF k4) (t18 : bt k4 < 256) (t19 : y16 = nI (bt k4)) (t22 : 97 ≤ y16.toInt) (t23 : y16.toInt ≤ 122) (t28 : 97 ≤ y16.toInt) (t29 : y16.toInt ≤ 122) (j42 : x38 = nI 0 ∨ x38 = nI 1) (j43 : k39 ≤ 940) (j44 : k39 ≤ ksize) (jPl : k4 ≤ k39) (jRn : rn bt ksize k4 = rn bt ksize k39) (jG : (x38 = nI 1 ∧ dcn bt k4 (k39 - k4) = 0) ∨ (x38 = nI 0 ∧ dcn bt k4 (k39 - k4) ≠ 0)) (jN : ¬ (dcn bt k4 (k39 - k4) = (k39 - k4) ∧ (k39 - k4) ≤ 3) ∨ x40 = nI (nvn bt k4 (k39 - k4))) (jW : ¬ (dcn bt k4 (k39 - k4) = 0 ∧ (k39 - k4) ≤ 7) ∨ w41 = Int64.ofNat (c27 bt k4 (k39 - k4))) (jE : dcn bt k4 (k39 - k4) ≠ 0 ∨ LET bt k4 (k39 - k4)) (hm48 : 940 - k39 < n46 + 1) (p50 : (k39 < ksize ∧ r49 = nI (bt k39)) ∨ (¬ k39 < ksize ∧ r49 = nI 0)) (t55 : ¬ (97 ≤ r49.toInt ∧ r49.toInt ≤ 122)) (p95 : (k39 < ksize ∧ r94 = nI (bt k39)) ∨ (¬ k39 < ksize ∧ r94 = nI 0)) (t100 : ¬ (48 ≤ r94.toInt ∧ r94.toInt ≤ 57)) (c103 : ¬ x38 = 0) (c105 : (k39 - k4) ≤ 7) : MT bt ksize klimit gq (nI 2) ksign k4 k39 x40 w41 := by
  have q1 := jM
  have q2 : k4 < ksize := by
    have kk0 := ia_n 0 (by decide)
    have kk1 := ia_n 1 (by decide)
    have b_ksign := ia_b ksign
    have b_y16 := ia_b y16
    have b_x38 := ia_b x38
    have b_x40 := ia_b x40
    have b_r49 := ia_b r49
    have b_r94 := ia_b r94
    have b_w41 := Int64.toInt_lt w41
    try have k_0 := ia_n (bt k4) (by first | decide | omega)
    try have k_1 := ia_n 0 (by first | decide | omega)
    try have k_2 := ia_n 1 (by first | decide | omega)
    try have k_3 := ia_n (nvn bt k4 (k39 - k4)) (by first | decide | omega)
    try have k_4 := ia_n (bt k39) (by first | decide | omega)
    try simp only [ia_lt, ia_le, ia_eq, ia_m1, ia_0, ia_1, ne_eq, true_and, and_true, false_and, and_false, or_false, false_or, or_true, true_or, not_true_eq_false, not_false_eq_true] at *
    all_goals omega
  have hk7 := (hTM k4 (by omega)).1
  have hk8 := ia_n (bt k4) (by omega)
  have q3 : cAl (bt k4) := by
    have h8 := (hTM k4 (by omega)).1
    have hb8 := ia_n (bt k4) (by omega)
    unfold cAl cLe cDi
    have kk0 := ia_n 0 (by decide)
    have kk1 := ia_n 1 (by decide)
    have b_ksign := ia_b ksign
    have b_y16 := ia_b y16
    have b_x38 := ia_b x38
    have b_x40 := ia_b x40
    have b_r49 := ia_b r49
    have b_r94 := ia_b r94
    have b_w41 := Int64.toInt_lt w41
    try have k_0 := ia_n (bt k4) (by first | decide | omega)
    try have k_1 := ia_n 0 (by first | decide | omega)
    try have k_2 := ia_n 1 (by first | decide | omega)
    try have k_3 := ia_n (nvn bt k4 (k39 - k4)) (by first | decide | omega)
    try have k_4 := ia_n (bt k39) (by first | decide | omega)
    try simp only [ia_lt, ia_le, ia_eq, ia_m1, ia_0, ia_1, ne_eq, true_and, and_true, false_and, and_false, or_false, false_or, or_true, true_or, not_true_eq_false, not_false_eq_true] at *
    all_goals omega
  have q4 : rn bt ksize k4 = k39 := by
    rw [jRn]
    refine rn_stop (fun h9 => ?_)
    obtain ⟨h8, h9⟩ := h9
    unfold cAl cLe cDi at h9
    have h7 := (hTM k39 (by omega)).1
    have hb8 := ia_n (bt k39) (by omega)
    have kk0 := ia_n 0 (by decide)
    have kk1 := ia_n 1 (by decide)
    have b_ksign := ia_b ksign
    have b_y16 := ia_b y16
    have b_x38 := ia_b x38
    have b_x40 := ia_b x40
    have b_r49 := ia_b r49
    have b_r94 := ia_b r94
    have b_w41 := Int64.toInt_lt w41
    try have k_0 := ia_n (bt k4) (by first | decide | omega)
    try have k_1 := ia_n 0 (by first | decide | omega)
    try have k_2 := ia_n 1 (by first | decide | omega)
    try have k_3 := ia_n (nvn bt k4 (k39 - k4)) (by first | decide | omega)
    try have k_4 := ia_n (bt k39) (by first | decide | omega)
    try simp only [ia_lt, ia_le, ia_eq, ia_m1, ia_0, ia_1, ne_eq, true_and, and_true, false_and, and_false, or_false, false_or, or_true, true_or, not_true_eq_false, not_false_eq_true] at *
    all_goals omega
  have h5 := dcn_le bt k4 (k39 - k4)
  have h6 := rn_gt q2 q3
  have q5 : dcn bt k4 (k39 - k4) = 0 ∧ k39 - k4 ≤ 7 := by
    have kk0 := ia_n 0 (by decide)
    have kk1 := ia_n 1 (by decide)
    have b_ksign := ia_b ksign
    have b_y16 := ia_b y16
    have b_x38 := ia_b x38
    have b_x40 := ia_b x40
    have b_r49 := ia_b r49
    have b_r94 := ia_b r94
    have b_w41 := Int64.toInt_lt w41
    try have k_0 := ia_n (bt k4) (by first | decide | omega)
    try have k_1 := ia_n 0 (by first | decide | omega)
    try have k_2 := ia_n 1 (by first | decide | omega)
    try have k_3 := ia_n (nvn bt k4 (k39 - k4)) (by first | decide | omega)
    try have k_4 := ia_n (bt k39) (by first | decide | omega)
    try simp only [ia_lt, ia_le, ia_eq, ia_m1, ia_0, ia_1, ne_eq, true_and, and_true, false_and, and_false, or_false, false_or, or_true, true_or, not_true_eq_false, not_false_eq_true] at *
    all_goals omega
  subst hgq
  exact MT_word jQ q1 q2 q3 q4 q5.1 q5.2 (by rw [cv_p8 (jE.resolve_left (fun h => h q5.1)) q5.2]; exact jW.resolve_left (fun h => h q5))
set_option maxRecDepth 20000 in
theorem lf_g_go_30 (bt : Nat → Nat) (ksize : Nat) (klimit : Nat) (kto : Nat) (ksign : Int32) (ktapeF : Nat → Int32) (gq : Nat) (k4 : Nat) (n8 : Nat) (y16 : Int32) (x38 : Int32) (k39 : Nat) (x40 : Int32) (w41 : Int64) (n46 : Nat) (r49 : Int32) (r94 : Int32) (iv_ko_1 : ksize ≤ 940) (iv_ko_2 : klimit ≤ 900) (iv_ko_3 : kto ≤ ksize) (hTM : TM bt ktapeF) (hgq : kto = gq) (j5 : k4 ≤ 940) (j6 : k4 ≤ ksize) (jSk : sk bt ksize kto = sk bt ksize k4) (hm10 : 940 - k4 < n8 + 1) (jQ : sk bt ksize kto = k4) (jM : ¬ (klimit < ksize ∧ klimit ≤ k4)) (c15 : k4 < ksize) (e17 : y16 = ktapeF k4) (t18 : bt k4 < 256) (t19 : y16 = nI (bt k4)) (t22 : 97 ≤ y16.toInt) (t23 : y16.toInt ≤ 122) (t28 : 97 ≤ y16.toInt) (t29 : y16.toInt ≤ 122) (j42 : x38 = nI 0 ∨ x38 = nI 1) (j43 : k39 ≤ 940) (j44 : k39 ≤ ksize) (jPl : k4 ≤ k39) (jRn : rn bt ksize k4 = rn bt ksize k39) (jG : (x38 = nI 1 ∧ dcn bt k4 (k39 - k4) = 0) ∨ (x38 = nI 0 ∧ dcn bt k4 (k39 - k4) ≠ 0)) (jN : ¬ (dcn bt k4 (k39 - k4) = (k39 - k4) ∧ (k39 - k4) ≤ 3) ∨ x40 = nI (nvn bt k4 (k39 - k4))) (jW : ¬ (dcn bt k4 (k39 - k4) = 0 ∧ (k39 - k4) ≤ 7) ∨ w41 = Int64.ofNat (c27 bt k4 (k39 - k4))) (jE : dcn bt k4 (k39 - k4) ≠ 0 ∨ LET bt k4 (k39 - k4)) (hm48 : 940 - k39 < n46 + 1) (p50 : (k39 < ksize ∧ r49 = nI (bt k39)) ∨ (¬ k39 < ksize ∧ r49 = nI 0)) (t55 : ¬ (97 ≤ r49.toInt ∧ r49.toInt ≤ 122)) (p95 : (k39 < ksize ∧ r94 = nI (bt k39)) ∨ (¬ k39 < ksize ∧ r94 = nI 0)) (t100 : ¬ (48 ≤ r94.toInt ∧ r94.toInt ≤ 57)) (c103 : ¬ x38 = 0) (c105 : 7 < (k39 - k4)) : MT bt ksize klimit gq (nI 1) ksign k4 k39 x40 w41 := by
  have q1 := jM
  have q2 : k4 < ksize := by
    have kk0 := ia_n 0 (by decide)
    have kk1 := ia_n 1 (by decide)
    have b_ksign := ia_b ksign
    have b_y16 := ia_b y16
    have b_x38 := ia_b x38
    have b_x40 := ia_b x40
    have b_r49 := ia_b r49
    have b_r94 := ia_b r94
    have b_w41 := Int64.toInt_lt w41
    try have k_0 := ia_n (bt k4) (by first | decide | omega)
    try have k_1 := ia_n 0 (by first | decide | omega)
    try have k_2 := ia_n 1 (by first | decide | omega)
    try have k_3 := ia_n (nvn bt k4 (k39 - k4)) (by first | decide | omega)
    try have k_4 := ia_n (bt k39) (by first | decide | omega)
    try simp only [ia_lt, ia_le, ia_eq, ia_m1, ia_0, ia_1, ne_eq, true_and, and_true, false_and, and_false, or_false, false_or, or_true, true_or, not_true_eq_false, not_false_eq_true] at *
    all_goals omega
  have hk7 := (hTM k4 (by omega)).1
  have hk8 := ia_n (bt k4) (by omega)
  have q3 : cAl (bt k4) := by
    have h8 := (hTM k4 (by omega)).1
    have hb8 := ia_n (bt k4) (by omega)
    unfold cAl cLe cDi
    have kk0 := ia_n 0 (by decide)
    have kk1 := ia_n 1 (by decide)
    have b_ksign := ia_b ksign
    have b_y16 := ia_b y16
    have b_x38 := ia_b x38
    have b_x40 := ia_b x40
    have b_r49 := ia_b r49
    have b_r94 := ia_b r94
    have b_w41 := Int64.toInt_lt w41
    try have k_0 := ia_n (bt k4) (by first | decide | omega)
    try have k_1 := ia_n 0 (by first | decide | omega)
    try have k_2 := ia_n 1 (by first | decide | omega)
    try have k_3 := ia_n (nvn bt k4 (k39 - k4)) (by first | decide | omega)
    try have k_4 := ia_n (bt k39) (by first | decide | omega)
    try simp only [ia_lt, ia_le, ia_eq, ia_m1, ia_0, ia_1, ne_eq, true_and, and_true, false_and, and_false, or_false, false_or, or_true, true_or, not_true_eq_false, not_false_eq_true] at *
    all_goals omega
  have q4 : rn bt ksize k4 = k39 := by
    rw [jRn]
    refine rn_stop (fun h9 => ?_)
    obtain ⟨h8, h9⟩ := h9
    unfold cAl cLe cDi at h9
    have h7 := (hTM k39 (by omega)).1
    have hb8 := ia_n (bt k39) (by omega)
    have kk0 := ia_n 0 (by decide)
    have kk1 := ia_n 1 (by decide)
    have b_ksign := ia_b ksign
    have b_y16 := ia_b y16
    have b_x38 := ia_b x38
    have b_x40 := ia_b x40
    have b_r49 := ia_b r49
    have b_r94 := ia_b r94
    have b_w41 := Int64.toInt_lt w41
    try have k_0 := ia_n (bt k4) (by first | decide | omega)
    try have k_1 := ia_n 0 (by first | decide | omega)
    try have k_2 := ia_n 1 (by first | decide | omega)
    try have k_3 := ia_n (nvn bt k4 (k39 - k4)) (by first | decide | omega)
    try have k_4 := ia_n (bt k39) (by first | decide | omega)
    try simp only [ia_lt, ia_le, ia_eq, ia_m1, ia_0, ia_1, ne_eq, true_and, and_true, false_and, and_false, or_false, false_or, or_true, true_or, not_true_eq_false, not_false_eq_true] at *
    all_goals omega
  have h5 := dcn_le bt k4 (k39 - k4)
  have h6 := rn_gt q2 q3
  have q5 : ¬ (dcn bt k4 (k39 - k4) = 0 ∧ k39 - k4 ≤ 7) ∧ ¬ (dcn bt k4 (k39 - k4) = k39 - k4 ∧ k39 - k4 ≤ 3) := by
    have f9 := dcn_fst (bt := bt) (p := k4) (k := k39 - k4) (by omega)
    by_cases hd9 : cDi (bt k4)
    · have f8 := f9.1 hd9
      clear f9
      unfold cDi at hd9
      have kk0 := ia_n 0 (by decide)
      have kk1 := ia_n 1 (by decide)
      have b_ksign := ia_b ksign
      have b_y16 := ia_b y16
      have b_x38 := ia_b x38
      have b_x40 := ia_b x40
      have b_r49 := ia_b r49
      have b_r94 := ia_b r94
      have b_w41 := Int64.toInt_lt w41
      try have k_0 := ia_n (bt k4) (by first | decide | omega)
      try have k_1 := ia_n 0 (by first | decide | omega)
      try have k_2 := ia_n 1 (by first | decide | omega)
      try have k_3 := ia_n (nvn bt k4 (k39 - k4)) (by first | decide | omega)
      try have k_4 := ia_n (bt k39) (by first | decide | omega)
      try simp only [ia_lt, ia_le, ia_eq, ia_m1, ia_0, ia_1, ne_eq, true_and, and_true, false_and, and_false, or_false, false_or, or_true, true_or, not_true_eq_false, not_false_eq_true] at *
      all_goals omega
    · have f8 := f9.2 hd9
      clear f9
      unfold cDi at hd9
      have kk0 := ia_n 0 (by decide)
      have kk1 := ia_n 1 (by decide)
      have b_ksign := ia_b ksign
      have b_y16 := ia_b y16
      have b_x38 := ia_b x38
      have b_x40 := ia_b x40
      have b_r49 := ia_b r49
      have b_r94 := ia_b r94
      have b_w41 := Int64.toInt_lt w41
      try have k_0 := ia_n (bt k4) (by first | decide | omega)
      try have k_1 := ia_n 0 (by first | decide | omega)
      try have k_2 := ia_n 1 (by first | decide | omega)
      try have k_3 := ia_n (nvn bt k4 (k39 - k4)) (by first | decide | omega)
      try have k_4 := ia_n (bt k39) (by first | decide | omega)
      try simp only [ia_lt, ia_le, ia_eq, ia_m1, ia_0, ia_1, ne_eq, true_and, and_true, false_and, and_false, or_false, false_or, or_true, true_or, not_true_eq_false, not_false_eq_true] at *
      all_goals omega
  subst hgq
  exact MT_bad jQ q1 q2 q3 q4 q5.1 q5.2
set_option maxRecDepth 20000 in
theorem lf_g_go_31   : (nI 1) = nI 0 ∨ (nI 1) = nI 1 := by
  try have k_0 := ia_n 1 (by first | decide | omega)
  try have k_1 := ia_n 0 (by first | decide | omega)
  try simp only [ia_lt, ia_le, ia_eq, ia_m1, ia_0, ia_1, ne_eq, true_and, and_true, false_and, and_false, or_false, false_or, or_true, true_or, not_true_eq_false, not_false_eq_true] at *
  all_goals omega
set_option maxRecDepth 20000 in
theorem lf_g_go_32 (bt : Nat → Nat) (ksize : Nat) (klimit : Nat) (kto : Nat) (ktapeF : Nat → Int32) (gq : Nat) (k4 : Nat) (n8 : Nat) (y16 : Int32) (iv_ko_1 : ksize ≤ 940) (iv_ko_2 : klimit ≤ 900) (iv_ko_3 : kto ≤ ksize) (hTM : TM bt ktapeF) (hgq : kto = gq) (j5 : k4 ≤ 940) (j6 : k4 ≤ ksize) (jSk : sk bt ksize kto = sk bt ksize k4) (hm10 : 940 - k4 < n8 + 1) (jQ : sk bt ksize kto = k4) (jM : ¬ (klimit < ksize ∧ klimit ≤ k4)) (c15 : k4 < ksize) (e17 : y16 = ktapeF k4) (t18 : bt k4 < 256) (t19 : y16 = nI (bt k4)) (t22 : 97 ≤ y16.toInt) (t23 : y16.toInt ≤ 122) (t28 : 97 ≤ y16.toInt) (t29 : y16.toInt ≤ 122) : k4 ≤ k4 := by
  have b_y16 := ia_b y16
  try have k_0 := ia_n (bt k4) (by first | decide | omega)
  try simp only [ia_lt, ia_le, ia_eq, ia_m1, ia_0, ia_1, ne_eq, true_and, and_true, false_and, and_false, or_false, false_or, or_true, true_or, not_true_eq_false, not_false_eq_true] at *
  all_goals omega
set_option maxRecDepth 20000 in
theorem lf_g_go_33 (bt : Nat → Nat) (ksize : Nat) (klimit : Nat) (kto : Nat) (ktapeF : Nat → Int32) (gq : Nat) (k4 : Nat) (n8 : Nat) (y16 : Int32) (iv_ko_1 : ksize ≤ 940) (iv_ko_2 : klimit ≤ 900) (iv_ko_3 : kto ≤ ksize) (hTM : TM bt ktapeF) (hgq : kto = gq) (j5 : k4 ≤ 940) (j6 : k4 ≤ ksize) (jSk : sk bt ksize kto = sk bt ksize k4) (hm10 : 940 - k4 < n8 + 1) (jQ : sk bt ksize kto = k4) (jM : ¬ (klimit < ksize ∧ klimit ≤ k4)) (c15 : k4 < ksize) (e17 : y16 = ktapeF k4) (t18 : bt k4 < 256) (t19 : y16 = nI (bt k4)) (t22 : 97 ≤ y16.toInt) (t23 : y16.toInt ≤ 122) (t28 : 97 ≤ y16.toInt) (t29 : y16.toInt ≤ 122) : rn bt ksize k4 = rn bt ksize k4 := by
  rfl
set_option maxRecDepth 20000 in
theorem lf_g_go_34 (bt : Nat → Nat) (ksize : Nat) (klimit : Nat) (kto : Nat) (ktapeF : Nat → Int32) (gq : Nat) (k4 : Nat) (n8 : Nat) (y16 : Int32) (iv_ko_1 : ksize ≤ 940) (iv_ko_2 : klimit ≤ 900) (iv_ko_3 : kto ≤ ksize) (hTM : TM bt ktapeF) (hgq : kto = gq) (j5 : k4 ≤ 940) (j6 : k4 ≤ ksize) (jSk : sk bt ksize kto = sk bt ksize k4) (hm10 : 940 - k4 < n8 + 1) (jQ : sk bt ksize kto = k4) (jM : ¬ (klimit < ksize ∧ klimit ≤ k4)) (c15 : k4 < ksize) (e17 : y16 = ktapeF k4) (t18 : bt k4 < 256) (t19 : y16 = nI (bt k4)) (t22 : 97 ≤ y16.toInt) (t23 : y16.toInt ≤ 122) (t28 : 97 ≤ y16.toInt) (t29 : y16.toInt ≤ 122) : ((nI 1) = nI 1 ∧ dcn bt k4 (k4 - k4) = 0) ∨ ((nI 1) = nI 0 ∧ dcn bt k4 (k4 - k4) ≠ 0) := by
  rw [Nat.sub_self]
  exact Or.inl ⟨rfl, rfl⟩
set_option maxRecDepth 20000 in
theorem lf_g_go_35 (bt : Nat → Nat) (ksize : Nat) (klimit : Nat) (kto : Nat) (ktapeF : Nat → Int32) (gq : Nat) (k4 : Nat) (n8 : Nat) (y16 : Int32) (iv_ko_1 : ksize ≤ 940) (iv_ko_2 : klimit ≤ 900) (iv_ko_3 : kto ≤ ksize) (hTM : TM bt ktapeF) (hgq : kto = gq) (j5 : k4 ≤ 940) (j6 : k4 ≤ ksize) (jSk : sk bt ksize kto = sk bt ksize k4) (hm10 : 940 - k4 < n8 + 1) (jQ : sk bt ksize kto = k4) (jM : ¬ (klimit < ksize ∧ klimit ≤ k4)) (c15 : k4 < ksize) (e17 : y16 = ktapeF k4) (t18 : bt k4 < 256) (t19 : y16 = nI (bt k4)) (t22 : 97 ≤ y16.toInt) (t23 : y16.toInt ≤ 122) (t28 : 97 ≤ y16.toInt) (t29 : y16.toInt ≤ 122) : ¬ (dcn bt k4 (k4 - k4) = (k4 - k4) ∧ (k4 - k4) ≤ 3) ∨ (nI 0) = nI (nvn bt k4 (k4 - k4)) := by
  rw [Nat.sub_self]
  exact Or.inr rfl
set_option maxRecDepth 20000 in
theorem lf_g_go_36 (bt : Nat → Nat) (ksize : Nat) (klimit : Nat) (kto : Nat) (ktapeF : Nat → Int32) (gq : Nat) (k4 : Nat) (n8 : Nat) (y16 : Int32) (iv_ko_1 : ksize ≤ 940) (iv_ko_2 : klimit ≤ 900) (iv_ko_3 : kto ≤ ksize) (hTM : TM bt ktapeF) (hgq : kto = gq) (j5 : k4 ≤ 940) (j6 : k4 ≤ ksize) (jSk : sk bt ksize kto = sk bt ksize k4) (hm10 : 940 - k4 < n8 + 1) (jQ : sk bt ksize kto = k4) (jM : ¬ (klimit < ksize ∧ klimit ≤ k4)) (c15 : k4 < ksize) (e17 : y16 = ktapeF k4) (t18 : bt k4 < 256) (t19 : y16 = nI (bt k4)) (t22 : 97 ≤ y16.toInt) (t23 : y16.toInt ≤ 122) (t28 : 97 ≤ y16.toInt) (t29 : y16.toInt ≤ 122) : ¬ (dcn bt k4 (k4 - k4) = 0 ∧ (k4 - k4) ≤ 7) ∨ 0 = Int64.ofNat (c27 bt k4 (k4 - k4)) := by
  rw [Nat.sub_self]
  exact Or.inr rfl
set_option maxRecDepth 20000 in
theorem lf_g_go_37 (bt : Nat → Nat) (ksize : Nat) (klimit : Nat) (kto : Nat) (ktapeF : Nat → Int32) (gq : Nat) (k4 : Nat) (n8 : Nat) (y16 : Int32) (iv_ko_1 : ksize ≤ 940) (iv_ko_2 : klimit ≤ 900) (iv_ko_3 : kto ≤ ksize) (hTM : TM bt ktapeF) (hgq : kto = gq) (j5 : k4 ≤ 940) (j6 : k4 ≤ ksize) (jSk : sk bt ksize kto = sk bt ksize k4) (hm10 : 940 - k4 < n8 + 1) (jQ : sk bt ksize kto = k4) (jM : ¬ (klimit < ksize ∧ klimit ≤ k4)) (c15 : k4 < ksize) (e17 : y16 = ktapeF k4) (t18 : bt k4 < 256) (t19 : y16 = nI (bt k4)) (t22 : 97 ≤ y16.toInt) (t23 : y16.toInt ≤ 122) (t28 : 97 ≤ y16.toInt) (t29 : y16.toInt ≤ 122) : dcn bt k4 (k4 - k4) ≠ 0 ∨ LET bt k4 (k4 - k4) := by
  rw [Nat.sub_self]
  exact Or.inr (fun j hj => absurd hj (Nat.not_lt_zero j))
set_option maxRecDepth 20000 in
theorem lf_g_go_38 (bt : Nat → Nat) (ksize : Nat) (klimit : Nat) (kto : Nat) (ktapeF : Nat → Int32) (gq : Nat) (k4 : Nat) (n8 : Nat) (y16 : Int32) (x126 : Int32) (k127 : Nat) (x128 : Int32) (w129 : Int64) (n134 : Nat) (r137 : Int32) (y145 : Int32) (iv_ko_1 : ksize ≤ 940) (iv_ko_2 : klimit ≤ 900) (iv_ko_3 : kto ≤ ksize) (hTM : TM bt ktapeF) (hgq : kto = gq) (j5 : k4 ≤ 940) (j6 : k4 ≤ ksize) (jSk : sk bt ksize kto = sk bt ksize k4) (hm10 : 940 - k4 < n8 + 1) (jQ : sk bt ksize kto = k4) (jM : ¬ (klimit < ksize ∧ klimit ≤ k4)) (c15 : k4 < ksize) (e17 : y16 = ktapeF k4) (t18 : bt k4 < 256) (t19 : y16 = nI (bt k4)) (t24 : ¬ (97 ≤ y16.toInt ∧ y16.toInt ≤ 122)) (t110 : 48 ≤ y16.toInt) (t111 : y16.toInt ≤ 57) (t118 : ¬ (97 ≤ y16.toInt ∧ y16.toInt ≤ 122)) (j130 : x126 = nI 0 ∨ x126 = nI 1) (j131 : k127 ≤ 940) (j132 : k127 ≤ ksize) (jPl : k4 ≤ k127) (jRn : rn bt ksize k4 = rn bt ksize k127) (jG : (x126 = nI 1 ∧ dcn bt k4 (k127 - k4) = (k127 - k4)) ∨ (x126 = nI 0 ∧ dcn bt k4 (k127 - k4) ≠ (k127 - k4))) (jN : ¬ (dcn bt k4 (k127 - k4) = (k127 - k4) ∧ (k127 - k4) ≤ 3) ∨ x128 = nI (nvn bt k4 (k127 - k4))) (jW : ¬ (dcn bt k4 (k127 - k4) = 0 ∧ (k127 - k4) ≤ 7) ∨ w129 = Int64.ofNat (c27 bt k4 (k127 - k4))) (jE : dcn bt k4 (k127 - k4) ≠ 0 ∨ LET bt k4 (k127 - k4)) (hm136 : 940 - k127 < n134 + 1) (p138 : (k127 < ksize ∧ r137 = nI (bt k127)) ∨ (¬ k127 < ksize ∧ r137 = nI 0)) (jKs : k127 < ksize) (jAl : cAl (bt k127)) (e146 : y145 = ktapeF k127) : k127 < 940 := by
  have b_y16 := ia_b y16
  have b_x126 := ia_b x126
  have b_x128 := ia_b x128
  have b_r137 := ia_b r137
  have b_y145 := ia_b y145
  have b_w129 := Int64.toInt_lt w129
  try have k_0 := ia_n (bt k4) (by first | decide | omega)
  try have k_1 := ia_n 0 (by first | decide | omega)
  try have k_2 := ia_n 1 (by first | decide | omega)
  try have k_3 := ia_n (nvn bt k4 (k127 - k4)) (by first | decide | omega)
  try have k_4 := ia_n (bt k127) (by first | decide | omega)
  try simp only [ia_lt, ia_le, ia_eq, ia_m1, ia_0, ia_1, ne_eq, true_and, and_true, false_and, and_false, or_false, false_or, or_true, true_or, not_true_eq_false, not_false_eq_true] at *
  all_goals omega
set_option maxRecDepth 20000 in
theorem lf_g_go_39 (bt : Nat → Nat) (ksize : Nat) (klimit : Nat) (kto : Nat) (ktapeF : Nat → Int32) (gq : Nat) (k4 : Nat) (n8 : Nat) (y16 : Int32) (x126 : Int32) (k127 : Nat) (x128 : Int32) (w129 : Int64) (n134 : Nat) (r137 : Int32) (y145 : Int32) (iv_ko_1 : ksize ≤ 940) (iv_ko_2 : klimit ≤ 900) (iv_ko_3 : kto ≤ ksize) (hTM : TM bt ktapeF) (hgq : kto = gq) (j5 : k4 ≤ 940) (j6 : k4 ≤ ksize) (jSk : sk bt ksize kto = sk bt ksize k4) (hm10 : 940 - k4 < n8 + 1) (jQ : sk bt ksize kto = k4) (jM : ¬ (klimit < ksize ∧ klimit ≤ k4)) (c15 : k4 < ksize) (e17 : y16 = ktapeF k4) (t18 : bt k4 < 256) (t19 : y16 = nI (bt k4)) (t24 : ¬ (97 ≤ y16.toInt ∧ y16.toInt ≤ 122)) (t110 : 48 ≤ y16.toInt) (t111 : y16.toInt ≤ 57) (t118 : ¬ (97 ≤ y16.toInt ∧ y16.toInt ≤ 122)) (j130 : x126 = nI 0 ∨ x126 = nI 1) (j131 : k127 ≤ 940) (j132 : k127 ≤ ksize) (jPl : k4 ≤ k127) (jRn : rn bt ksize k4 = rn bt ksize k127) (jG : (x126 = nI 1 ∧ dcn bt k4 (k127 - k4) = (k127 - k4)) ∨ (x126 = nI 0 ∧ dcn bt k4 (k127 - k4) ≠ (k127 - k4))) (jN : ¬ (dcn bt k4 (k127 - k4) = (k127 - k4) ∧ (k127 - k4) ≤ 3) ∨ x128 = nI (nvn bt k4 (k127 - k4))) (jW : ¬ (dcn bt k4 (k127 - k4) = 0 ∧ (k127 - k4) ≤ 7) ∨ w129 = Int64.ofNat (c27 bt k4 (k127 - k4))) (jE : dcn bt k4 (k127 - k4) ≠ 0 ∨ LET bt k4 (k127 - k4)) (hm136 : 940 - k127 < n134 + 1) (p138 : (k127 < ksize ∧ r137 = nI (bt k127)) ∨ (¬ k127 < ksize ∧ r137 = nI 0)) (jKs : k127 < ksize) (jAl : cAl (bt k127)) (e146 : y145 = ktapeF k127) : k127 < 940 := by
  have b_y16 := ia_b y16
  have b_x126 := ia_b x126
  have b_x128 := ia_b x128
  have b_r137 := ia_b r137
  have b_y145 := ia_b y145
  have b_w129 := Int64.toInt_lt w129
  try have k_0 := ia_n (bt k4) (by first | decide | omega)
  try have k_1 := ia_n 0 (by first | decide | omega)
  try have k_2 := ia_n 1 (by first | decide | omega)
  try have k_3 := ia_n (nvn bt k4 (k127 - k4)) (by first | decide | omega)
  try have k_4 := ia_n (bt k127) (by first | decide | omega)
  try simp only [ia_lt, ia_le, ia_eq, ia_m1, ia_0, ia_1, ne_eq, true_and, and_true, false_and, and_false, or_false, false_or, or_true, true_or, not_true_eq_false, not_false_eq_true] at *
  all_goals omega
set_option maxRecDepth 20000 in
theorem lf_g_go_40 (bt : Nat → Nat) (ksize : Nat) (klimit : Nat) (kto : Nat) (ktapeF : Nat → Int32) (gq : Nat) (k4 : Nat) (n8 : Nat) (y16 : Int32) (x126 : Int32) (k127 : Nat) (x128 : Int32) (w129 : Int64) (n134 : Nat) (r137 : Int32) (y145 : Int32) (x150 : Int32) (iv_ko_1 : ksize ≤ 940) (iv_ko_2 : klimit ≤ 900) (iv_ko_3 : kto ≤ ksize) (hTM : TM bt ktapeF) (hgq : kto = gq) (j5 : k4 ≤ 940) (j6 : k4 ≤ ksize) (jSk : sk bt ksize kto = sk bt ksize k4) (hm10 : 940 - k4 < n8 + 1) (jQ : sk bt ksize kto = k4) (jM : ¬ (klimit < ksize ∧ klimit ≤ k4)) (c15 : k4 < ksize) (e17 : y16 = ktapeF k4) (t18 : bt k4 < 256) (t19 : y16 = nI (bt k4)) (t24 : ¬ (97 ≤ y16.toInt ∧ y16.toInt ≤ 122)) (t110 : 48 ≤ y16.toInt) (t111 : y16.toInt ≤ 57) (t118 : ¬ (97 ≤ y16.toInt ∧ y16.toInt ≤ 122)) (j130 : x126 = nI 0 ∨ x126 = nI 1) (j131 : k127 ≤ 940) (j132 : k127 ≤ ksize) (jPl : k4 ≤ k127) (jRn : rn bt ksize k4 = rn bt ksize k127) (jG : (x126 = nI 1 ∧ dcn bt k4 (k127 - k4) = (k127 - k4)) ∨ (x126 = nI 0 ∧ dcn bt k4 (k127 - k4) ≠ (k127 - k4))) (jN : ¬ (dcn bt k4 (k127 - k4) = (k127 - k4) ∧ (k127 - k4) ≤ 3) ∨ x128 = nI (nvn bt k4 (k127 - k4))) (jW : ¬ (dcn bt k4 (k127 - k4) = 0 ∧ (k127 - k4) ≤ 7) ∨ w129 = Int64.ofNat (c27 bt k4 (k127 - k4))) (jE : dcn bt k4 (k127 - k4) ≠ 0 ∨ LET bt k4 (k127 - k4)) (hm136 : 940 - k127 < n134 + 1) (p138 : (k127 < ksize ∧ r137 = nI (bt k127)) ∨ (¬ k127 < ksize ∧ r137 = nI 0)) (jKs : k127 < ksize) (jAl : cAl (bt k127)) (e146 : y145 = ktapeF k127) (t147 : bt k127 < 256) (t148 : y145 = nI (bt k127)) (j151 : x150 = nI 0 ∨ x150 = nI 1) (jG1 : (x150 = nI 1 ∧ dcn bt k4 ((k127 + 1) - k4) = ((k127 + 1) - k4)) ∨ (x150 = nI 0 ∧ dcn bt k4 ((k127 + 1) - k4) ≠ ((k127 + 1) - k4))) : k4 ≤ k127 := by
  have b_y16 := ia_b y16
  have b_x126 := ia_b x126
  have b_x128 := ia_b x128
  have b_r137 := ia_b r137
  have b_y145 := ia_b y145
  have b_x150 := ia_b x150
  have b_w129 := Int64.toInt_lt w129
  try have k_0 := ia_n (bt k4) (by first | decide | omega)
  try have k_1 := ia_n 0 (by first | decide | omega)
  try have k_2 := ia_n 1 (by first | decide | omega)
  try have k_3 := ia_n (nvn bt k4 (k127 - k4)) (by first | decide | omega)
  try have k_4 := ia_n (bt k127) (by first | decide | omega)
  try simp only [ia_lt, ia_le, ia_eq, ia_m1, ia_0, ia_1, ne_eq, true_and, and_true, false_and, and_false, or_false, false_or, or_true, true_or, not_true_eq_false, not_false_eq_true] at *
  all_goals omega
set_option maxRecDepth 20000 in
theorem lf_g_go_41 (bt : Nat → Nat) (ksize : Nat) (klimit : Nat) (kto : Nat) (ktapeF : Nat → Int32) (gq : Nat) (k4 : Nat) (n8 : Nat) (y16 : Int32) (x126 : Int32) (k127 : Nat) (x128 : Int32) (w129 : Int64) (n134 : Nat) (r137 : Int32) (y145 : Int32) (x150 : Int32) (w154 : Int64) (iv_ko_1 : ksize ≤ 940) (iv_ko_2 : klimit ≤ 900) (iv_ko_3 : kto ≤ ksize) (hTM : TM bt ktapeF) (hgq : kto = gq) (j5 : k4 ≤ 940) (j6 : k4 ≤ ksize) (jSk : sk bt ksize kto = sk bt ksize k4) (hm10 : 940 - k4 < n8 + 1) (jQ : sk bt ksize kto = k4) (jM : ¬ (klimit < ksize ∧ klimit ≤ k4)) (c15 : k4 < ksize) (e17 : y16 = ktapeF k4) (t18 : bt k4 < 256) (t19 : y16 = nI (bt k4)) (t24 : ¬ (97 ≤ y16.toInt ∧ y16.toInt ≤ 122)) (t110 : 48 ≤ y16.toInt) (t111 : y16.toInt ≤ 57) (t118 : ¬ (97 ≤ y16.toInt ∧ y16.toInt ≤ 122)) (j130 : x126 = nI 0 ∨ x126 = nI 1) (j131 : k127 ≤ 940) (j132 : k127 ≤ ksize) (jPl : k4 ≤ k127) (jRn : rn bt ksize k4 = rn bt ksize k127) (jG : (x126 = nI 1 ∧ dcn bt k4 (k127 - k4) = (k127 - k4)) ∨ (x126 = nI 0 ∧ dcn bt k4 (k127 - k4) ≠ (k127 - k4))) (jN : ¬ (dcn bt k4 (k127 - k4) = (k127 - k4) ∧ (k127 - k4) ≤ 3) ∨ x128 = nI (nvn bt k4 (k127 - k4))) (jW : ¬ (dcn bt k4 (k127 - k4) = 0 ∧ (k127 - k4) ≤ 7) ∨ w129 = Int64.ofNat (c27 bt k4 (k127 - k4))) (jE : dcn bt k4 (k127 - k4) ≠ 0 ∨ LET bt k4 (k127 - k4)) (hm136 : 940 - k127 < n134 + 1) (p138 : (k127 < ksize ∧ r137 = nI (bt k127)) ∨ (¬ k127 < ksize ∧ r137 = nI 0)) (jKs : k127 < ksize) (jAl : cAl (bt k127)) (e146 : y145 = ktapeF k127) (t147 : bt k127 < 256) (t148 : y145 = nI (bt k127)) (j151 : x150 = nI 0 ∨ x150 = nI 1) (jG1 : (x150 = nI 1 ∧ dcn bt k4 ((k127 + 1) - k4) = ((k127 + 1) - k4)) ∨ (x150 = nI 0 ∧ dcn bt k4 ((k127 + 1) - k4) ≠ ((k127 + 1) - k4))) (jW1 : ¬ (dcn bt k4 ((k127 + 1) - k4) = 0 ∧ ((k127 + 1) - k4) ≤ 7) ∨ w154 = Int64.ofNat (c27 bt k4 ((k127 + 1) - k4))) : k4 ≤ k127 := by
  have b_y16 := ia_b y16
  have b_x126 := ia_b x126
  have b_x128 := ia_b x128
  have b_r137 := ia_b r137
  have b_y145 := ia_b y145
  have b_x150 := ia_b x150
  have b_w129 := Int64.toInt_lt w129
  have b_w154 := Int64.toInt_lt w154
  try have k_0 := ia_n (bt k4) (by first | decide | omega)
  try have k_1 := ia_n 0 (by first | decide | omega)
  try have k_2 := ia_n 1 (by first | decide | omega)
  try have k_3 := ia_n (nvn bt k4 (k127 - k4)) (by first | decide | omega)
  try have k_4 := ia_n (bt k127) (by first | decide | omega)
  try simp only [ia_lt, ia_le, ia_eq, ia_m1, ia_0, ia_1, ne_eq, true_and, and_true, false_and, and_false, or_false, false_or, or_true, true_or, not_true_eq_false, not_false_eq_true] at *
  all_goals omega
set_option maxRecDepth 20000 in
theorem lf_g_go_42 (bt : Nat → Nat) (ksize : Nat) (klimit : Nat) (kto : Nat) (ktapeF : Nat → Int32) (gq : Nat) (k4 : Nat) (n8 : Nat) (y16 : Int32) (x126 : Int32) (k127 : Nat) (x128 : Int32) (w129 : Int64) (n134 : Nat) (r137 : Int32) (y145 : Int32) (x150 : Int32) (w154 : Int64) (x157 : Int32) (iv_ko_1 : ksize ≤ 940) (iv_ko_2 : klimit ≤ 900) (iv_ko_3 : kto ≤ ksize) (hTM : TM bt ktapeF) (hgq : kto = gq) (j5 : k4 ≤ 940) (j6 : k4 ≤ ksize) (jSk : sk bt ksize kto = sk bt ksize k4) (hm10 : 940 - k4 < n8 + 1) (jQ : sk bt ksize kto = k4) (jM : ¬ (klimit < ksize ∧ klimit ≤ k4)) (c15 : k4 < ksize) (e17 : y16 = ktapeF k4) (t18 : bt k4 < 256) (t19 : y16 = nI (bt k4)) (t24 : ¬ (97 ≤ y16.toInt ∧ y16.toInt ≤ 122)) (t110 : 48 ≤ y16.toInt) (t111 : y16.toInt ≤ 57) (t118 : ¬ (97 ≤ y16.toInt ∧ y16.toInt ≤ 122)) (j130 : x126 = nI 0 ∨ x126 = nI 1) (j131 : k127 ≤ 940) (j132 : k127 ≤ ksize) (jPl : k4 ≤ k127) (jRn : rn bt ksize k4 = rn bt ksize k127) (jG : (x126 = nI 1 ∧ dcn bt k4 (k127 - k4) = (k127 - k4)) ∨ (x126 = nI 0 ∧ dcn bt k4 (k127 - k4) ≠ (k127 - k4))) (jN : ¬ (dcn bt k4 (k127 - k4) = (k127 - k4) ∧ (k127 - k4) ≤ 3) ∨ x128 = nI (nvn bt k4 (k127 - k4))) (jW : ¬ (dcn bt k4 (k127 - k4) = 0 ∧ (k127 - k4) ≤ 7) ∨ w129 = Int64.ofNat (c27 bt k4 (k127 - k4))) (jE : dcn bt k4 (k127 - k4) ≠ 0 ∨ LET bt k4 (k127 - k4)) (hm136 : 940 - k127 < n134 + 1) (p138 : (k127 < ksize ∧ r137 = nI (bt k127)) ∨ (¬ k127 < ksize ∧ r137 = nI 0)) (jKs : k127 < ksize) (jAl : cAl (bt k127)) (e146 : y145 = ktapeF k127) (t147 : bt k127 < 256) (t148 : y145 = nI (bt k127)) (j151 : x150 = nI 0 ∨ x150 = nI 1) (jG1 : (x150 = nI 1 ∧ dcn bt k4 ((k127 + 1) - k4) = ((k127 + 1) - k4)) ∨ (x150 = nI 0 ∧ dcn bt k4 ((k127 + 1) - k4) ≠ ((k127 + 1) - k4))) (jW1 : ¬ (dcn bt k4 ((k127 + 1) - k4) = 0 ∧ ((k127 + 1) - k4) ≤ 7) ∨ w154 = Int64.ofNat (c27 bt k4 ((k127 + 1) - k4))) (jN1 : ¬ (dcn bt k4 ((k127 + 1) - k4) = ((k127 + 1) - k4) ∧ ((k127 + 1) - k4) ≤ 3) ∨ x157 = nI (nvn bt k4 ((k127 + 1) - k4))) : (k127 + 1) ≤ 940 := by
  have b_y16 := ia_b y16
  have b_x126 := ia_b x126
  have b_x128 := ia_b x128
  have b_r137 := ia_b r137
  have b_y145 := ia_b y145
  have b_x150 := ia_b x150
  have b_x157 := ia_b x157
  have b_w129 := Int64.toInt_lt w129
  have b_w154 := Int64.toInt_lt w154
  try have k_0 := ia_n (bt k4) (by first | decide | omega)
  try have k_1 := ia_n 0 (by first | decide | omega)
  try have k_2 := ia_n 1 (by first | decide | omega)
  try have k_3 := ia_n (nvn bt k4 (k127 - k4)) (by first | decide | omega)
  try have k_4 := ia_n (bt k127) (by first | decide | omega)
  try have k_5 := ia_n (nvn bt k4 ((k127 + 1) - k4)) (by first | decide | omega)
  try simp only [ia_lt, ia_le, ia_eq, ia_m1, ia_0, ia_1, ne_eq, true_and, and_true, false_and, and_false, or_false, false_or, or_true, true_or, not_true_eq_false, not_false_eq_true] at *
  all_goals omega
set_option maxRecDepth 20000 in
theorem lf_g_go_43 (bt : Nat → Nat) (ksize : Nat) (klimit : Nat) (kto : Nat) (ktapeF : Nat → Int32) (gq : Nat) (k4 : Nat) (n8 : Nat) (y16 : Int32) (x126 : Int32) (k127 : Nat) (x128 : Int32) (w129 : Int64) (n134 : Nat) (r137 : Int32) (y145 : Int32) (x150 : Int32) (w154 : Int64) (x157 : Int32) (iv_ko_1 : ksize ≤ 940) (iv_ko_2 : klimit ≤ 900) (iv_ko_3 : kto ≤ ksize) (hTM : TM bt ktapeF) (hgq : kto = gq) (j5 : k4 ≤ 940) (j6 : k4 ≤ ksize) (jSk : sk bt ksize kto = sk bt ksize k4) (hm10 : 940 - k4 < n8 + 1) (jQ : sk bt ksize kto = k4) (jM : ¬ (klimit < ksize ∧ klimit ≤ k4)) (c15 : k4 < ksize) (e17 : y16 = ktapeF k4) (t18 : bt k4 < 256) (t19 : y16 = nI (bt k4)) (t24 : ¬ (97 ≤ y16.toInt ∧ y16.toInt ≤ 122)) (t110 : 48 ≤ y16.toInt) (t111 : y16.toInt ≤ 57) (t118 : ¬ (97 ≤ y16.toInt ∧ y16.toInt ≤ 122)) (j130 : x126 = nI 0 ∨ x126 = nI 1) (j131 : k127 ≤ 940) (j132 : k127 ≤ ksize) (jPl : k4 ≤ k127) (jRn : rn bt ksize k4 = rn bt ksize k127) (jG : (x126 = nI 1 ∧ dcn bt k4 (k127 - k4) = (k127 - k4)) ∨ (x126 = nI 0 ∧ dcn bt k4 (k127 - k4) ≠ (k127 - k4))) (jN : ¬ (dcn bt k4 (k127 - k4) = (k127 - k4) ∧ (k127 - k4) ≤ 3) ∨ x128 = nI (nvn bt k4 (k127 - k4))) (jW : ¬ (dcn bt k4 (k127 - k4) = 0 ∧ (k127 - k4) ≤ 7) ∨ w129 = Int64.ofNat (c27 bt k4 (k127 - k4))) (jE : dcn bt k4 (k127 - k4) ≠ 0 ∨ LET bt k4 (k127 - k4)) (hm136 : 940 - k127 < n134 + 1) (p138 : (k127 < ksize ∧ r137 = nI (bt k127)) ∨ (¬ k127 < ksize ∧ r137 = nI 0)) (jKs : k127 < ksize) (jAl : cAl (bt k127)) (e146 : y145 = ktapeF k127) (t147 : bt k127 < 256) (t148 : y145 = nI (bt k127)) (j151 : x150 = nI 0 ∨ x150 = nI 1) (jG1 : (x150 = nI 1 ∧ dcn bt k4 ((k127 + 1) - k4) = ((k127 + 1) - k4)) ∨ (x150 = nI 0 ∧ dcn bt k4 ((k127 + 1) - k4) ≠ ((k127 + 1) - k4))) (jW1 : ¬ (dcn bt k4 ((k127 + 1) - k4) = 0 ∧ ((k127 + 1) - k4) ≤ 7) ∨ w154 = Int64.ofNat (c27 bt k4 ((k127 + 1) - k4))) (jN1 : ¬ (dcn bt k4 ((k127 + 1) - k4) = ((k127 + 1) - k4) ∧ ((k127 + 1) - k4) ≤ 3) ∨ x157 = nI (nvn bt k4 ((k127 + 1) - k4))) : (k127 + 1) ≤ ksize := by
  have b_y16 := ia_b y16
  have b_x126 := ia_b x126
  have b_x128 := ia_b x128
  have b_r137 := ia_b r137
  have b_y145 := ia_b y145
  have b_x150 := ia_b x150
  have b_x157 := ia_b x157
  have b_w129 := Int64.toInt_lt w129
  have b_w154 := Int64.toInt_lt w154
  try have k_0 := ia_n (bt k4) (by first | decide | omega)
  try have k_1 := ia_n 0 (by first | decide | omega)
  try have k_2 := ia_n 1 (by first | decide | omega)
  try have k_3 := ia_n (nvn bt k4 (k127 - k4)) (by first | decide | omega)
  try have k_4 := ia_n (bt k127) (by first | decide | omega)
  try have k_5 := ia_n (nvn bt k4 ((k127 + 1) - k4)) (by first | decide | omega)
  try simp only [ia_lt, ia_le, ia_eq, ia_m1, ia_0, ia_1, ne_eq, true_and, and_true, false_and, and_false, or_false, false_or, or_true, true_or, not_true_eq_false, not_false_eq_true] at *
  all_goals omega
set_option maxRecDepth 20000 in
theorem lf_g_go_44 (bt : Nat → Nat) (ksize : Nat) (klimit : Nat) (kto : Nat) (ktapeF : Nat → Int32) (gq : Nat) (k4 : Nat) (n8 : Nat) (y16 : Int32) (x126 : Int32) (k127 : Nat) (x128 : Int32) (w129 : Int64) (n134 : Nat) (r137 : Int32) (y145 : Int32) (x150 : Int32) (w154 : Int64) (x157 : Int32) (iv_ko_1 : ksize ≤ 940) (iv_ko_2 : klimit ≤ 900) (iv_ko_3 : kto ≤ ksize) (hTM : TM bt ktapeF) (hgq : kto = gq) (j5 : k4 ≤ 940) (j6 : k4 ≤ ksize) (jSk : sk bt ksize kto = sk bt ksize k4) (hm10 : 940 - k4 < n8 + 1) (jQ : sk bt ksize kto = k4) (jM : ¬ (klimit < ksize ∧ klimit ≤ k4)) (c15 : k4 < ksize) (e17 : y16 = ktapeF k4) (t18 : bt k4 < 256) (t19 : y16 = nI (bt k4)) (t24 : ¬ (97 ≤ y16.toInt ∧ y16.toInt ≤ 122)) (t110 : 48 ≤ y16.toInt) (t111 : y16.toInt ≤ 57) (t118 : ¬ (97 ≤ y16.toInt ∧ y16.toInt ≤ 122)) (j130 : x126 = nI 0 ∨ x126 = nI 1) (j131 : k127 ≤ 940) (j132 : k127 ≤ ksize) (jPl : k4 ≤ k127) (jRn : rn bt ksize k4 = rn bt ksize k127) (jG : (x126 = nI 1 ∧ dcn bt k4 (k127 - k4) = (k127 - k4)) ∨ (x126 = nI 0 ∧ dcn bt k4 (k127 - k4) ≠ (k127 - k4))) (jN : ¬ (dcn bt k4 (k127 - k4) = (k127 - k4) ∧ (k127 - k4) ≤ 3) ∨ x128 = nI (nvn bt k4 (k127 - k4))) (jW : ¬ (dcn bt k4 (k127 - k4) = 0 ∧ (k127 - k4) ≤ 7) ∨ w129 = Int64.ofNat (c27 bt k4 (k127 - k4))) (jE : dcn bt k4 (k127 - k4) ≠ 0 ∨ LET bt k4 (k127 - k4)) (hm136 : 940 - k127 < n134 + 1) (p138 : (k127 < ksize ∧ r137 = nI (bt k127)) ∨ (¬ k127 < ksize ∧ r137 = nI 0)) (jKs : k127 < ksize) (jAl : cAl (bt k127)) (e146 : y145 = ktapeF k127) (t147 : bt k127 < 256) (t148 : y145 = nI (bt k127)) (j151 : x150 = nI 0 ∨ x150 = nI 1) (jG1 : (x150 = nI 1 ∧ dcn bt k4 ((k127 + 1) - k4) = ((k127 + 1) - k4)) ∨ (x150 = nI 0 ∧ dcn bt k4 ((k127 + 1) - k4) ≠ ((k127 + 1) - k4))) (jW1 : ¬ (dcn bt k4 ((k127 + 1) - k4) = 0 ∧ ((k127 + 1) - k4) ≤ 7) ∨ w154 = Int64.ofNat (c27 bt k4 ((k127 + 1) - k4))) (jN1 : ¬ (dcn bt k4 ((k127 + 1) - k4) = ((k127 + 1) - k4) ∧ ((k127 + 1) - k4) ≤ 3) ∨ x157 = nI (nvn bt k4 ((k127 + 1) - k4))) : k4 ≤ (k127 + 1) := by
  have b_y16 := ia_b y16
  have b_x126 := ia_b x126
  have b_x128 := ia_b x128
  have b_r137 := ia_b r137
  have b_y145 := ia_b y145
  have b_x150 := ia_b x150
  have b_x157 := ia_b x157
  have b_w129 := Int64.toInt_lt w129
  have b_w154 := Int64.toInt_lt w154
  try have k_0 := ia_n (bt k4) (by first | decide | omega)
  try have k_1 := ia_n 0 (by first | decide | omega)
  try have k_2 := ia_n 1 (by first | decide | omega)
  try have k_3 := ia_n (nvn bt k4 (k127 - k4)) (by first | decide | omega)
  try have k_4 := ia_n (bt k127) (by first | decide | omega)
  try have k_5 := ia_n (nvn bt k4 ((k127 + 1) - k4)) (by first | decide | omega)
  try simp only [ia_lt, ia_le, ia_eq, ia_m1, ia_0, ia_1, ne_eq, true_and, and_true, false_and, and_false, or_false, false_or, or_true, true_or, not_true_eq_false, not_false_eq_true] at *
  all_goals omega
set_option maxRecDepth 20000 in
theorem lf_g_go_45 (bt : Nat → Nat) (ksize : Nat) (klimit : Nat) (kto : Nat) (ktapeF : Nat → Int32) (gq : Nat) (k4 : Nat) (n8 : Nat) (y16 : Int32) (x126 : Int32) (k127 : Nat) (x128 : Int32) (w129 : Int64) (n134 : Nat) (r137 : Int32) (y145 : Int32) (x150 : Int32) (w154 : Int64) (x157 : Int32) (iv_ko_1 : ksize ≤ 940) (iv_ko_2 : klimit ≤ 900) (iv_ko_3 : kto ≤ ksize) (hTM : TM bt ktapeF) (hgq : kto = gq) (j5 : k4 ≤ 940) (j6 : k4 ≤ ksize) (jSk : sk bt ksize kto = sk bt ksize k4) (hm10 : 940 - k4 < n8 + 1) (jQ : sk bt ksize kto = k4) (jM : ¬ (klimit < ksize ∧ klimit ≤ k4)) (c15 : k4 < ksize) (e17 : y16 = ktapeF k4) (t18 : bt k4 < 256) (t19 : y16 = nI (bt k4)) (t24 : ¬ (97 ≤ y16.toInt ∧ y16.toInt ≤ 122)) (t110 : 48 ≤ y16.toInt) (t111 : y16.toInt ≤ 57) (t118 : ¬ (97 ≤ y16.toInt ∧ y16.toInt ≤ 122)) (j130 : x126 = nI 0 ∨ x126 = nI 1) (j131 : k127 ≤ 940) (j132 : k127 ≤ ksize) (jPl : k4 ≤ k127) (jRn : rn bt ksize k4 = rn bt ksize k127) (jG : (x126 = nI 1 ∧ dcn bt k4 (k127 - k4) = (k127 - k4)) ∨ (x126 = nI 0 ∧ dcn bt k4 (k127 - k4) ≠ (k127 - k4))) (jN : ¬ (dcn bt k4 (k127 - k4) = (k127 - k4) ∧ (k127 - k4) ≤ 3) ∨ x128 = nI (nvn bt k4 (k127 - k4))) (jW : ¬ (dcn bt k4 (k127 - k4) = 0 ∧ (k127 - k4) ≤ 7) ∨ w129 = Int64.ofNat (c27 bt k4 (k127 - k4))) (jE : dcn bt k4 (k127 - k4) ≠ 0 ∨ LET bt k4 (k127 - k4)) (hm136 : 940 - k127 < n134 + 1) (p138 : (k127 < ksize ∧ r137 = nI (bt k127)) ∨ (¬ k127 < ksize ∧ r137 = nI 0)) (jKs : k127 < ksize) (jAl : cAl (bt k127)) (e146 : y145 = ktapeF k127) (t147 : bt k127 < 256) (t148 : y145 = nI (bt k127)) (j151 : x150 = nI 0 ∨ x150 = nI 1) (jG1 : (x150 = nI 1 ∧ dcn bt k4 ((k127 + 1) - k4) = ((k127 + 1) - k4)) ∨ (x150 = nI 0 ∧ dcn bt k4 ((k127 + 1) - k4) ≠ ((k127 + 1) - k4))) (jW1 : ¬ (dcn bt k4 ((k127 + 1) - k4) = 0 ∧ ((k127 + 1) - k4) ≤ 7) ∨ w154 = Int64.ofNat (c27 bt k4 ((k127 + 1) - k4))) (jN1 : ¬ (dcn bt k4 ((k127 + 1) - k4) = ((k127 + 1) - k4) ∧ ((k127 + 1) - k4) ≤ 3) ∨ x157 = nI (nvn bt k4 ((k127 + 1) - k4))) : rn bt ksize k4 = rn bt ksize (k127 + 1) := by
  rw [jRn]
  exact rn_step jKs jAl
set_option maxRecDepth 20000 in
theorem lf_g_go_46 (bt : Nat → Nat) (ksize : Nat) (klimit : Nat) (kto : Nat) (ktapeF : Nat → Int32) (gq : Nat) (k4 : Nat) (n8 : Nat) (y16 : Int32) (x126 : Int32) (k127 : Nat) (x128 : Int32) (w129 : Int64) (n134 : Nat) (r137 : Int32) (y145 : Int32) (x150 : Int32) (w154 : Int64) (x157 : Int32) (iv_ko_1 : ksize ≤ 940) (iv_ko_2 : klimit ≤ 900) (iv_ko_3 : kto ≤ ksize) (hTM : TM bt ktapeF) (hgq : kto = gq) (j5 : k4 ≤ 940) (j6 : k4 ≤ ksize) (jSk : sk bt ksize kto = sk bt ksize k4) (hm10 : 940 - k4 < n8 + 1) (jQ : sk bt ksize kto = k4) (jM : ¬ (klimit < ksize ∧ klimit ≤ k4)) (c15 : k4 < ksize) (e17 : y16 = ktapeF k4) (t18 : bt k4 < 256) (t19 : y16 = nI (bt k4)) (t24 : ¬ (97 ≤ y16.toInt ∧ y16.toInt ≤ 122)) (t110 : 48 ≤ y16.toInt) (t111 : y16.toInt ≤ 57) (t118 : ¬ (97 ≤ y16.toInt ∧ y16.toInt ≤ 122)) (j130 : x126 = nI 0 ∨ x126 = nI 1) (j131 : k127 ≤ 940) (j132 : k127 ≤ ksize) (jPl : k4 ≤ k127) (jRn : rn bt ksize k4 = rn bt ksize k127) (jG : (x126 = nI 1 ∧ dcn bt k4 (k127 - k4) = (k127 - k4)) ∨ (x126 = nI 0 ∧ dcn bt k4 (k127 - k4) ≠ (k127 - k4))) (jN : ¬ (dcn bt k4 (k127 - k4) = (k127 - k4) ∧ (k127 - k4) ≤ 3) ∨ x128 = nI (nvn bt k4 (k127 - k4))) (jW : ¬ (dcn bt k4 (k127 - k4) = 0 ∧ (k127 - k4) ≤ 7) ∨ w129 = Int64.ofNat (c27 bt k4 (k127 - k4))) (jE : dcn bt k4 (k127 - k4) ≠ 0 ∨ LET bt k4 (k127 - k4)) (hm136 : 940 - k127 < n134 + 1) (p138 : (k127 < ksize ∧ r137 = nI (bt k127)) ∨ (¬ k127 < ksize ∧ r137 = nI 0)) (jKs : k127 < ksize) (jAl : cAl (bt k127)) (e146 : y145 = ktapeF k127) (t147 : bt k127 < 256) (t148 : y145 = nI (bt k127)) (j151 : x150 = nI 0 ∨ x150 = nI 1) (jG1 : (x150 = nI 1 ∧ dcn bt k4 ((k127 + 1) - k4) = ((k127 + 1) - k4)) ∨ (x150 = nI 0 ∧ dcn bt k4 ((k127 + 1) - k4) ≠ ((k127 + 1) - k4))) (jW1 : ¬ (dcn bt k4 ((k127 + 1) - k4) = 0 ∧ ((k127 + 1) - k4) ≤ 7) ∨ w154 = Int64.ofNat (c27 bt k4 ((k127 + 1) - k4))) (jN1 : ¬ (dcn bt k4 ((k127 + 1) - k4) = ((k127 + 1) - k4) ∧ ((k127 + 1) - k4) ≤ 3) ∨ x157 = nI (nvn bt k4 ((k127 + 1) - k4))) : dcn bt k4 ((k127 + 1) - k4) ≠ 0 ∨ LET bt k4 ((k127 + 1) - k4) := by
  exact go_e jPl jE jAl
set_option maxRecDepth 20000 in
theorem lf_g_go_47 (bt : Nat → Nat) (ksize : Nat) (klimit : Nat) (kto : Nat) (ktapeF : Nat → Int32) (gq : Nat) (k4 : Nat) (n8 : Nat) (y16 : Int32) (x126 : Int32) (k127 : Nat) (x128 : Int32) (w129 : Int64) (n134 : Nat) (r137 : Int32) (y145 : Int32) (x150 : Int32) (w154 : Int64) (x157 : Int32) (iv_ko_1 : ksize ≤ 940) (iv_ko_2 : klimit ≤ 900) (iv_ko_3 : kto ≤ ksize) (hTM : TM bt ktapeF) (hgq : kto = gq) (j5 : k4 ≤ 940) (j6 : k4 ≤ ksize) (jSk : sk bt ksize kto = sk bt ksize k4) (hm10 : 940 - k4 < n8 + 1) (jQ : sk bt ksize kto = k4) (jM : ¬ (klimit < ksize ∧ klimit ≤ k4)) (c15 : k4 < ksize) (e17 : y16 = ktapeF k4) (t18 : bt k4 < 256) (t19 : y16 = nI (bt k4)) (t24 : ¬ (97 ≤ y16.toInt ∧ y16.toInt ≤ 122)) (t110 : 48 ≤ y16.toInt) (t111 : y16.toInt ≤ 57) (t118 : ¬ (97 ≤ y16.toInt ∧ y16.toInt ≤ 122)) (j130 : x126 = nI 0 ∨ x126 = nI 1) (j131 : k127 ≤ 940) (j132 : k127 ≤ ksize) (jPl : k4 ≤ k127) (jRn : rn bt ksize k4 = rn bt ksize k127) (jG : (x126 = nI 1 ∧ dcn bt k4 (k127 - k4) = (k127 - k4)) ∨ (x126 = nI 0 ∧ dcn bt k4 (k127 - k4) ≠ (k127 - k4))) (jN : ¬ (dcn bt k4 (k127 - k4) = (k127 - k4) ∧ (k127 - k4) ≤ 3) ∨ x128 = nI (nvn bt k4 (k127 - k4))) (jW : ¬ (dcn bt k4 (k127 - k4) = 0 ∧ (k127 - k4) ≤ 7) ∨ w129 = Int64.ofNat (c27 bt k4 (k127 - k4))) (jE : dcn bt k4 (k127 - k4) ≠ 0 ∨ LET bt k4 (k127 - k4)) (hm136 : 940 - k127 < n134 + 1) (p138 : (k127 < ksize ∧ r137 = nI (bt k127)) ∨ (¬ k127 < ksize ∧ r137 = nI 0)) (jKs : k127 < ksize) (jAl : cAl (bt k127)) (e146 : y145 = ktapeF k127) (t147 : bt k127 < 256) (t148 : y145 = nI (bt k127)) (j151 : x150 = nI 0 ∨ x150 = nI 1) (jG1 : (x150 = nI 1 ∧ dcn bt k4 ((k127 + 1) - k4) = ((k127 + 1) - k4)) ∨ (x150 = nI 0 ∧ dcn bt k4 ((k127 + 1) - k4) ≠ ((k127 + 1) - k4))) (jW1 : ¬ (dcn bt k4 ((k127 + 1) - k4) = 0 ∧ ((k127 + 1) - k4) ≤ 7) ∨ w154 = Int64.ofNat (c27 bt k4 ((k127 + 1) - k4))) (jN1 : ¬ (dcn bt k4 ((k127 + 1) - k4) = ((k127 + 1) - k4) ∧ ((k127 + 1) - k4) ≤ 3) ∨ x157 = nI (nvn bt k4 ((k127 + 1) - k4))) : 940 - (k127 + 1) < n134 := by
  have b_y16 := ia_b y16
  have b_x126 := ia_b x126
  have b_x128 := ia_b x128
  have b_r137 := ia_b r137
  have b_y145 := ia_b y145
  have b_x150 := ia_b x150
  have b_x157 := ia_b x157
  have b_w129 := Int64.toInt_lt w129
  have b_w154 := Int64.toInt_lt w154
  try have k_0 := ia_n (bt k4) (by first | decide | omega)
  try have k_1 := ia_n 0 (by first | decide | omega)
  try have k_2 := ia_n 1 (by first | decide | omega)
  try have k_3 := ia_n (nvn bt k4 (k127 - k4)) (by first | decide | omega)
  try have k_4 := ia_n (bt k127) (by first | decide | omega)
  try have k_5 := ia_n (nvn bt k4 ((k127 + 1) - k4)) (by first | decide | omega)
  try simp only [ia_lt, ia_le, ia_eq, ia_m1, ia_0, ia_1, ne_eq, true_and, and_true, false_and, and_false, or_false, false_or, or_true, true_or, not_true_eq_false, not_false_eq_true] at *
  all_goals omega
set_option maxRecDepth 20000 in
theorem lf_g_go_48 (bt : Nat → Nat) (ksize : Nat) (klimit : Nat) (kto : Nat) (ktapeF : Nat → Int32) (gq : Nat) (k4 : Nat) (n8 : Nat) (y16 : Int32) (x126 : Int32) (k127 : Nat) (x128 : Int32) (w129 : Int64) (n134 : Nat) (r137 : Int32) (y145 : Int32) (x150 : Int32) (w154 : Int64) (iv_ko_1 : ksize ≤ 940) (iv_ko_2 : klimit ≤ 900) (iv_ko_3 : kto ≤ ksize) (hTM : TM bt ktapeF) (hgq : kto = gq) (j5 : k4 ≤ 940) (j6 : k4 ≤ ksize) (jSk : sk bt ksize kto = sk bt ksize k4) (hm10 : 940 - k4 < n8 + 1) (jQ : sk bt ksize kto = k4) (jM : ¬ (klimit < ksize ∧ klimit ≤ k4)) (c15 : k4 < ksize) (e17 : y16 = ktapeF k4) (t18 : bt k4 < 256) (t19 : y16 = nI (bt k4)) (t24 : ¬ (97 ≤ y16.toInt ∧ y16.toInt ≤ 122)) (t110 : 48 ≤ y16.toInt) (t111 : y16.toInt ≤ 57) (t118 : ¬ (97 ≤ y16.toInt ∧ y16.toInt ≤ 122)) (j130 : x126 = nI 0 ∨ x126 = nI 1) (j131 : k127 ≤ 940) (j132 : k127 ≤ ksize) (jPl : k4 ≤ k127) (jRn : rn bt ksize k4 = rn bt ksize k127) (jG : (x126 = nI 1 ∧ dcn bt k4 (k127 - k4) = (k127 - k4)) ∨ (x126 = nI 0 ∧ dcn bt k4 (k127 - k4) ≠ (k127 - k4))) (jN : ¬ (dcn bt k4 (k127 - k4) = (k127 - k4) ∧ (k127 - k4) ≤ 3) ∨ x128 = nI (nvn bt k4 (k127 - k4))) (jW : ¬ (dcn bt k4 (k127 - k4) = 0 ∧ (k127 - k4) ≤ 7) ∨ w129 = Int64.ofNat (c27 bt k4 (k127 - k4))) (jE : dcn bt k4 (k127 - k4) ≠ 0 ∨ LET bt k4 (k127 - k4)) (hm136 : 940 - k127 < n134 + 1) (p138 : (k127 < ksize ∧ r137 = nI (bt k127)) ∨ (¬ k127 < ksize ∧ r137 = nI 0)) (jKs : k127 < ksize) (jAl : cAl (bt k127)) (e146 : y145 = ktapeF k127) (t147 : bt k127 < 256) (t148 : y145 = nI (bt k127)) (j151 : x150 = nI 0 ∨ x150 = nI 1) (jG1 : (x150 = nI 1 ∧ dcn bt k4 ((k127 + 1) - k4) = ((k127 + 1) - k4)) ∨ (x150 = nI 0 ∧ dcn bt k4 ((k127 + 1) - k4) ≠ ((k127 + 1) - k4))) (jW1 : ¬ (dcn bt k4 ((k127 + 1) - k4) = 0 ∧ ((k127 + 1) - k4) ≤ 7) ∨ w154 = Int64.ofNat (c27 bt k4 ((k127 + 1) - k4))) (c156 : 3 ≤ (k127 - k4)) : ¬ (dcn bt k4 ((k127 + 1) - k4) = ((k127 + 1) - k4) ∧ ((k127 + 1) - k4) ≤ 3) ∨ x128 = nI (nvn bt k4 ((k127 + 1) - k4)) := by
  by_cases h9 : k127 - k4 < 3
  · subst_vars
    first
      | exact go_n jPl jN h9 (by assumption) (by assumption)
      | (exfalso; omega)
  · exact Or.inl (by omega)
set_option maxRecDepth 20000 in
theorem lf_g_go_49 (bt : Nat → Nat) (ksize : Nat) (klimit : Nat) (kto : Nat) (ktapeF : Nat → Int32) (gq : Nat) (k4 : Nat) (n8 : Nat) (y16 : Int32) (x126 : Int32) (k127 : Nat) (x128 : Int32) (w129 : Int64) (n134 : Nat) (r137 : Int32) (y145 : Int32) (x150 : Int32) (w154 : Int64) (y159 : Int32) (y161 : Int32) (y163 : Int32) (iv_ko_1 : ksize ≤ 940) (iv_ko_2 : klimit ≤ 900) (iv_ko_3 : kto ≤ ksize) (hTM : TM bt ktapeF) (hgq : kto = gq) (j5 : k4 ≤ 940) (j6 : k4 ≤ ksize) (jSk : sk bt ksize kto = sk bt ksize k4) (hm10 : 940 - k4 < n8 + 1) (jQ : sk bt ksize kto = k4) (jM : ¬ (klimit < ksize ∧ klimit ≤ k4)) (c15 : k4 < ksize) (e17 : y16 = ktapeF k4) (t18 : bt k4 < 256) (t19 : y16 = nI (bt k4)) (t24 : ¬ (97 ≤ y16.toInt ∧ y16.toInt ≤ 122)) (t110 : 48 ≤ y16.toInt) (t111 : y16.toInt ≤ 57) (t118 : ¬ (97 ≤ y16.toInt ∧ y16.toInt ≤ 122)) (j130 : x126 = nI 0 ∨ x126 = nI 1) (j131 : k127 ≤ 940) (j132 : k127 ≤ ksize) (jPl : k4 ≤ k127) (jRn : rn bt ksize k4 = rn bt ksize k127) (jG : (x126 = nI 1 ∧ dcn bt k4 (k127 - k4) = (k127 - k4)) ∨ (x126 = nI 0 ∧ dcn bt k4 (k127 - k4) ≠ (k127 - k4))) (jN : ¬ (dcn bt k4 (k127 - k4) = (k127 - k4) ∧ (k127 - k4) ≤ 3) ∨ x128 = nI (nvn bt k4 (k127 - k4))) (jW : ¬ (dcn bt k4 (k127 - k4) = 0 ∧ (k127 - k4) ≤ 7) ∨ w129 = Int64.ofNat (c27 bt k4 (k127 - k4))) (jE : dcn bt k4 (k127 - k4) ≠ 0 ∨ LET bt k4 (k127 - k4)) (hm136 : 940 - k127 < n134 + 1) (p138 : (k127 < ksize ∧ r137 = nI (bt k127)) ∨ (¬ k127 < ksize ∧ r137 = nI 0)) (jKs : k127 < ksize) (jAl : cAl (bt k127)) (e146 : y145 = ktapeF k127) (t147 : bt k127 < 256) (t148 : y145 = nI (bt k127)) (j151 : x150 = nI 0 ∨ x150 = nI 1) (jG1 : (x150 = nI 1 ∧ dcn bt k4 ((k127 + 1) - k4) = ((k127 + 1) - k4)) ∨ (x150 = nI 0 ∧ dcn bt k4 ((k127 + 1) - k4) ≠ ((k127 + 1) - k4))) (jW1 : ¬ (dcn bt k4 ((k127 + 1) - k4) = 0 ∧ ((k127 + 1) - k4) ≤ 7) ∨ w154 = Int64.ofNat (c27 bt k4 ((k127 + 1) - k4))) (c156 : (k127 - k4) < 3) (e160 : y159 = (nI 10) * x128) (e162 : y161 = y159 + y145) (e164 : y163 = y161 - (nI 48)) : ¬ (dcn bt k4 ((k127 + 1) - k4) = ((k127 + 1) - k4) ∧ ((k127 + 1) - k4) ≤ 3) ∨ y163 = nI (nvn bt k4 ((k127 + 1) - k4)) := by
  by_cases h9 : k127 - k4 < 3
  · subst_vars
    first
      | exact go_n jPl jN h9 (by assumption) (by assumption)
      | (exfalso; omega)
  · exact Or.inl (by omega)
set_option maxRecDepth 20000 in
theorem lf_g_go_50 (bt : Nat → Nat) (ksize : Nat) (klimit : Nat) (kto : Nat) (ktapeF : Nat → Int32) (gq : Nat) (k4 : Nat) (n8 : Nat) (y16 : Int32) (x126 : Int32) (k127 : Nat) (x128 : Int32) (w129 : Int64) (n134 : Nat) (r137 : Int32) (y145 : Int32) (x150 : Int32) (iv_ko_1 : ksize ≤ 940) (iv_ko_2 : klimit ≤ 900) (iv_ko_3 : kto ≤ ksize) (hTM : TM bt ktapeF) (hgq : kto = gq) (j5 : k4 ≤ 940) (j6 : k4 ≤ ksize) (jSk : sk bt ksize kto = sk bt ksize k4) (hm10 : 940 - k4 < n8 + 1) (jQ : sk bt ksize kto = k4) (jM : ¬ (klimit < ksize ∧ klimit ≤ k4)) (c15 : k4 < ksize) (e17 : y16 = ktapeF k4) (t18 : bt k4 < 256) (t19 : y16 = nI (bt k4)) (t24 : ¬ (97 ≤ y16.toInt ∧ y16.toInt ≤ 122)) (t110 : 48 ≤ y16.toInt) (t111 : y16.toInt ≤ 57) (t118 : ¬ (97 ≤ y16.toInt ∧ y16.toInt ≤ 122)) (j130 : x126 = nI 0 ∨ x126 = nI 1) (j131 : k127 ≤ 940) (j132 : k127 ≤ ksize) (jPl : k4 ≤ k127) (jRn : rn bt ksize k4 = rn bt ksize k127) (jG : (x126 = nI 1 ∧ dcn bt k4 (k127 - k4) = (k127 - k4)) ∨ (x126 = nI 0 ∧ dcn bt k4 (k127 - k4) ≠ (k127 - k4))) (jN : ¬ (dcn bt k4 (k127 - k4) = (k127 - k4) ∧ (k127 - k4) ≤ 3) ∨ x128 = nI (nvn bt k4 (k127 - k4))) (jW : ¬ (dcn bt k4 (k127 - k4) = 0 ∧ (k127 - k4) ≤ 7) ∨ w129 = Int64.ofNat (c27 bt k4 (k127 - k4))) (jE : dcn bt k4 (k127 - k4) ≠ 0 ∨ LET bt k4 (k127 - k4)) (hm136 : 940 - k127 < n134 + 1) (p138 : (k127 < ksize ∧ r137 = nI (bt k127)) ∨ (¬ k127 < ksize ∧ r137 = nI 0)) (jKs : k127 < ksize) (jAl : cAl (bt k127)) (e146 : y145 = ktapeF k127) (t147 : bt k127 < 256) (t148 : y145 = nI (bt k127)) (j151 : x150 = nI 0 ∨ x150 = nI 1) (jG1 : (x150 = nI 1 ∧ dcn bt k4 ((k127 + 1) - k4) = ((k127 + 1) - k4)) ∨ (x150 = nI 0 ∧ dcn bt k4 ((k127 + 1) - k4) ≠ ((k127 + 1) - k4))) (c153 : 7 ≤ (k127 - k4)) : ¬ (dcn bt k4 ((k127 + 1) - k4) = 0 ∧ ((k127 + 1) - k4) ≤ 7) ∨ w129 = Int64.ofNat (c27 bt k4 ((k127 + 1) - k4)) := by
  by_cases h9 : k127 - k4 < 7
  · subst_vars
    first
      | exact go_w jPl jW h9 (by assumption) jAl (by assumption)
      | (exfalso; omega)
  · exact Or.inl (by omega)
set_option maxRecDepth 20000 in
theorem lf_g_go_51 (bt : Nat → Nat) (ksize : Nat) (klimit : Nat) (kto : Nat) (ktapeF : Nat → Int32) (gq : Nat) (k4 : Nat) (n8 : Nat) (y16 : Int32) (x126 : Int32) (k127 : Nat) (x128 : Int32) (w129 : Int64) (n134 : Nat) (r137 : Int32) (y145 : Int32) (x150 : Int32) (w165 : Int64) (w167 : Int64) (w169 : Int64) (w171 : Int64) (iv_ko_1 : ksize ≤ 940) (iv_ko_2 : klimit ≤ 900) (iv_ko_3 : kto ≤ ksize) (hTM : TM bt ktapeF) (hgq : kto = gq) (j5 : k4 ≤ 940) (j6 : k4 ≤ ksize) (jSk : sk bt ksize kto = sk bt ksize k4) (hm10 : 940 - k4 < n8 + 1) (jQ : sk bt ksize kto = k4) (jM : ¬ (klimit < ksize ∧ klimit ≤ k4)) (c15 : k4 < ksize) (e17 : y16 = ktapeF k4) (t18 : bt k4 < 256) (t19 : y16 = nI (bt k4)) (t24 : ¬ (97 ≤ y16.toInt ∧ y16.toInt ≤ 122)) (t110 : 48 ≤ y16.toInt) (t111 : y16.toInt ≤ 57) (t118 : ¬ (97 ≤ y16.toInt ∧ y16.toInt ≤ 122)) (j130 : x126 = nI 0 ∨ x126 = nI 1) (j131 : k127 ≤ 940) (j132 : k127 ≤ ksize) (jPl : k4 ≤ k127) (jRn : rn bt ksize k4 = rn bt ksize k127) (jG : (x126 = nI 1 ∧ dcn bt k4 (k127 - k4) = (k127 - k4)) ∨ (x126 = nI 0 ∧ dcn bt k4 (k127 - k4) ≠ (k127 - k4))) (jN : ¬ (dcn bt k4 (k127 - k4) = (k127 - k4) ∧ (k127 - k4) ≤ 3) ∨ x128 = nI (nvn bt k4 (k127 - k4))) (jW : ¬ (dcn bt k4 (k127 - k4) = 0 ∧ (k127 - k4) ≤ 7) ∨ w129 = Int64.ofNat (c27 bt k4 (k127 - k4))) (jE : dcn bt k4 (k127 - k4) ≠ 0 ∨ LET bt k4 (k127 - k4)) (hm136 : 940 - k127 < n134 + 1) (p138 : (k127 < ksize ∧ r137 = nI (bt k127)) ∨ (¬ k127 < ksize ∧ r137 = nI 0)) (jKs : k127 < ksize) (jAl : cAl (bt k127)) (e146 : y145 = ktapeF k127) (t147 : bt k127 < 256) (t148 : y145 = nI (bt k127)) (j151 : x150 = nI 0 ∨ x150 = nI 1) (jG1 : (x150 = nI 1 ∧ dcn bt k4 ((k127 + 1) - k4) = ((k127 + 1) - k4)) ∨ (x150 = nI 0 ∧ dcn bt k4 ((k127 + 1) - k4) ≠ ((k127 + 1) - k4))) (c153 : (k127 - k4) < 7) (e166 : w165 = (27 : Int64) * w129) (e168 : w167 = (y145).toInt64) (e170 : w169 = w165 + w167) (e172 : w171 = w169 - (96 : Int64)) : ¬ (dcn bt k4 ((k127 + 1) - k4) = 0 ∧ ((k127 + 1) - k4) ≤ 7) ∨ w171 = Int64.ofNat (c27 bt k4 ((k127 + 1) - k4)) := by
  by_cases h9 : k127 - k4 < 7
  · subst_vars
    first
      | exact go_w jPl jW h9 (by assumption) jAl (by assumption)
      | (exfalso; omega)
  · exact Or.inl (by omega)
set_option maxRecDepth 20000 in
theorem lf_g_go_52   : (nI 0) = nI 0 ∨ (nI 0) = nI 1 := by
  try have k_0 := ia_n 0 (by first | decide | omega)
  try have k_1 := ia_n 1 (by first | decide | omega)
  try simp only [ia_lt, ia_le, ia_eq, ia_m1, ia_0, ia_1, ne_eq, true_and, and_true, false_and, and_false, or_false, false_or, or_true, true_or, not_true_eq_false, not_false_eq_true] at *
  all_goals omega
set_option maxRecDepth 20000 in
theorem lf_g_go_53 (bt : Nat → Nat) (ksize : Nat) (klimit : Nat) (kto : Nat) (ktapeF : Nat → Int32) (gq : Nat) (k4 : Nat) (n8 : Nat) (y16 : Int32) (x126 : Int32) (k127 : Nat) (x128 : Int32) (w129 : Int64) (n134 : Nat) (r137 : Int32) (y145 : Int32) (iv_ko_1 : ksize ≤ 940) (iv_ko_2 : klimit ≤ 900) (iv_ko_3 : kto ≤ ksize) (hTM : TM bt ktapeF) (hgq : kto = gq) (j5 : k4 ≤ 940) (j6 : k4 ≤ ksize) (jSk : sk bt ksize kto = sk bt ksize k4) (hm10 : 940 - k4 < n8 + 1) (jQ : sk bt ksize kto = k4) (jM : ¬ (klimit < ksize ∧ klimit ≤ k4)) (c15 : k4 < ksize) (e17 : y16 = ktapeF k4) (t18 : bt k4 < 256) (t19 : y16 = nI (bt k4)) (t24 : ¬ (97 ≤ y16.toInt ∧ y16.toInt ≤ 122)) (t110 : 48 ≤ y16.toInt) (t111 : y16.toInt ≤ 57) (t118 : ¬ (97 ≤ y16.toInt ∧ y16.toInt ≤ 122)) (j130 : x126 = nI 0 ∨ x126 = nI 1) (j131 : k127 ≤ 940) (j132 : k127 ≤ ksize) (jPl : k4 ≤ k127) (jRn : rn bt ksize k4 = rn bt ksize k127) (jG : (x126 = nI 1 ∧ dcn bt k4 (k127 - k4) = (k127 - k4)) ∨ (x126 = nI 0 ∧ dcn bt k4 (k127 - k4) ≠ (k127 - k4))) (jN : ¬ (dcn bt k4 (k127 - k4) = (k127 - k4) ∧ (k127 - k4) ≤ 3) ∨ x128 = nI (nvn bt k4 (k127 - k4))) (jW : ¬ (dcn bt k4 (k127 - k4) = 0 ∧ (k127 - k4) ≤ 7) ∨ w129 = Int64.ofNat (c27 bt k4 (k127 - k4))) (jE : dcn bt k4 (k127 - k4) ≠ 0 ∨ LET bt k4 (k127 - k4)) (hm136 : 940 - k127 < n134 + 1) (p138 : (k127 < ksize ∧ r137 = nI (bt k127)) ∨ (¬ k127 < ksize ∧ r137 = nI 0)) (jKs : k127 < ksize) (jAl : cAl (bt k127)) (e146 : y145 = ktapeF k127) (t147 : bt k127 < 256) (t148 : y145 = nI (bt k127)) (c149 : x126 = 0) : ((nI 0) = nI 1 ∧ dcn bt k4 ((k127 + 1) - k4) = ((k127 + 1) - k4)) ∨ ((nI 0) = nI 0 ∧ dcn bt k4 ((k127 + 1) - k4) ≠ ((k127 + 1) - k4)) := by
  have hb8 := ia_n (bt k127) (by omega)
  have h5 := dcn_le bt k4 (k127 - k4)
  have hal := jAl
  by_cases h9 : cDi (bt k127)
  · rw [rr_dy jPl h9]
    unfold cDi at h9
    unfold cAl cLe cDi at hal
    have kk0 := ia_n 0 (by decide)
    have kk1 := ia_n 1 (by decide)
    have b_y16 := ia_b y16
    have b_x126 := ia_b x126
    have b_x128 := ia_b x128
    have b_r137 := ia_b r137
    have b_y145 := ia_b y145
    have b_w129 := Int64.toInt_lt w129
    try have k_0 := ia_n (bt k4) (by first | decide | omega)
    try have k_1 := ia_n 0 (by first | decide | omega)
    try have k_2 := ia_n 1 (by first | decide | omega)
    try have k_3 := ia_n (nvn bt k4 (k127 - k4)) (by first | decide | omega)
    try have k_4 := ia_n (bt k127) (by first | decide | omega)
    try simp only [ia_lt, ia_le, ia_eq, ia_m1, ia_0, ia_1, ne_eq, true_and, and_true, false_and, and_false, or_false, false_or, or_true, true_or, not_true_eq_false, not_false_eq_true] at *
    all_goals omega
  · rw [rr_dn jPl h9]
    unfold cDi at h9
    unfold cAl cLe cDi at hal
    have kk0 := ia_n 0 (by decide)
    have kk1 := ia_n 1 (by decide)
    have b_y16 := ia_b y16
    have b_x126 := ia_b x126
    have b_x128 := ia_b x128
    have b_r137 := ia_b r137
    have b_y145 := ia_b y145
    have b_w129 := Int64.toInt_lt w129
    try have k_0 := ia_n (bt k4) (by first | decide | omega)
    try have k_1 := ia_n 0 (by first | decide | omega)
    try have k_2 := ia_n 1 (by first | decide | omega)
    try have k_3 := ia_n (nvn bt k4 (k127 - k4)) (by first | decide | omega)
    try have k_4 := ia_n (bt k127) (by first | decide | omega)
    try simp only [ia_lt, ia_le, ia_eq, ia_m1, ia_0, ia_1, ne_eq, true_and, and_true, false_and, and_false, or_false, false_or, or_true, true_or, not_true_eq_false, not_false_eq_true] at *
    all_goals omega
set_option maxRecDepth 20000 in
theorem lf_g_go_54   : (nI 0) = nI 0 ∨ (nI 0) = nI 1 := by
  try have k_0 := ia_n 0 (by first | decide | omega)
  try have k_1 := ia_n 1 (by first | decide | omega)
  try simp only [ia_lt, ia_le, ia_eq, ia_m1, ia_0, ia_1, ne_eq, true_and, and_true, false_and, and_false, or_false, false_or, or_true, true_or, not_true_eq_false, not_false_eq_true] at *
  all_goals omega
set_option maxRecDepth 20000 in
theorem lf_g_go_55 (bt : Nat → Nat) (ksize : Nat) (klimit : Nat) (kto : Nat) (ktapeF : Nat → Int32) (gq : Nat) (k4 : Nat) (n8 : Nat) (y16 : Int32) (x126 : Int32) (k127 : Nat) (x128 : Int32) (w129 : Int64) (n134 : Nat) (r137 : Int32) (y145 : Int32) (iv_ko_1 : ksize ≤ 940) (iv_ko_2 : klimit ≤ 900) (iv_ko_3 : kto ≤ ksize) (hTM : TM bt ktapeF) (hgq : kto = gq) (j5 : k4 ≤ 940) (j6 : k4 ≤ ksize) (jSk : sk bt ksize kto = sk bt ksize k4) (hm10 : 940 - k4 < n8 + 1) (jQ : sk bt ksize kto = k4) (jM : ¬ (klimit < ksize ∧ klimit ≤ k4)) (c15 : k4 < ksize) (e17 : y16 = ktapeF k4) (t18 : bt k4 < 256) (t19 : y16 = nI (bt k4)) (t24 : ¬ (97 ≤ y16.toInt ∧ y16.toInt ≤ 122)) (t110 : 48 ≤ y16.toInt) (t111 : y16.toInt ≤ 57) (t118 : ¬ (97 ≤ y16.toInt ∧ y16.toInt ≤ 122)) (j130 : x126 = nI 0 ∨ x126 = nI 1) (j131 : k127 ≤ 940) (j132 : k127 ≤ ksize) (jPl : k4 ≤ k127) (jRn : rn bt ksize k4 = rn bt ksize k127) (jG : (x126 = nI 1 ∧ dcn bt k4 (k127 - k4) = (k127 - k4)) ∨ (x126 = nI 0 ∧ dcn bt k4 (k127 - k4) ≠ (k127 - k4))) (jN : ¬ (dcn bt k4 (k127 - k4) = (k127 - k4) ∧ (k127 - k4) ≤ 3) ∨ x128 = nI (nvn bt k4 (k127 - k4))) (jW : ¬ (dcn bt k4 (k127 - k4) = 0 ∧ (k127 - k4) ≤ 7) ∨ w129 = Int64.ofNat (c27 bt k4 (k127 - k4))) (jE : dcn bt k4 (k127 - k4) ≠ 0 ∨ LET bt k4 (k127 - k4)) (hm136 : 940 - k127 < n134 + 1) (p138 : (k127 < ksize ∧ r137 = nI (bt k127)) ∨ (¬ k127 < ksize ∧ r137 = nI 0)) (jKs : k127 < ksize) (jAl : cAl (bt k127)) (e146 : y145 = ktapeF k127) (t147 : bt k127 < 256) (t148 : y145 = nI (bt k127)) (c149 : ¬ x126 = 0) (t175 : 97 ≤ y145.toInt) (t176 : y145.toInt ≤ 122) : ((nI 0) = nI 1 ∧ dcn bt k4 ((k127 + 1) - k4) = ((k127 + 1) - k4)) ∨ ((nI 0) = nI 0 ∧ dcn bt k4 ((k127 + 1) - k4) ≠ ((k127 + 1) - k4)) := by
  have hb8 := ia_n (bt k127) (by omega)
  have h5 := dcn_le bt k4 (k127 - k4)
  have hal := jAl
  by_cases h9 : cDi (bt k127)
  · rw [rr_dy jPl h9]
    unfold cDi at h9
    unfold cAl cLe cDi at hal
    have kk0 := ia_n 0 (by decide)
    have kk1 := ia_n 1 (by decide)
    have b_y16 := ia_b y16
    have b_x126 := ia_b x126
    have b_x128 := ia_b x128
    have b_r137 := ia_b r137
    have b_y145 := ia_b y145
    have b_w129 := Int64.toInt_lt w129
    try have k_0 := ia_n (bt k4) (by first | decide | omega)
    try have k_1 := ia_n 0 (by first | decide | omega)
    try have k_2 := ia_n 1 (by first | decide | omega)
    try have k_3 := ia_n (nvn bt k4 (k127 - k4)) (by first | decide | omega)
    try have k_4 := ia_n (bt k127) (by first | decide | omega)
    try simp only [ia_lt, ia_le, ia_eq, ia_m1, ia_0, ia_1, ne_eq, true_and, and_true, false_and, and_false, or_false, false_or, or_true, true_or, not_true_eq_false, not_false_eq_true] at *
    all_goals omega
  · rw [rr_dn jPl h9]
    unfold cDi at h9
    unfold cAl cLe cDi at hal
    have kk0 := ia_n 0 (by decide)
    have kk1 := ia_n 1 (by decide)
    have b_y16 := ia_b y16
    have b_x126 := ia_b x126
    have b_x128 := ia_b x128
    have b_r137 := ia_b r137
    have b_y145 := ia_b y145
    have b_w129 := Int64.toInt_lt w129
    try have k_0 := ia_n (bt k4) (by first | decide | omega)
    try have k_1 := ia_n 0 (by first | decide | omega)
    try have k_2 := ia_n 1 (by first | decide | omega)
    try have k_3 := ia_n (nvn bt k4 (k127 - k4)) (by first | decide | omega)
    try have k_4 := ia_n (bt k127) (by first | decide | omega)
    try simp only [ia_lt, ia_le, ia_eq, ia_m1, ia_0, ia_1, ne_eq, true_and, and_true, false_and, and_false, or_false, false_or, or_true, true_or, not_true_eq_false, not_false_eq_true] at *
    all_goals omega
set_option maxRecDepth 20000 in
theorem lf_g_go_56   : (nI 1) = nI 0 ∨ (nI 1) = nI 1 := by
  try have k_0 := ia_n 1 (by first | decide | omega)
  try have k_1 := ia_n 0 (by first | decide | omega)
  try simp only [ia_lt, ia_le, ia_eq, ia_m1, ia_0, ia_1, ne_eq, true_and, and_true, false_and, and_false, or_false, false_or, or_true, true_or, not_true_eq_false, not_false_eq_true] at *
  all_goals omega
set_option maxRecDepth 20000 in
theorem lf_g_go_57 (bt : Nat → Nat) (ksize : Nat) (klimit : Nat) (kto : Nat) (ktapeF : Nat → Int32) (gq : Nat) (k4 : Nat) (n8 : Nat) (y16 : Int32) (x126 : Int32) (k127 : Nat) (x128 : Int32) (w129 : Int64) (n134 : Nat) (r137 : Int32) (y145 : Int32) (iv_ko_1 : ksize ≤ 940) (iv_ko_2 : klimit ≤ 900) (iv_ko_3 : kto ≤ ksize) (hTM : TM bt ktapeF) (hgq : kto = gq) (j5 : k4 ≤ 940) (j6 : k4 ≤ ksize) (jSk : sk bt ksize kto = sk bt ksize k4) (hm10 : 940 - k4 < n8 + 1) (jQ : sk bt ksize kto = k4) (jM : ¬ (klimit < ksize ∧ klimit ≤ k4)) (c15 : k4 < ksize) (e17 : y16 = ktapeF k4) (t18 : bt k4 < 256) (t19 : y16 = nI (bt k4)) (t24 : ¬ (97 ≤ y16.toInt ∧ y16.toInt ≤ 122)) (t110 : 48 ≤ y16.toInt) (t111 : y16.toInt ≤ 57) (t118 : ¬ (97 ≤ y16.toInt ∧ y16.toInt ≤ 122)) (j130 : x126 = nI 0 ∨ x126 = nI 1) (j131 : k127 ≤ 940) (j132 : k127 ≤ ksize) (jPl : k4 ≤ k127) (jRn : rn bt ksize k4 = rn bt ksize k127) (jG : (x126 = nI 1 ∧ dcn bt k4 (k127 - k4) = (k127 - k4)) ∨ (x126 = nI 0 ∧ dcn bt k4 (k127 - k4) ≠ (k127 - k4))) (jN : ¬ (dcn bt k4 (k127 - k4) = (k127 - k4) ∧ (k127 - k4) ≤ 3) ∨ x128 = nI (nvn bt k4 (k127 - k4))) (jW : ¬ (dcn bt k4 (k127 - k4) = 0 ∧ (k127 - k4) ≤ 7) ∨ w129 = Int64.ofNat (c27 bt k4 (k127 - k4))) (jE : dcn bt k4 (k127 - k4) ≠ 0 ∨ LET bt k4 (k127 - k4)) (hm136 : 940 - k127 < n134 + 1) (p138 : (k127 < ksize ∧ r137 = nI (bt k127)) ∨ (¬ k127 < ksize ∧ r137 = nI 0)) (jKs : k127 < ksize) (jAl : cAl (bt k127)) (e146 : y145 = ktapeF k127) (t147 : bt k127 < 256) (t148 : y145 = nI (bt k127)) (c149 : ¬ x126 = 0) (t177 : ¬ (97 ≤ y145.toInt ∧ y145.toInt ≤ 122)) : ((nI 1) = nI 1 ∧ dcn bt k4 ((k127 + 1) - k4) = ((k127 + 1) - k4)) ∨ ((nI 1) = nI 0 ∧ dcn bt k4 ((k127 + 1) - k4) ≠ ((k127 + 1) - k4)) := by
  have hb8 := ia_n (bt k127) (by omega)
  have h5 := dcn_le bt k4 (k127 - k4)
  have hal := jAl
  by_cases h9 : cDi (bt k127)
  · rw [rr_dy jPl h9]
    unfold cDi at h9
    unfold cAl cLe cDi at hal
    have kk0 := ia_n 0 (by decide)
    have kk1 := ia_n 1 (by decide)
    have b_y16 := ia_b y16
    have b_x126 := ia_b x126
    have b_x128 := ia_b x128
    have b_r137 := ia_b r137
    have b_y145 := ia_b y145
    have b_w129 := Int64.toInt_lt w129
    try have k_0 := ia_n (bt k4) (by first | decide | omega)
    try have k_1 := ia_n 0 (by first | decide | omega)
    try have k_2 := ia_n 1 (by first | decide | omega)
    try have k_3 := ia_n (nvn bt k4 (k127 - k4)) (by first | decide | omega)
    try have k_4 := ia_n (bt k127) (by first | decide | omega)
    try simp only [ia_lt, ia_le, ia_eq, ia_m1, ia_0, ia_1, ne_eq, true_and, and_true, false_and, and_false, or_false, false_or, or_true, true_or, not_true_eq_false, not_false_eq_true] at *
    all_goals omega
  · rw [rr_dn jPl h9]
    unfold cDi at h9
    unfold cAl cLe cDi at hal
    have kk0 := ia_n 0 (by decide)
    have kk1 := ia_n 1 (by decide)
    have b_y16 := ia_b y16
    have b_x126 := ia_b x126
    have b_x128 := ia_b x128
    have b_r137 := ia_b r137
    have b_y145 := ia_b y145
    have b_w129 := Int64.toInt_lt w129
    try have k_0 := ia_n (bt k4) (by first | decide | omega)
    try have k_1 := ia_n 0 (by first | decide | omega)
    try have k_2 := ia_n 1 (by first | decide | omega)
    try have k_3 := ia_n (nvn bt k4 (k127 - k4)) (by first | decide | omega)
    try have k_4 := ia_n (bt k127) (by first | decide | omega)
    try simp only [ia_lt, ia_le, ia_eq, ia_m1, ia_0, ia_1, ne_eq, true_and, and_true, false_and, and_false, or_false, false_or, or_true, true_or, not_true_eq_false, not_false_eq_true] at *
    all_goals omega
set_option maxRecDepth 20000 in
theorem lf_g_go_58 (bt : Nat → Nat) (ksize : Nat) (klimit : Nat) (kto : Nat) (ktapeF : Nat → Int32) (gq : Nat) (k4 : Nat) (n8 : Nat) (y16 : Int32) (x126 : Int32) (k127 : Nat) (x128 : Int32) (w129 : Int64) (n134 : Nat) (r137 : Int32) (iv_ko_1 : ksize ≤ 940) (iv_ko_2 : klimit ≤ 900) (iv_ko_3 : kto ≤ ksize) (hTM : TM bt ktapeF) (hgq : kto = gq) (j5 : k4 ≤ 940) (j6 : k4 ≤ ksize) (jSk : sk bt ksize kto = sk bt ksize k4) (hm10 : 940 - k4 < n8 + 1) (jQ : sk bt ksize kto = k4) (jM : ¬ (klimit < ksize ∧ klimit ≤ k4)) (c15 : k4 < ksize) (e17 : y16 = ktapeF k4) (t18 : bt k4 < 256) (t19 : y16 = nI (bt k4)) (t24 : ¬ (97 ≤ y16.toInt ∧ y16.toInt ≤ 122)) (t110 : 48 ≤ y16.toInt) (t111 : y16.toInt ≤ 57) (t118 : ¬ (97 ≤ y16.toInt ∧ y16.toInt ≤ 122)) (j130 : x126 = nI 0 ∨ x126 = nI 1) (j131 : k127 ≤ 940) (j132 : k127 ≤ ksize) (jPl : k4 ≤ k127) (jRn : rn bt ksize k4 = rn bt ksize k127) (jG : (x126 = nI 1 ∧ dcn bt k4 (k127 - k4) = (k127 - k4)) ∨ (x126 = nI 0 ∧ dcn bt k4 (k127 - k4) ≠ (k127 - k4))) (jN : ¬ (dcn bt k4 (k127 - k4) = (k127 - k4) ∧ (k127 - k4) ≤ 3) ∨ x128 = nI (nvn bt k4 (k127 - k4))) (jW : ¬ (dcn bt k4 (k127 - k4) = 0 ∧ (k127 - k4) ≤ 7) ∨ w129 = Int64.ofNat (c27 bt k4 (k127 - k4))) (jE : dcn bt k4 (k127 - k4) ≠ 0 ∨ LET bt k4 (k127 - k4)) (hm136 : 940 - k127 < n134 + 1) (p138 : (k127 < ksize ∧ r137 = nI (bt k127)) ∨ (¬ k127 < ksize ∧ r137 = nI 0)) (t141 : 97 ≤ r137.toInt) (t142 : r137.toInt ≤ 122) : k127 < ksize := by
  have kk0 := ia_n 0 (by decide)
  have b_y16 := ia_b y16
  have b_x126 := ia_b x126
  have b_x128 := ia_b x128
  have b_r137 := ia_b r137
  have b_w129 := Int64.toInt_lt w129
  try have k_0 := ia_n (bt k4) (by first | decide | omega)
  try have k_1 := ia_n 0 (by first | decide | omega)
  try have k_2 := ia_n 1 (by first | decide | omega)
  try have k_3 := ia_n (nvn bt k4 (k127 - k4)) (by first | decide | omega)
  try have k_4 := ia_n (bt k127) (by first | decide | omega)
  try simp only [ia_lt, ia_le, ia_eq, ia_m1, ia_0, ia_1, ne_eq, true_and, and_true, false_and, and_false, or_false, false_or, or_true, true_or, not_true_eq_false, not_false_eq_true] at *
  all_goals omega
set_option maxRecDepth 20000 in
theorem lf_g_go_59 (bt : Nat → Nat) (ksize : Nat) (klimit : Nat) (kto : Nat) (ktapeF : Nat → Int32) (gq : Nat) (k4 : Nat) (n8 : Nat) (y16 : Int32) (x126 : Int32) (k127 : Nat) (x128 : Int32) (w129 : Int64) (n134 : Nat) (r137 : Int32) (iv_ko_1 : ksize ≤ 940) (iv_ko_2 : klimit ≤ 900) (iv_ko_3 : kto ≤ ksize) (hTM : TM bt ktapeF) (hgq : kto = gq) (j5 : k4 ≤ 940) (j6 : k4 ≤ ksize) (jSk : sk bt ksize kto = sk bt ksize k4) (hm10 : 940 - k4 < n8 + 1) (jQ : sk bt ksize kto = k4) (jM : ¬ (klimit < ksize ∧ klimit ≤ k4)) (c15 : k4 < ksize) (e17 : y16 = ktapeF k4) (t18 : bt k4 < 256) (t19 : y16 = nI (bt k4)) (t24 : ¬ (97 ≤ y16.toInt ∧ y16.toInt ≤ 122)) (t110 : 48 ≤ y16.toInt) (t111 : y16.toInt ≤ 57) (t118 : ¬ (97 ≤ y16.toInt ∧ y16.toInt ≤ 122)) (j130 : x126 = nI 0 ∨ x126 = nI 1) (j131 : k127 ≤ 940) (j132 : k127 ≤ ksize) (jPl : k4 ≤ k127) (jRn : rn bt ksize k4 = rn bt ksize k127) (jG : (x126 = nI 1 ∧ dcn bt k4 (k127 - k4) = (k127 - k4)) ∨ (x126 = nI 0 ∧ dcn bt k4 (k127 - k4) ≠ (k127 - k4))) (jN : ¬ (dcn bt k4 (k127 - k4) = (k127 - k4) ∧ (k127 - k4) ≤ 3) ∨ x128 = nI (nvn bt k4 (k127 - k4))) (jW : ¬ (dcn bt k4 (k127 - k4) = 0 ∧ (k127 - k4) ≤ 7) ∨ w129 = Int64.ofNat (c27 bt k4 (k127 - k4))) (jE : dcn bt k4 (k127 - k4) ≠ 0 ∨ LET bt k4 (k127 - k4)) (hm136 : 940 - k127 < n134 + 1) (p138 : (k127 < ksize ∧ r137 = nI (bt k127)) ∨ (¬ k127 < ksize ∧ r137 = nI 0)) (t141 : 97 ≤ r137.toInt) (t142 : r137.toInt ≤ 122) : cAl (bt k127) := by
  have hks : k127 < ksize := by
    have kk0 := ia_n 0 (by decide)
    have b_y16 := ia_b y16
    have b_x126 := ia_b x126
    have b_x128 := ia_b x128
    have b_r137 := ia_b r137
    have b_w129 := Int64.toInt_lt w129
    try have k_0 := ia_n (bt k4) (by first | decide | omega)
    try have k_1 := ia_n 0 (by first | decide | omega)
    try have k_2 := ia_n 1 (by first | decide | omega)
    try have k_3 := ia_n (nvn bt k4 (k127 - k4)) (by first | decide | omega)
    try have k_4 := ia_n (bt k127) (by first | decide | omega)
    try simp only [ia_lt, ia_le, ia_eq, ia_m1, ia_0, ia_1, ne_eq, true_and, and_true, false_and, and_false, or_false, false_or, or_true, true_or, not_true_eq_false, not_false_eq_true] at *
    all_goals omega
  have hb9 := (hTM k127 (by omega)).1
  have hb8 := ia_n (bt k127) (by omega)
  have kk0 := ia_n 0 (by decide)
  unfold cAl cLe cDi
  have b_y16 := ia_b y16
  have b_x126 := ia_b x126
  have b_x128 := ia_b x128
  have b_r137 := ia_b r137
  have b_w129 := Int64.toInt_lt w129
  try have k_0 := ia_n (bt k4) (by first | decide | omega)
  try have k_1 := ia_n 0 (by first | decide | omega)
  try have k_2 := ia_n 1 (by first | decide | omega)
  try have k_3 := ia_n (nvn bt k4 (k127 - k4)) (by first | decide | omega)
  try have k_4 := ia_n (bt k127) (by first | decide | omega)
  try simp only [ia_lt, ia_le, ia_eq, ia_m1, ia_0, ia_1, ne_eq, true_and, and_true, false_and, and_false, or_false, false_or, or_true, true_or, not_true_eq_false, not_false_eq_true] at *
  all_goals omega
set_option maxRecDepth 20000 in
theorem lf_g_go_60 (bt : Nat → Nat) (ksize : Nat) (klimit : Nat) (kto : Nat) (ktapeF : Nat → Int32) (gq : Nat) (k4 : Nat) (n8 : Nat) (y16 : Int32) (x126 : Int32) (k127 : Nat) (x128 : Int32) (w129 : Int64) (n134 : Nat) (r137 : Int32) (r182 : Int32) (iv_ko_1 : ksize ≤ 940) (iv_ko_2 : klimit ≤ 900) (iv_ko_3 : kto ≤ ksize) (hTM : TM bt ktapeF) (hgq : kto = gq) (j5 : k4 ≤ 940) (j6 : k4 ≤ ksize) (jSk : sk bt ksize kto = sk bt ksize k4) (hm10 : 940 - k4 < n8 + 1) (jQ : sk bt ksize kto = k4) (jM : ¬ (klimit < ksize ∧ klimit ≤ k4)) (c15 : k4 < ksize) (e17 : y16 = ktapeF k4) (t18 : bt k4 < 256) (t19 : y16 = nI (bt k4)) (t24 : ¬ (97 ≤ y16.toInt ∧ y16.toInt ≤ 122)) (t110 : 48 ≤ y16.toInt) (t111 : y16.toInt ≤ 57) (t118 : ¬ (97 ≤ y16.toInt ∧ y16.toInt ≤ 122)) (j130 : x126 = nI 0 ∨ x126 = nI 1) (j131 : k127 ≤ 940) (j132 : k127 ≤ ksize) (jPl : k4 ≤ k127) (jRn : rn bt ksize k4 = rn bt ksize k127) (jG : (x126 = nI 1 ∧ dcn bt k4 (k127 - k4) = (k127 - k4)) ∨ (x126 = nI 0 ∧ dcn bt k4 (k127 - k4) ≠ (k127 - k4))) (jN : ¬ (dcn bt k4 (k127 - k4) = (k127 - k4) ∧ (k127 - k4) ≤ 3) ∨ x128 = nI (nvn bt k4 (k127 - k4))) (jW : ¬ (dcn bt k4 (k127 - k4) = 0 ∧ (k127 - k4) ≤ 7) ∨ w129 = Int64.ofNat (c27 bt k4 (k127 - k4))) (jE : dcn bt k4 (k127 - k4) ≠ 0 ∨ LET bt k4 (k127 - k4)) (hm136 : 940 - k127 < n134 + 1) (p138 : (k127 < ksize ∧ r137 = nI (bt k127)) ∨ (¬ k127 < ksize ∧ r137 = nI 0)) (t143 : ¬ (97 ≤ r137.toInt ∧ r137.toInt ≤ 122)) (p183 : (k127 < ksize ∧ r182 = nI (bt k127)) ∨ (¬ k127 < ksize ∧ r182 = nI 0)) (t186 : 48 ≤ r182.toInt) (t187 : r182.toInt ≤ 57) : k127 < ksize := by
  have kk0 := ia_n 0 (by decide)
  have b_y16 := ia_b y16
  have b_x126 := ia_b x126
  have b_x128 := ia_b x128
  have b_r137 := ia_b r137
  have b_r182 := ia_b r182
  have b_w129 := Int64.toInt_lt w129
  try have k_0 := ia_n (bt k4) (by first | decide | omega)
  try have k_1 := ia_n 0 (by first | decide | omega)
  try have k_2 := ia_n 1 (by first | decide | omega)
  try have k_3 := ia_n (nvn bt k4 (k127 - k4)) (by first | decide | omega)
  try have k_4 := ia_n (bt k127) (by first | decide | omega)
  try simp only [ia_lt, ia_le, ia_eq, ia_m1, ia_0, ia_1, ne_eq, true_and, and_true, false_and, and_false, or_false, false_or, or_true, true_or, not_true_eq_false, not_false_eq_true] at *
  all_goals omega
set_option maxRecDepth 20000 in
theorem lf_g_go_61 (bt : Nat → Nat) (ksize : Nat) (klimit : Nat) (kto : Nat) (ktapeF : Nat → Int32) (gq : Nat) (k4 : Nat) (n8 : Nat) (y16 : Int32) (x126 : Int32) (k127 : Nat) (x128 : Int32) (w129 : Int64) (n134 : Nat) (r137 : Int32) (r182 : Int32) (iv_ko_1 : ksize ≤ 940) (iv_ko_2 : klimit ≤ 900) (iv_ko_3 : kto ≤ ksize) (hTM : TM bt ktapeF) (hgq : kto = gq) (j5 : k4 ≤ 940) (j6 : k4 ≤ ksize) (jSk : sk bt ksize kto = sk bt ksize k4) (hm10 : 940 - k4 < n8 + 1) (jQ : sk bt ksize kto = k4) (jM : ¬ (klimit < ksize ∧ klimit ≤ k4)) (c15 : k4 < ksize) (e17 : y16 = ktapeF k4) (t18 : bt k4 < 256) (t19 : y16 = nI (bt k4)) (t24 : ¬ (97 ≤ y16.toInt ∧ y16.toInt ≤ 122)) (t110 : 48 ≤ y16.toInt) (t111 : y16.toInt ≤ 57) (t118 : ¬ (97 ≤ y16.toInt ∧ y16.toInt ≤ 122)) (j130 : x126 = nI 0 ∨ x126 = nI 1) (j131 : k127 ≤ 940) (j132 : k127 ≤ ksize) (jPl : k4 ≤ k127) (jRn : rn bt ksize k4 = rn bt ksize k127) (jG : (x126 = nI 1 ∧ dcn bt k4 (k127 - k4) = (k127 - k4)) ∨ (x126 = nI 0 ∧ dcn bt k4 (k127 - k4) ≠ (k127 - k4))) (jN : ¬ (dcn bt k4 (k127 - k4) = (k127 - k4) ∧ (k127 - k4) ≤ 3) ∨ x128 = nI (nvn bt k4 (k127 - k4))) (jW : ¬ (dcn bt k4 (k127 - k4) = 0 ∧ (k127 - k4) ≤ 7) ∨ w129 = Int64.ofNat (c27 bt k4 (k127 - k4))) (jE : dcn bt k4 (k127 - k4) ≠ 0 ∨ LET bt k4 (k127 - k4)) (hm136 : 940 - k127 < n134 + 1) (p138 : (k127 < ksize ∧ r137 = nI (bt k127)) ∨ (¬ k127 < ksize ∧ r137 = nI 0)) (t143 : ¬ (97 ≤ r137.toInt ∧ r137.toInt ≤ 122)) (p183 : (k127 < ksize ∧ r182 = nI (bt k127)) ∨ (¬ k127 < ksize ∧ r182 = nI 0)) (t186 : 48 ≤ r182.toInt) (t187 : r182.toInt ≤ 57) : cAl (bt k127) := by
  have hks : k127 < ksize := by
    have kk0 := ia_n 0 (by decide)
    have b_y16 := ia_b y16
    have b_x126 := ia_b x126
    have b_x128 := ia_b x128
    have b_r137 := ia_b r137
    have b_r182 := ia_b r182
    have b_w129 := Int64.toInt_lt w129
    try have k_0 := ia_n (bt k4) (by first | decide | omega)
    try have k_1 := ia_n 0 (by first | decide | omega)
    try have k_2 := ia_n 1 (by first | decide | omega)
    try have k_3 := ia_n (nvn bt k4 (k127 - k4)) (by first | decide | omega)
    try have k_4 := ia_n (bt k127) (by first | decide | omega)
    try simp only [ia_lt, ia_le, ia_eq, ia_m1, ia_0, ia_1, ne_eq, true_and, and_true, false_and, and_false, or_false, false_or, or_true, true_or, not_true_eq_false, not_false_eq_true] at *
    all_goals omega
  have hb9 := (hTM k127 (by omega)).1
  have hb8 := ia_n (bt k127) (by omega)
  have kk0 := ia_n 0 (by decide)
  unfold cAl cLe cDi
  have b_y16 := ia_b y16
  have b_x126 := ia_b x126
  have b_x128 := ia_b x128
  have b_r137 := ia_b r137
  have b_r182 := ia_b r182
  have b_w129 := Int64.toInt_lt w129
  try have k_0 := ia_n (bt k4) (by first | decide | omega)
  try have k_1 := ia_n 0 (by first | decide | omega)
  try have k_2 := ia_n 1 (by first | decide | omega)
  try have k_3 := ia_n (nvn bt k4 (k127 - k4)) (by first | decide | omega)
  try have k_4 := ia_n (bt k127) (by first | decide | omega)
  try simp only [ia_lt, ia_le, ia_eq, ia_m1, ia_0, ia_1, ne_eq, true_and, and_true, false_and, and_false, or_false, false_or, or_true, true_or, not_true_eq_false, not_false_eq_true] at *
  all_goals omega
set_option maxRecDepth 20000 in
theorem lf_g_go_62 (bt : Nat → Nat) (ksize : Nat) (klimit : Nat) (kto : Nat) (ksign : Int32) (ktapeF : Nat → Int32) (gq : Nat) (k4 : Nat) (n8 : Nat) (y16 : Int32) (x126 : Int32) (k127 : Nat) (x128 : Int32) (w129 : Int64) (n134 : Nat) (r137 : Int32) (r182 : Int32) (iv_ko_1 : ksize ≤ 940) (iv_ko_2 : klimit ≤ 900) (iv_ko_3 : kto ≤ ksize) (hTM : TM bt ktapeF) (hgq : kto = gq) (j5 : k4 ≤ 940) (j6 : k4 ≤ ksize) (jSk : sk bt ksize kto = sk bt ksize k4) (hm10 : 940 - k4 < n8 + 1) (jQ : sk bt ksize kto = k4) (jM : ¬ (klimit < ksize ∧ klimit ≤ k4)) (c15 : k4 < ksize) (e17 : y16 = ktapeF k4) (t18 : bt k4 < 256) (t19 : y16 = nI (bt k4)) (t24 : ¬ (97 ≤ y16.toInt ∧ y16.toInt ≤ 122)) (t110 : 48 ≤ y16.toInt) (t111 : y16.toInt ≤ 57) (t118 : ¬ (97 ≤ y16.toInt ∧ y16.toInt ≤ 122)) (j130 : x126 = nI 0 ∨ x126 = nI 1) (j131 : k127 ≤ 940) (j132 : k127 ≤ ksize) (jPl : k4 ≤ k127) (jRn : rn bt ksize k4 = rn bt ksize k127) (jG : (x126 = nI 1 ∧ dcn bt k4 (k127 - k4) = (k127 - k4)) ∨ (x126 = nI 0 ∧ dcn bt k4 (k127 - k4) ≠ (k127 - k4))) (jN : ¬ (dcn bt k4 (k127 - k4) = (k127 - k4) ∧ (k127 - k4) ≤ 3) ∨ x128 = nI (nvn bt k4 (k127 - k4))) (jW : ¬ (dcn bt k4 (k127 - k4) = 0 ∧ (k127 - k4) ≤ 7) ∨ w129 = Int64.ofNat (c27 bt k4 (k127 - k4))) (jE : dcn bt k4 (k127 - k4) ≠ 0 ∨ LET bt k4 (k127 - k4)) (hm136 : 940 - k127 < n134 + 1) (p138 : (k127 < ksize ∧ r137 = nI (bt k127)) ∨ (¬ k127 < ksize ∧ r137 = nI 0)) (t143 : ¬ (97 ≤ r137.toInt ∧ r137.toInt ≤ 122)) (p183 : (k127 < ksize ∧ r182 = nI (bt k127)) ∨ (¬ k127 < ksize ∧ r182 = nI 0)) (t188 : ¬ (48 ≤ r182.toInt ∧ r182.toInt ≤ 57)) (c191 : x126 = 0) : MT bt ksize klimit gq (nI 1) ksign k4 k127 x128 w129 := by
  have q1 := jM
  have q2 : k4 < ksize := by
    have kk0 := ia_n 0 (by decide)
    have kk1 := ia_n 1 (by decide)
    have b_ksign := ia_b ksign
    have b_y16 := ia_b y16
    have b_x126 := ia_b x126
    have b_x128 := ia_b x128
    have b_r137 := ia_b r137
    have b_r182 := ia_b r182
    have b_w129 := Int64.toInt_lt w129
    try have k_0 := ia_n (bt k4) (by first | decide | omega)
    try have k_1 := ia_n 0 (by first | decide | omega)
    try have k_2 := ia_n 1 (by first | decide | omega)
    try have k_3 := ia_n (nvn bt k4 (k127 - k4)) (by first | decide | omega)
    try have k_4 := ia_n (bt k127) (by first | decide | omega)
    try simp only [ia_lt, ia_le, ia_eq, ia_m1, ia_0, ia_1, ne_eq, true_and, and_true, false_and, and_false, or_false, false_or, or_true, true_or, not_true_eq_false, not_false_eq_true] at *
    all_goals omega
  have hk7 := (hTM k4 (by omega)).1
  have hk8 := ia_n (bt k4) (by omega)
  have q3 : cAl (bt k4) := by
    have h8 := (hTM k4 (by omega)).1
    have hb8 := ia_n (bt k4) (by omega)
    unfold cAl cLe cDi
    have kk0 := ia_n 0 (by decide)
    have kk1 := ia_n 1 (by decide)
    have b_ksign := ia_b ksign
    have b_y16 := ia_b y16
    have b_x126 := ia_b x126
    have b_x128 := ia_b x128
    have b_r137 := ia_b r137
    have b_r182 := ia_b r182
    have b_w129 := Int64.toInt_lt w129
    try have k_0 := ia_n (bt k4) (by first | decide | omega)
    try have k_1 := ia_n 0 (by first | decide | omega)
    try have k_2 := ia_n 1 (by first | decide | omega)
    try have k_3 := ia_n (nvn bt k4 (k127 - k4)) (by first | decide | omega)
    try have k_4 := ia_n (bt k127) (by first | decide | omega)
    try simp only [ia_lt, ia_le, ia_eq, ia_m1, ia_0, ia_1, ne_eq, true_and, and_true, false_and, and_false, or_false, false_or, or_true, true_or, not_true_eq_false, not_false_eq_true] at *
    all_goals omega
  have q4 : rn bt ksize k4 = k127 := by
    rw [jRn]
    refine rn_stop (fun h9 => ?_)
    obtain ⟨h8, h9⟩ := h9
    unfold cAl cLe cDi at h9
    have h7 := (hTM k127 (by omega)).1
    have hb8 := ia_n (bt k127) (by omega)
    have kk0 := ia_n 0 (by decide)
    have kk1 := ia_n 1 (by decide)
    have b_ksign := ia_b ksign
    have b_y16 := ia_b y16
    have b_x126 := ia_b x126
    have b_x128 := ia_b x128
    have b_r137 := ia_b r137
    have b_r182 := ia_b r182
    have b_w129 := Int64.toInt_lt w129
    try have k_0 := ia_n (bt k4) (by first | decide | omega)
    try have k_1 := ia_n 0 (by first | decide | omega)
    try have k_2 := ia_n 1 (by first | decide | omega)
    try have k_3 := ia_n (nvn bt k4 (k127 - k4)) (by first | decide | omega)
    try have k_4 := ia_n (bt k127) (by first | decide | omega)
    try simp only [ia_lt, ia_le, ia_eq, ia_m1, ia_0, ia_1, ne_eq, true_and, and_true, false_and, and_false, or_false, false_or, or_true, true_or, not_true_eq_false, not_false_eq_true] at *
    all_goals omega
  have h5 := dcn_le bt k4 (k127 - k4)
  have h6 := rn_gt q2 q3
  have q5 : ¬ (dcn bt k4 (k127 - k4) = 0 ∧ k127 - k4 ≤ 7) ∧ ¬ (dcn bt k4 (k127 - k4) = k127 - k4 ∧ k127 - k4 ≤ 3) := by
    have f9 := dcn_fst (bt := bt) (p := k4) (k := k127 - k4) (by omega)
    by_cases hd9 : cDi (bt k4)
    · have f8 := f9.1 hd9
      clear f9
      unfold cDi at hd9
      have kk0 := ia_n 0 (by decide)
      have kk1 := ia_n 1 (by decide)
      have b_ksign := ia_b ksign
      have b_y16 := ia_b y16
      have b_x126 := ia_b x126
      have b_x128 := ia_b x128
      have b_r137 := ia_b r137
      have b_r182 := ia_b r182
      have b_w129 := Int64.toInt_lt w129
      try have k_0 := ia_n (bt k4) (by first | decide | omega)
      try have k_1 := ia_n 0 (by first | decide | omega)
      try have k_2 := ia_n 1 (by first | decide | omega)
      try have k_3 := ia_n (nvn bt k4 (k127 - k4)) (by first | decide | omega)
      try have k_4 := ia_n (bt k127) (by first | decide | omega)
      try simp only [ia_lt, ia_le, ia_eq, ia_m1, ia_0, ia_1, ne_eq, true_and, and_true, false_and, and_false, or_false, false_or, or_true, true_or, not_true_eq_false, not_false_eq_true] at *
      all_goals omega
    · have f8 := f9.2 hd9
      clear f9
      unfold cDi at hd9
      have kk0 := ia_n 0 (by decide)
      have kk1 := ia_n 1 (by decide)
      have b_ksign := ia_b ksign
      have b_y16 := ia_b y16
      have b_x126 := ia_b x126
      have b_x128 := ia_b x128
      have b_r137 := ia_b r137
      have b_r182 := ia_b r182
      have b_w129 := Int64.toInt_lt w129
      try have k_0 := ia_n (bt k4) (by first | decide | omega)
      try have k_1 := ia_n 0 (by first | decide | omega)
      try have k_2 := ia_n 1 (by first | decide | omega)
      try have k_3 := ia_n (nvn bt k4 (k127 - k4)) (by first | decide | omega)
      try have k_4 := ia_n (bt k127) (by first | decide | omega)
      try simp only [ia_lt, ia_le, ia_eq, ia_m1, ia_0, ia_1, ne_eq, true_and, and_true, false_and, and_false, or_false, false_or, or_true, true_or, not_true_eq_false, not_false_eq_true] at *
      all_goals omega
  subst hgq
  exact MT_bad jQ q1 q2 q3 q4 q5.1 q5.2
set_option maxRecDepth 20000 in
theorem lf_g_go_63 (bt : Nat → Nat) (ksize : Nat) (klimit : Nat) (kto : Nat) (ktapeF : Nat → Int32) (gq : Nat) (k4 : Nat) (n8 : Nat) (y16 : Int32) (x126 : Int32) (k127 : Nat) (x128 : Int32) (w129 : Int64) (n134 : Nat) (r137 : Int32) (r182 : Int32) (iv_ko_1 : ksize ≤ 940) (iv_ko_2 : klimit ≤ 900) (iv_ko_3 : kto ≤ ksize) (hTM : TM bt ktapeF) (hgq : kto = gq) (j5 : k4 ≤ 940) (j6 : k4 ≤ ksize) (jSk : sk bt ksize kto = sk bt ksize k4) (hm10 : 940 - k4 < n8 + 1) (jQ : sk bt ksize kto = k4) (jM : ¬ (klimit < ksize ∧ klimit ≤ k4)) (c15 : k4 < ksize) (e17 : y16 = ktapeF k4) (t18 : bt k4 < 256) (t19 : y16 = nI (bt k4)) (t24 : ¬ (97 ≤ y16.toInt ∧ y16.toInt ≤ 122)) (t110 : 48 ≤ y16.toInt) (t111 : y16.toInt ≤ 57) (t118 : ¬ (97 ≤ y16.toInt ∧ y16.toInt ≤ 122)) (j130 : x126 = nI 0 ∨ x126 = nI 1) (j131 : k127 ≤ 940) (j132 : k127 ≤ ksize) (jPl : k4 ≤ k127) (jRn : rn bt ksize k4 = rn bt ksize k127) (jG : (x126 = nI 1 ∧ dcn bt k4 (k127 - k4) = (k127 - k4)) ∨ (x126 = nI 0 ∧ dcn bt k4 (k127 - k4) ≠ (k127 - k4))) (jN : ¬ (dcn bt k4 (k127 - k4) = (k127 - k4) ∧ (k127 - k4) ≤ 3) ∨ x128 = nI (nvn bt k4 (k127 - k4))) (jW : ¬ (dcn bt k4 (k127 - k4) = 0 ∧ (k127 - k4) ≤ 7) ∨ w129 = Int64.ofNat (c27 bt k4 (k127 - k4))) (jE : dcn bt k4 (k127 - k4) ≠ 0 ∨ LET bt k4 (k127 - k4)) (hm136 : 940 - k127 < n134 + 1) (p138 : (k127 < ksize ∧ r137 = nI (bt k127)) ∨ (¬ k127 < ksize ∧ r137 = nI 0)) (t143 : ¬ (97 ≤ r137.toInt ∧ r137.toInt ≤ 122)) (p183 : (k127 < ksize ∧ r182 = nI (bt k127)) ∨ (¬ k127 < ksize ∧ r182 = nI 0)) (t188 : ¬ (48 ≤ r182.toInt ∧ r182.toInt ≤ 57)) (c191 : ¬ x126 = 0) : k4 ≤ k127 := by
  have b_y16 := ia_b y16
  have b_x126 := ia_b x126
  have b_x128 := ia_b x128
  have b_r137 := ia_b r137
  have b_r182 := ia_b r182
  have b_w129 := Int64.toInt_lt w129
  try have k_0 := ia_n (bt k4) (by first | decide | omega)
  try have k_1 := ia_n 0 (by first | decide | omega)
  try have k_2 := ia_n 1 (by first | decide | omega)
  try have k_3 := ia_n (nvn bt k4 (k127 - k4)) (by first | decide | omega)
  try have k_4 := ia_n (bt k127) (by first | decide | omega)
  try simp only [ia_lt, ia_le, ia_eq, ia_m1, ia_0, ia_1, ne_eq, true_and, and_true, false_and, and_false, or_false, false_or, or_true, true_or, not_true_eq_false, not_false_eq_true] at *
  all_goals omega
set_option maxRecDepth 20000 in
theorem lf_g_go_64 (bt : Nat → Nat) (ksize : Nat) (klimit : Nat) (kto : Nat) (ksign : Int32) (ktapeF : Nat → Int32) (gq : Nat) (k4 : Nat) (n8 : Nat) (y16 : Int32) (x126 : Int32) (k127 : Nat) (x128 : Int32) (w129 : Int64) (n134 : Nat) (r137 : Int32) (r182 : Int32) (iv_ko_1 : ksize ≤ 940) (iv_ko_2 : klimit ≤ 900) (iv_ko_3 : kto ≤ ksize) (hTM : TM bt ktapeF) (hgq : kto = gq) (j5 : k4 ≤ 940) (j6 : k4 ≤ ksize) (jSk : sk bt ksize kto = sk bt ksize k4) (hm10 : 940 - k4 < n8 + 1) (jQ : sk bt ksize kto = k4) (jM : ¬ (klimit < ksize ∧ klimit ≤ k4)) (c15 : k4 < ksize) (e17 : y16 = ktapeF k4) (t18 : bt k4 < 256) (t19 : y16 = nI (bt k4)) (t24 : ¬ (97 ≤ y16.toInt ∧ y16.toInt ≤ 122)) (t110 : 48 ≤ y16.toInt) (t111 : y16.toInt ≤ 57) (t118 : ¬ (97 ≤ y16.toInt ∧ y16.toInt ≤ 122)) (j130 : x126 = nI 0 ∨ x126 = nI 1) (j131 : k127 ≤ 940) (j132 : k127 ≤ ksize) (jPl : k4 ≤ k127) (jRn : rn bt ksize k4 = rn bt ksize k127) (jG : (x126 = nI 1 ∧ dcn bt k4 (k127 - k4) = (k127 - k4)) ∨ (x126 = nI 0 ∧ dcn bt k4 (k127 - k4) ≠ (k127 - k4))) (jN : ¬ (dcn bt k4 (k127 - k4) = (k127 - k4) ∧ (k127 - k4) ≤ 3) ∨ x128 = nI (nvn bt k4 (k127 - k4))) (jW : ¬ (dcn bt k4 (k127 - k4) = 0 ∧ (k127 - k4) ≤ 7) ∨ w129 = Int64.ofNat (c27 bt k4 (k127 - k4))) (jE : dcn bt k4 (k127 - k4) ≠ 0 ∨ LET bt k4 (k127 - k4)) (hm136 : 940 - k127 < n134 + 1) (p138 : (k127 < ksize ∧ r137 = nI (bt k127)) ∨ (¬ k127 < ksize ∧ r137 = nI 0)) (t143 : ¬ (97 ≤ r137.toInt ∧ r137.toInt ≤ 122)) (p183 : (k127 < ksize ∧ r182 = nI (bt k127)) ∨ (¬ k127 < ksize ∧ r182 = nI 0)) (t188 : ¬ (48 ≤ r182.toInt ∧ r182.toInt ≤ 57)) (c191 : ¬ x126 = 0) (c193 : (k127 - k4) ≤ 3) : MT bt ksize klimit gq (nI 3) ksign k4 k127 x128 w129 := by
  have q1 := jM
  have q2 : k4 < ksize := by
    have kk0 := ia_n 0 (by decide)
    have kk1 := ia_n 1 (by decide)
    have b_ksign := ia_b ksign
    have b_y16 := ia_b y16
    have b_x126 := ia_b x126
    have b_x128 := ia_b x128
    have b_r137 := ia_b r137
    have b_r182 := ia_b r182
    have b_w129 := Int64.toInt_lt w129
    try have k_0 := ia_n (bt k4) (by first | decide | omega)
    try have k_1 := ia_n 0 (by first | decide | omega)
    try have k_2 := ia_n 1 (by first | decide | omega)
    try have k_3 := ia_n (nvn bt k4 (k127 - k4)) (by first | decide | omega)
    try have k_4 := ia_n (bt k127) (by first | decide | omega)
    try simp only [ia_lt, ia_le, ia_eq, ia_m1, ia_0, ia_1, ne_eq, true_and, and_true, false_and, and_false, or_false, false_or, or_true, true_or, not_true_eq_false, not_false_eq_true] at *
    all_goals omega
  have hk7 := (hTM k4 (by omega)).1
  have hk8 := ia_n (bt k4) (by omega)
  have q3 : cAl (bt k4) := by
    have h8 := (hTM k4 (by omega)).1
    have hb8 := ia_n (bt k4) (by omega)
    unfold cAl cLe cDi
    have kk0 := ia_n 0 (by decide)
    have kk1 := ia_n 1 (by decide)
    have b_ksign := ia_b ksign
    have b_y16 := ia_b y16
    have b_x126 := ia_b x126
    have b_x128 := ia_b x128
    have b_r137 := ia_b r137
    have b_r182 := ia_b r182
    have b_w129 := Int64.toInt_lt w129
    try have k_0 := ia_n (bt k4) (by first | decide | omega)
    try have k_1 := ia_n 0 (by first | decide | omega)
    try have k_2 := ia_n 1 (by first | decide | omega)
    try have k_3 := ia_n (nvn bt k4 (k127 - k4)) (by first | decide | omega)
    try have k_4 := ia_n (bt k127) (by first | decide | omega)
    try simp only [ia_lt, ia_le, ia_eq, ia_m1, ia_0, ia_1, ne_eq, true_and, and_true, false_and, and_false, or_false, false_or, or_true, true_or, not_true_eq_false, not_false_eq_true] at *
    all_goals omega
  have q4 : rn bt ksize k4 = k127 := by
    rw [jRn]
    refine rn_stop (fun h9 => ?_)
    obtain ⟨h8, h9⟩ := h9
    unfold cAl cLe cDi at h9
    have h7 := (hTM k127 (by omega)).1
    have hb8 := ia_n (bt k127) (by omega)
    have kk0 := ia_n 0 (by decide)
    have kk1 := ia_n 1 (by decide)
    have b_ksign := ia_b ksign
    have b_y16 := ia_b y16
    have b_x126 := ia_b x126
    have b_x128 := ia_b x128
    have b_r137 := ia_b r137
    have b_r182 := ia_b r182
    have b_w129 := Int64.toInt_lt w129
    try have k_0 := ia_n (bt k4) (by first | decide | omega)
    try have k_1 := ia_n 0 (by first | decide | omega)
    try have k_2 := ia_n 1 (by first | decide | omega)
    try have k_3 := ia_n (nvn bt k4 (k127 - k4)) (by first | decide | omega)
    try have k_4 := ia_n (bt k127) (by first | decide | omega)
    try simp only [ia_lt, ia_le, ia_eq, ia_m1, ia_0, ia_1, ne_eq, true_and, and_true, false_and, and_false, or_false, false_or, or_true, true_or, not_true_eq_false, not_false_eq_true] at *
    all_goals omega
  have h5 := dcn_le bt k4 (k127 - k4)
  have h6 := rn_gt q2 q3
  have q5 : dcn bt k4 (k127 - k4) = k127 - k4 ∧ k127 - k4 ≤ 3 := by
    have kk0 := ia_n 0 (by decide)
    have kk1 := ia_n 1 (by decide)
    have b_ksign := ia_b ksign
    have b_y16 := ia_b y16
    have b_x126 := ia_b x126
    have b_x128 := ia_b x128
    have b_r137 := ia_b r137
    have b_r182 := ia_b r182
    have b_w129 := Int64.toInt_lt w129
    try have k_0 := ia_n (bt k4) (by first | decide | omega)
    try have k_1 := ia_n 0 (by first | decide | omega)
    try have k_2 := ia_n 1 (by first | decide | omega)
    try have k_3 := ia_n (nvn bt k4 (k127 - k4)) (by first | decide | omega)
    try have k_4 := ia_n (bt k127) (by first | decide | omega)
    try simp only [ia_lt, ia_le, ia_eq, ia_m1, ia_0, ia_1, ne_eq, true_and, and_true, false_and, and_false, or_false, false_or, or_true, true_or, not_true_eq_false, not_false_eq_true] at *
    all_goals omega
  subst hgq
  exact MT_num jQ q1 q2 q3 q4 q5.1 q5.2 (jN.resolve_left (fun h => h q5))
set_option maxRecDepth 20000 in
theorem lf_g_go_65 (bt : Nat → Nat) (ksize : Nat) (klimit : Nat) (kto : Nat) (ksign : Int32) (ktapeF : Nat → Int32) (gq : Nat) (k4 : Nat) (n8 : Nat) (y16 : Int32) (x126 : Int32) (k127 : Nat) (x128 : Int32) (w129 : Int64) (n134 : Nat) (r137 : Int32) (r182 : Int32) (iv_ko_1 : ksize ≤ 940) (iv_ko_2 : klimit ≤ 900) (iv_ko_3 : kto ≤ ksize) (hTM : TM bt ktapeF) (hgq : kto = gq) (j5 : k4 ≤ 940) (j6 : k4 ≤ ksize) (jSk : sk bt ksize kto = sk bt ksize k4) (hm10 : 940 - k4 < n8 + 1) (jQ : sk bt ksize kto = k4) (jM : ¬ (klimit < ksize ∧ klimit ≤ k4)) (c15 : k4 < ksize) (e17 : y16 = ktapeF k4) (t18 : bt k4 < 256) (t19 : y16 = nI (bt k4)) (t24 : ¬ (97 ≤ y16.toInt ∧ y16.toInt ≤ 122)) (t110 : 48 ≤ y16.toInt) (t111 : y16.toInt ≤ 57) (t118 : ¬ (97 ≤ y16.toInt ∧ y16.toInt ≤ 122)) (j130 : x126 = nI 0 ∨ x126 = nI 1) (j131 : k127 ≤ 940) (j132 : k127 ≤ ksize) (jPl : k4 ≤ k127) (jRn : rn bt ksize k4 = rn bt ksize k127) (jG : (x126 = nI 1 ∧ dcn bt k4 (k127 - k4) = (k127 - k4)) ∨ (x126 = nI 0 ∧ dcn bt k4 (k127 - k4) ≠ (k127 - k4))) (jN : ¬ (dcn bt k4 (k127 - k4) = (k127 - k4) ∧ (k127 - k4) ≤ 3) ∨ x128 = nI (nvn bt k4 (k127 - k4))) (jW : ¬ (dcn bt k4 (k127 - k4) = 0 ∧ (k127 - k4) ≤ 7) ∨ w129 = Int64.ofNat (c27 bt k4 (k127 - k4))) (jE : dcn bt k4 (k127 - k4) ≠ 0 ∨ LET bt k4 (k127 - k4)) (hm136 : 940 - k127 < n134 + 1) (p138 : (k127 < ksize ∧ r137 = nI (bt k127)) ∨ (¬ k127 < ksize ∧ r137 = nI 0)) (t143 : ¬ (97 ≤ r137.toInt ∧ r137.toInt ≤ 122)) (p183 : (k127 < ksize ∧ r182 = nI (bt k127)) ∨ (¬ k127 < ksize ∧ r182 = nI 0)) (t188 : ¬ (48 ≤ r182.toInt ∧ r182.toInt ≤ 57)) (c191 : ¬ x126 = 0) (c193 : 3 < (k127 - k4)) : MT bt ksize klimit gq (nI 1) ksign k4 k127 x128 w129 := by
  have q1 := jM
  have q2 : k4 < ksize := by
    have kk0 := ia_n 0 (by decide)
    have kk1 := ia_n 1 (by decide)
    have b_ksign := ia_b ksign
    have b_y16 := ia_b y16
    have b_x126 := ia_b x126
    have b_x128 := ia_b x128
    have b_r137 := ia_b r137
    have b_r182 := ia_b r182
    have b_w129 := Int64.toInt_lt w129
    try have k_0 := ia_n (bt k4) (by first | decide | omega)
    try have k_1 := ia_n 0 (by first | decide | omega)
    try have k_2 := ia_n 1 (by first | decide | omega)
    try have k_3 := ia_n (nvn bt k4 (k127 - k4)) (by first | decide | omega)
    try have k_4 := ia_n (bt k127) (by first | decide | omega)
    try simp only [ia_lt, ia_le, ia_eq, ia_m1, ia_0, ia_1, ne_eq, true_and, and_true, false_and, and_false, or_false, false_or, or_true, true_or, not_true_eq_false, not_false_eq_true] at *
    all_goals omega
  have hk7 := (hTM k4 (by omega)).1
  have hk8 := ia_n (bt k4) (by omega)
  have q3 : cAl (bt k4) := by
    have h8 := (hTM k4 (by omega)).1
    have hb8 := ia_n (bt k4) (by omega)
    unfold cAl cLe cDi
    have kk0 := ia_n 0 (by decide)
    have kk1 := ia_n 1 (by decide)
    have b_ksign := ia_b ksign
    have b_y16 := ia_b y16
    have b_x126 := ia_b x126
    have b_x128 := ia_b x128
    have b_r137 := ia_b r137
    have b_r182 := ia_b r182
    have b_w129 := Int64.toInt_lt w129
    try have k_0 := ia_n (bt k4) (by first | decide | omega)
    try have k_1 := ia_n 0 (by first | decide | omega)
    try have k_2 := ia_n 1 (by first | decide | omega)
    try have k_3 := ia_n (nvn bt k4 (k127 - k4)) (by first | decide | omega)
    try have k_4 := ia_n (bt k127) (by first | decide | omega)
    try simp only [ia_lt, ia_le, ia_eq, ia_m1, ia_0, ia_1, ne_eq, true_and, and_true, false_and, and_false, or_false, false_or, or_true, true_or, not_true_eq_false, not_false_eq_true] at *
    all_goals omega
  have q4 : rn bt ksize k4 = k127 := by
    rw [jRn]
    refine rn_stop (fun h9 => ?_)
    obtain ⟨h8, h9⟩ := h9
    unfold cAl cLe cDi at h9
    have h7 := (hTM k127 (by omega)).1
    have hb8 := ia_n (bt k127) (by omega)
    have kk0 := ia_n 0 (by decide)
    have kk1 := ia_n 1 (by decide)
    have b_ksign := ia_b ksign
    have b_y16 := ia_b y16
    have b_x126 := ia_b x126
    have b_x128 := ia_b x128
    have b_r137 := ia_b r137
    have b_r182 := ia_b r182
    have b_w129 := Int64.toInt_lt w129
    try have k_0 := ia_n (bt k4) (by first | decide | omega)
    try have k_1 := ia_n 0 (by first | decide | omega)
    try have k_2 := ia_n 1 (by first | decide | omega)
    try have k_3 := ia_n (nvn bt k4 (k127 - k4)) (by first | decide | omega)
    try have k_4 := ia_n (bt k127) (by first | decide | omega)
    try simp only [ia_lt, ia_le, ia_eq, ia_m1, ia_0, ia_1, ne_eq, true_and, and_true, false_and, and_false, or_false, false_or, or_true, true_or, not_true_eq_false, not_false_eq_true] at *
    all_goals omega
  have h5 := dcn_le bt k4 (k127 - k4)
  have h6 := rn_gt q2 q3
  have q5 : ¬ (dcn bt k4 (k127 - k4) = 0 ∧ k127 - k4 ≤ 7) ∧ ¬ (dcn bt k4 (k127 - k4) = k127 - k4 ∧ k127 - k4 ≤ 3) := by
    have f9 := dcn_fst (bt := bt) (p := k4) (k := k127 - k4) (by omega)
    by_cases hd9 : cDi (bt k4)
    · have f8 := f9.1 hd9
      clear f9
      unfold cDi at hd9
      have kk0 := ia_n 0 (by decide)
      have kk1 := ia_n 1 (by decide)
      have b_ksign := ia_b ksign
      have b_y16 := ia_b y16
      have b_x126 := ia_b x126
      have b_x128 := ia_b x128
      have b_r137 := ia_b r137
      have b_r182 := ia_b r182
      have b_w129 := Int64.toInt_lt w129
      try have k_0 := ia_n (bt k4) (by first | decide | omega)
      try have k_1 := ia_n 0 (by first | decide | omega)
      try have k_2 := ia_n 1 (by first | decide | omega)
      try have k_3 := ia_n (nvn bt k4 (k127 - k4)) (by first | decide | omega)
      try have k_4 := ia_n (bt k127) (by first | decide | omega)
      try simp only [ia_lt, ia_le, ia_eq, ia_m1, ia_0, ia_1, ne_eq, true_and, and_true, false_and, and_false, or_false, false_or, or_true, true_or, not_true_eq_false, not_false_eq_true] at *
      all_goals omega
    · have f8 := f9.2 hd9
      clear f9
      unfold cDi at hd9
      have kk0 := ia_n 0 (by decide)
      have kk1 := ia_n 1 (by decide)
      have b_ksign := ia_b ksign
      have b_y16 := ia_b y16
      have b_x126 := ia_b x126
      have b_x128 := ia_b x128
      have b_r137 := ia_b r137
      have b_r182 := ia_b r182
      have b_w129 := Int64.toInt_lt w129
      try have k_0 := ia_n (bt k4) (by first | decide | omega)
      try have k_1 := ia_n 0 (by first | decide | omega)
      try have k_2 := ia_n 1 (by first | decide | omega)
      try have k_3 := ia_n (nvn bt k4 (k127 - k4)) (by first | decide | omega)
      try have k_4 := ia_n (bt k127) (by first | decide | omega)
      try simp only [ia_lt, ia_le, ia_eq, ia_m1, ia_0, ia_1, ne_eq, true_and, and_true, false_and, and_false, or_false, false_or, or_true, true_or, not_true_eq_false, not_false_eq_true] at *
      all_goals omega
  subst hgq
  exact MT_bad jQ q1 q2 q3 q4 q5.1 q5.2
set_option maxRecDepth 20000 in
theorem lf_g_go_66   : (nI 1) = nI 0 ∨ (nI 1) = nI 1 := by
  try have k_0 := ia_n 1 (by first | decide | omega)
  try have k_1 := ia_n 0 (by first | decide | omega)
  try simp only [ia_lt, ia_le, ia_eq, ia_m1, ia_0, ia_1, ne_eq, true_and, and_true, false_and, and_false, or_false, false_or, or_true, true_or, not_true_eq_false, not_false_eq_true] at *
  all_goals omega
set_option maxRecDepth 20000 in
theorem lf_g_go_67 (bt : Nat → Nat) (ksize : Nat) (klimit : Nat) (kto : Nat) (ktapeF : Nat → Int32) (gq : Nat) (k4 : Nat) (n8 : Nat) (y16 : Int32) (iv_ko_1 : ksize ≤ 940) (iv_ko_2 : klimit ≤ 900) (iv_ko_3 : kto ≤ ksize) (hTM : TM bt ktapeF) (hgq : kto = gq) (j5 : k4 ≤ 940) (j6 : k4 ≤ ksize) (jSk : sk bt ksize kto = sk bt ksize k4) (hm10 : 940 - k4 < n8 + 1) (jQ : sk bt ksize kto = k4) (jM : ¬ (klimit < ksize ∧ klimit ≤ k4)) (c15 : k4 < ksize) (e17 : y16 = ktapeF k4) (t18 : bt k4 < 256) (t19 : y16 = nI (bt k4)) (t24 : ¬ (97 ≤ y16.toInt ∧ y16.toInt ≤ 122)) (t110 : 48 ≤ y16.toInt) (t111 : y16.toInt ≤ 57) (t118 : ¬ (97 ≤ y16.toInt ∧ y16.toInt ≤ 122)) : k4 ≤ k4 := by
  have b_y16 := ia_b y16
  try have k_0 := ia_n (bt k4) (by first | decide | omega)
  try simp only [ia_lt, ia_le, ia_eq, ia_m1, ia_0, ia_1, ne_eq, true_and, and_true, false_and, and_false, or_false, false_or, or_true, true_or, not_true_eq_false, not_false_eq_true] at *
  all_goals omega
set_option maxRecDepth 20000 in
theorem lf_g_go_68 (bt : Nat → Nat) (ksize : Nat) (klimit : Nat) (kto : Nat) (ktapeF : Nat → Int32) (gq : Nat) (k4 : Nat) (n8 : Nat) (y16 : Int32) (iv_ko_1 : ksize ≤ 940) (iv_ko_2 : klimit ≤ 900) (iv_ko_3 : kto ≤ ksize) (hTM : TM bt ktapeF) (hgq : kto = gq) (j5 : k4 ≤ 940) (j6 : k4 ≤ ksize) (jSk : sk bt ksize kto = sk bt ksize k4) (hm10 : 940 - k4 < n8 + 1) (jQ : sk bt ksize kto = k4) (jM : ¬ (klimit < ksize ∧ klimit ≤ k4)) (c15 : k4 < ksize) (e17 : y16 = ktapeF k4) (t18 : bt k4 < 256) (t19 : y16 = nI (bt k4)) (t24 : ¬ (97 ≤ y16.toInt ∧ y16.toInt ≤ 122)) (t110 : 48 ≤ y16.toInt) (t111 : y16.toInt ≤ 57) (t118 : ¬ (97 ≤ y16.toInt ∧ y16.toInt ≤ 122)) : rn bt ksize k4 = rn bt ksize k4 := by
  rfl
set_option maxRecDepth 20000 in
theorem lf_g_go_69 (bt : Nat → Nat) (ksize : Nat) (klimit : Nat) (kto : Nat) (ktapeF : Nat → Int32) (gq : Nat) (k4 : Nat) (n8 : Nat) (y16 : Int32) (iv_ko_1 : ksize ≤ 940) (iv_ko_2 : klimit ≤ 900) (iv_ko_3 : kto ≤ ksize) (hTM : TM bt ktapeF) (hgq : kto = gq) (j5 : k4 ≤ 940) (j6 : k4 ≤ ksize) (jSk : sk bt ksize kto = sk bt ksize k4) (hm10 : 940 - k4 < n8 + 1) (jQ : sk bt ksize kto = k4) (jM : ¬ (klimit < ksize ∧ klimit ≤ k4)) (c15 : k4 < ksize) (e17 : y16 = ktapeF k4) (t18 : bt k4 < 256) (t19 : y16 = nI (bt k4)) (t24 : ¬ (97 ≤ y16.toInt ∧ y16.toInt ≤ 122)) (t110 : 48 ≤ y16.toInt) (t111 : y16.toInt ≤ 57) (t118 : ¬ (97 ≤ y16.toInt ∧ y16.toInt ≤ 122)) : ((nI 1) = nI 1 ∧ dcn bt k4 (k4 - k4) = (k4 - k4)) ∨ ((nI 1) = nI 0 ∧ dcn bt k4 (k4 - k4) ≠ (k4 - k4)) := by
  rw [Nat.sub_self]
  exact Or.inl ⟨rfl, rfl⟩
set_option maxRecDepth 20000 in
theorem lf_g_go_70 (bt : Nat → Nat) (ksize : Nat) (klimit : Nat) (kto : Nat) (ktapeF : Nat → Int32) (gq : Nat) (k4 : Nat) (n8 : Nat) (y16 : Int32) (iv_ko_1 : ksize ≤ 940) (iv_ko_2 : klimit ≤ 900) (iv_ko_3 : kto ≤ ksize) (hTM : TM bt ktapeF) (hgq : kto = gq) (j5 : k4 ≤ 940) (j6 : k4 ≤ ksize) (jSk : sk bt ksize kto = sk bt ksize k4) (hm10 : 940 - k4 < n8 + 1) (jQ : sk bt ksize kto = k4) (jM : ¬ (klimit < ksize ∧ klimit ≤ k4)) (c15 : k4 < ksize) (e17 : y16 = ktapeF k4) (t18 : bt k4 < 256) (t19 : y16 = nI (bt k4)) (t24 : ¬ (97 ≤ y16.toInt ∧ y16.toInt ≤ 122)) (t110 : 48 ≤ y16.toInt) (t111 : y16.toInt ≤ 57) (t118 : ¬ (97 ≤ y16.toInt ∧ y16.toInt ≤ 122)) : ¬ (dcn bt k4 (k4 - k4) = (k4 - k4) ∧ (k4 - k4) ≤ 3) ∨ (nI 0) = nI (nvn bt k4 (k4 - k4)) := by
  rw [Nat.sub_self]
  exact Or.inr rfl
set_option maxRecDepth 20000 in
theorem lf_g_go_71 (bt : Nat → Nat) (ksize : Nat) (klimit : Nat) (kto : Nat) (ktapeF : Nat → Int32) (gq : Nat) (k4 : Nat) (n8 : Nat) (y16 : Int32) (iv_ko_1 : ksize ≤ 940) (iv_ko_2 : klimit ≤ 900) (iv_ko_3 : kto ≤ ksize) (hTM : TM bt ktapeF) (hgq : kto = gq) (j5 : k4 ≤ 940) (j6 : k4 ≤ ksize) (jSk : sk bt ksize kto = sk bt ksize k4) (hm10 : 940 - k4 < n8 + 1) (jQ : sk bt ksize kto = k4) (jM : ¬ (klimit < ksize ∧ klimit ≤ k4)) (c15 : k4 < ksize) (e17 : y16 = ktapeF k4) (t18 : bt k4 < 256) (t19 : y16 = nI (bt k4)) (t24 : ¬ (97 ≤ y16.toInt ∧ y16.toInt ≤ 122)) (t110 : 48 ≤ y16.toInt) (t111 : y16.toInt ≤ 57) (t118 : ¬ (97 ≤ y16.toInt ∧ y16.toInt ≤ 122)) : ¬ (dcn bt k4 (k4 - k4) = 0 ∧ (k4 - k4) ≤ 7) ∨ 0 = Int64.ofNat (c27 bt k4 (k4 - k4)) := by
  rw [Nat.sub_self]
  exact Or.inr rfl
set_option maxRecDepth 20000 in
theorem lf_g_go_72 (bt : Nat → Nat) (ksize : Nat) (klimit : Nat) (kto : Nat) (ktapeF : Nat → Int32) (gq : Nat) (k4 : Nat) (n8 : Nat) (y16 : Int32) (iv_ko_1 : ksize ≤ 940) (iv_ko_2 : klimit ≤ 900) (iv_ko_3 : kto ≤ ksize) (hTM : TM bt ktapeF) (hgq : kto = gq) (j5 : k4 ≤ 940) (j6 : k4 ≤ ksize) (jSk : sk bt ksize kto = sk bt ksize k4) (hm10 : 940 - k4 < n8 + 1) (jQ : sk bt ksize kto = k4) (jM : ¬ (klimit < ksize ∧ klimit ≤ k4)) (c15 : k4 < ksize) (e17 : y16 = ktapeF k4) (t18 : bt k4 < 256) (t19 : y16 = nI (bt k4)) (t24 : ¬ (97 ≤ y16.toInt ∧ y16.toInt ≤ 122)) (t110 : 48 ≤ y16.toInt) (t111 : y16.toInt ≤ 57) (t118 : ¬ (97 ≤ y16.toInt ∧ y16.toInt ≤ 122)) : dcn bt k4 (k4 - k4) ≠ 0 ∨ LET bt k4 (k4 - k4) := by
  rw [Nat.sub_self]
  exact Or.inr (fun j hj => absurd hj (Nat.not_lt_zero j))
set_option maxRecDepth 20000 in
theorem lf_g_go_73 (bt : Nat → Nat) (ksize : Nat) (klimit : Nat) (kto : Nat) (ktapeF : Nat → Int32) (gq : Nat) (k4 : Nat) (n8 : Nat) (y16 : Int32) (iv_ko_1 : ksize ≤ 940) (iv_ko_2 : klimit ≤ 900) (iv_ko_3 : kto ≤ ksize) (hTM : TM bt ktapeF) (hgq : kto = gq) (j5 : k4 ≤ 940) (j6 : k4 ≤ ksize) (jSk : sk bt ksize kto = sk bt ksize k4) (hm10 : 940 - k4 < n8 + 1) (jQ : sk bt ksize kto = k4) (jM : ¬ (klimit < ksize ∧ klimit ≤ k4)) (c15 : k4 < ksize) (e17 : y16 = ktapeF k4) (t18 : bt k4 < 256) (t19 : y16 = nI (bt k4)) (t24 : ¬ (97 ≤ y16.toInt ∧ y16.toInt ≤ 122)) (t112 : ¬ (48 ≤ y16.toInt ∧ y16.toInt ≤ 57)) (c196 : y16 = nI 59) : (k4 + 1) ≤ ksize := by
  have b_y16 := ia_b y16
  try have k_0 := ia_n (bt k4) (by first | decide | omega)
  try have k_1 := ia_n 59 (by first | decide | omega)
  try simp only [ia_lt, ia_le, ia_eq, ia_m1, ia_0, ia_1, ne_eq, true_and, and_true, false_and, and_false, or_false, false_or, or_true, true_or, not_true_eq_false, not_false_eq_true] at *
  all_goals omega
set_option maxRecDepth 20000 in
theorem lf_g_go_74 (bt : Nat → Nat) (ksize : Nat) (klimit : Nat) (kto : Nat) (knumber : Int32) (kword : Int64) (ktapeF : Nat → Int32) (gq : Nat) (k4 : Nat) (n8 : Nat) (y16 : Int32) (iv_ko_1 : ksize ≤ 940) (iv_ko_2 : klimit ≤ 900) (iv_ko_3 : kto ≤ ksize) (hTM : TM bt ktapeF) (hgq : kto = gq) (j5 : k4 ≤ 940) (j6 : k4 ≤ ksize) (jSk : sk bt ksize kto = sk bt ksize k4) (hm10 : 940 - k4 < n8 + 1) (jQ : sk bt ksize kto = k4) (jM : ¬ (klimit < ksize ∧ klimit ≤ k4)) (c15 : k4 < ksize) (e17 : y16 = ktapeF k4) (t18 : bt k4 < 256) (t19 : y16 = nI (bt k4)) (t24 : ¬ (97 ≤ y16.toInt ∧ y16.toInt ≤ 122)) (t112 : ¬ (48 ≤ y16.toInt ∧ y16.toInt ≤ 57)) (c196 : y16 = nI 59) : MT bt ksize klimit gq (nI 4) y16 k4 (k4 + 1) knumber kword := by
  have q1 := jM
  have q2 : k4 < ksize := by
    have kk0 := ia_n 0 (by decide)
    have kk1 := ia_n 1 (by decide)
    have b_knumber := ia_b knumber
    have b_y16 := ia_b y16
    have b_kword := Int64.toInt_lt kword
    try have k_0 := ia_n (bt k4) (by first | decide | omega)
    try have k_1 := ia_n 59 (by first | decide | omega)
    try simp only [ia_lt, ia_le, ia_eq, ia_m1, ia_0, ia_1, ne_eq, true_and, and_true, false_and, and_false, or_false, false_or, or_true, true_or, not_true_eq_false, not_false_eq_true] at *
    all_goals omega
  have hk7 := (hTM k4 (by omega)).1
  have hk8 := ia_n (bt k4) (by omega)
  have q3 : ¬ cAl (bt k4) := by
    have h8 := (hTM k4 (by omega)).1
    have hb8 := ia_n (bt k4) (by omega)
    unfold cAl cLe cDi
    have kk0 := ia_n 0 (by decide)
    have kk1 := ia_n 1 (by decide)
    have b_knumber := ia_b knumber
    have b_y16 := ia_b y16
    have b_kword := Int64.toInt_lt kword
    try have k_0 := ia_n (bt k4) (by first | decide | omega)
    try have k_1 := ia_n 59 (by first | decide | omega)
    try simp only [ia_lt, ia_le, ia_eq, ia_m1, ia_0, ia_1, ne_eq, true_and, and_true, false_and, and_false, or_false, false_or, or_true, true_or, not_true_eq_false, not_false_eq_true] at *
    all_goals omega
  have q5 : cSg (bt k4) := by
    have h8 := (hTM k4 (by omega)).1
    have hb8 := ia_n (bt k4) (by omega)
    unfold cSg
    have kk0 := ia_n 0 (by decide)
    have kk1 := ia_n 1 (by decide)
    have b_knumber := ia_b knumber
    have b_y16 := ia_b y16
    have b_kword := Int64.toInt_lt kword
    try have k_0 := ia_n (bt k4) (by first | decide | omega)
    try have k_1 := ia_n 59 (by first | decide | omega)
    try simp only [ia_lt, ia_le, ia_eq, ia_m1, ia_0, ia_1, ne_eq, true_and, and_true, false_and, and_false, or_false, false_or, or_true, true_or, not_true_eq_false, not_false_eq_true] at *
    all_goals omega
  have q6 : y16 = nI (bt k4) := by assumption
  subst hgq
  rw [q6]
  exact MT_sgy jQ q1 q2 q3 q5
set_option maxRecDepth 20000 in
theorem lf_g_go_75 (bt : Nat → Nat) (ksize : Nat) (klimit : Nat) (kto : Nat) (ktapeF : Nat → Int32) (gq : Nat) (k4 : Nat) (n8 : Nat) (y16 : Int32) (iv_ko_1 : ksize ≤ 940) (iv_ko_2 : klimit ≤ 900) (iv_ko_3 : kto ≤ ksize) (hTM : TM bt ktapeF) (hgq : kto = gq) (j5 : k4 ≤ 940) (j6 : k4 ≤ ksize) (jSk : sk bt ksize kto = sk bt ksize k4) (hm10 : 940 - k4 < n8 + 1) (jQ : sk bt ksize kto = k4) (jM : ¬ (klimit < ksize ∧ klimit ≤ k4)) (c15 : k4 < ksize) (e17 : y16 = ktapeF k4) (t18 : bt k4 < 256) (t19 : y16 = nI (bt k4)) (t24 : ¬ (97 ≤ y16.toInt ∧ y16.toInt ≤ 122)) (t112 : ¬ (48 ≤ y16.toInt ∧ y16.toInt ≤ 57)) (c196 : ¬ y16 = nI 59) (c197 : y16 = nI 60) : (k4 + 1) ≤ ksize := by
  have b_y16 := ia_b y16
  try have k_0 := ia_n (bt k4) (by first | decide | omega)
  try have k_1 := ia_n 59 (by first | decide | omega)
  try have k_2 := ia_n 60 (by first | decide | omega)
  try simp only [ia_lt, ia_le, ia_eq, ia_m1, ia_0, ia_1, ne_eq, true_and, and_true, false_and, and_false, or_false, false_or, or_true, true_or, not_true_eq_false, not_false_eq_true] at *
  all_goals omega
set_option maxRecDepth 20000 in
theorem lf_g_go_76 (bt : Nat → Nat) (ksize : Nat) (klimit : Nat) (kto : Nat) (knumber : Int32) (kword : Int64) (ktapeF : Nat → Int32) (gq : Nat) (k4 : Nat) (n8 : Nat) (y16 : Int32) (iv_ko_1 : ksize ≤ 940) (iv_ko_2 : klimit ≤ 900) (iv_ko_3 : kto ≤ ksize) (hTM : TM bt ktapeF) (hgq : kto = gq) (j5 : k4 ≤ 940) (j6 : k4 ≤ ksize) (jSk : sk bt ksize kto = sk bt ksize k4) (hm10 : 940 - k4 < n8 + 1) (jQ : sk bt ksize kto = k4) (jM : ¬ (klimit < ksize ∧ klimit ≤ k4)) (c15 : k4 < ksize) (e17 : y16 = ktapeF k4) (t18 : bt k4 < 256) (t19 : y16 = nI (bt k4)) (t24 : ¬ (97 ≤ y16.toInt ∧ y16.toInt ≤ 122)) (t112 : ¬ (48 ≤ y16.toInt ∧ y16.toInt ≤ 57)) (c196 : ¬ y16 = nI 59) (c197 : y16 = nI 60) : MT bt ksize klimit gq (nI 4) y16 k4 (k4 + 1) knumber kword := by
  have q1 := jM
  have q2 : k4 < ksize := by
    have kk0 := ia_n 0 (by decide)
    have kk1 := ia_n 1 (by decide)
    have b_knumber := ia_b knumber
    have b_y16 := ia_b y16
    have b_kword := Int64.toInt_lt kword
    try have k_0 := ia_n (bt k4) (by first | decide | omega)
    try have k_1 := ia_n 59 (by first | decide | omega)
    try have k_2 := ia_n 60 (by first | decide | omega)
    try simp only [ia_lt, ia_le, ia_eq, ia_m1, ia_0, ia_1, ne_eq, true_and, and_true, false_and, and_false, or_false, false_or, or_true, true_or, not_true_eq_false, not_false_eq_true] at *
    all_goals omega
  have hk7 := (hTM k4 (by omega)).1
  have hk8 := ia_n (bt k4) (by omega)
  have q3 : ¬ cAl (bt k4) := by
    have h8 := (hTM k4 (by omega)).1
    have hb8 := ia_n (bt k4) (by omega)
    unfold cAl cLe cDi
    have kk0 := ia_n 0 (by decide)
    have kk1 := ia_n 1 (by decide)
    have b_knumber := ia_b knumber
    have b_y16 := ia_b y16
    have b_kword := Int64.toInt_lt kword
    try have k_0 := ia_n (bt k4) (by first | decide | omega)
    try have k_1 := ia_n 59 (by first | decide | omega)
    try have k_2 := ia_n 60 (by first | decide | omega)
    try simp only [ia_lt, ia_le, ia_eq, ia_m1, ia_0, ia_1, ne_eq, true_and, and_true, false_and, and_false, or_false, false_or, or_true, true_or, not_true_eq_false, not_false_eq_true] at *
    all_goals omega
  have q5 : cSg (bt k4) := by
    have h8 := (hTM k4 (by omega)).1
    have hb8 := ia_n (bt k4) (by omega)
    unfold cSg
    have kk0 := ia_n 0 (by decide)
    have kk1 := ia_n 1 (by decide)
    have b_knumber := ia_b knumber
    have b_y16 := ia_b y16
    have b_kword := Int64.toInt_lt kword
    try have k_0 := ia_n (bt k4) (by first | decide | omega)
    try have k_1 := ia_n 59 (by first | decide | omega)
    try have k_2 := ia_n 60 (by first | decide | omega)
    try simp only [ia_lt, ia_le, ia_eq, ia_m1, ia_0, ia_1, ne_eq, true_and, and_true, false_and, and_false, or_false, false_or, or_true, true_or, not_true_eq_false, not_false_eq_true] at *
    all_goals omega
  have q6 : y16 = nI (bt k4) := by assumption
  subst hgq
  rw [q6]
  exact MT_sgy jQ q1 q2 q3 q5
set_option maxRecDepth 20000 in
theorem lf_g_go_77 (bt : Nat → Nat) (ksize : Nat) (klimit : Nat) (kto : Nat) (ktapeF : Nat → Int32) (gq : Nat) (k4 : Nat) (n8 : Nat) (y16 : Int32) (iv_ko_1 : ksize ≤ 940) (iv_ko_2 : klimit ≤ 900) (iv_ko_3 : kto ≤ ksize) (hTM : TM bt ktapeF) (hgq : kto = gq) (j5 : k4 ≤ 940) (j6 : k4 ≤ ksize) (jSk : sk bt ksize kto = sk bt ksize k4) (hm10 : 940 - k4 < n8 + 1) (jQ : sk bt ksize kto = k4) (jM : ¬ (klimit < ksize ∧ klimit ≤ k4)) (c15 : k4 < ksize) (e17 : y16 = ktapeF k4) (t18 : bt k4 < 256) (t19 : y16 = nI (bt k4)) (t24 : ¬ (97 ≤ y16.toInt ∧ y16.toInt ≤ 122)) (t112 : ¬ (48 ≤ y16.toInt ∧ y16.toInt ≤ 57)) (c196 : ¬ y16 = nI 59) (c197 : ¬ y16 = nI 60) (c198 : y16 = nI 61) : (k4 + 1) ≤ ksize := by
  have b_y16 := ia_b y16
  try have k_0 := ia_n (bt k4) (by first | decide | omega)
  try have k_1 := ia_n 59 (by first | decide | omega)
  try have k_2 := ia_n 60 (by first | decide | omega)
  try have k_3 := ia_n 61 (by first | decide | omega)
  try simp only [ia_lt, ia_le, ia_eq, ia_m1, ia_0, ia_1, ne_eq, true_and, and_true, false_and, and_false, or_false, false_or, or_true, true_or, not_true_eq_false, not_false_eq_true] at *
  all_goals omega
set_option maxRecDepth 20000 in
theorem lf_g_go_78 (bt : Nat → Nat) (ksize : Nat) (klimit : Nat) (kto : Nat) (knumber : Int32) (kword : Int64) (ktapeF : Nat → Int32) (gq : Nat) (k4 : Nat) (n8 : Nat) (y16 : Int32) (iv_ko_1 : ksize ≤ 940) (iv_ko_2 : klimit ≤ 900) (iv_ko_3 : kto ≤ ksize) (hTM : TM bt ktapeF) (hgq : kto = gq) (j5 : k4 ≤ 940) (j6 : k4 ≤ ksize) (jSk : sk bt ksize kto = sk bt ksize k4) (hm10 : 940 - k4 < n8 + 1) (jQ : sk bt ksize kto = k4) (jM : ¬ (klimit < ksize ∧ klimit ≤ k4)) (c15 : k4 < ksize) (e17 : y16 = ktapeF k4) (t18 : bt k4 < 256) (t19 : y16 = nI (bt k4)) (t24 : ¬ (97 ≤ y16.toInt ∧ y16.toInt ≤ 122)) (t112 : ¬ (48 ≤ y16.toInt ∧ y16.toInt ≤ 57)) (c196 : ¬ y16 = nI 59) (c197 : ¬ y16 = nI 60) (c198 : y16 = nI 61) : MT bt ksize klimit gq (nI 4) y16 k4 (k4 + 1) knumber kword := by
  have q1 := jM
  have q2 : k4 < ksize := by
    have kk0 := ia_n 0 (by decide)
    have kk1 := ia_n 1 (by decide)
    have b_knumber := ia_b knumber
    have b_y16 := ia_b y16
    have b_kword := Int64.toInt_lt kword
    try have k_0 := ia_n (bt k4) (by first | decide | omega)
    try have k_1 := ia_n 59 (by first | decide | omega)
    try have k_2 := ia_n 60 (by first | decide | omega)
    try have k_3 := ia_n 61 (by first | decide | omega)
    try simp only [ia_lt, ia_le, ia_eq, ia_m1, ia_0, ia_1, ne_eq, true_and, and_true, false_and, and_false, or_false, false_or, or_true, true_or, not_true_eq_false, not_false_eq_true] at *
    all_goals omega
  have hk7 := (hTM k4 (by omega)).1
  have hk8 := ia_n (bt k4) (by omega)
  have q3 : ¬ cAl (bt k4) := by
    have h8 := (hTM k4 (by omega)).1
    have hb8 := ia_n (bt k4) (by omega)
    unfold cAl cLe cDi
    have kk0 := ia_n 0 (by decide)
    have kk1 := ia_n 1 (by decide)
    have b_knumber := ia_b knumber
    have b_y16 := ia_b y16
    have b_kword := Int64.toInt_lt kword
    try have k_0 := ia_n (bt k4) (by first | decide | omega)
    try have k_1 := ia_n 59 (by first | decide | omega)
    try have k_2 := ia_n 60 (by first | decide | omega)
    try have k_3 := ia_n 61 (by first | decide | omega)
    try simp only [ia_lt, ia_le, ia_eq, ia_m1, ia_0, ia_1, ne_eq, true_and, and_true, false_and, and_false, or_false, false_or, or_true, true_or, not_true_eq_false, not_false_eq_true] at *
    all_goals omega
  have q5 : cSg (bt k4) := by
    have h8 := (hTM k4 (by omega)).1
    have hb8 := ia_n (bt k4) (by omega)
    unfold cSg
    have kk0 := ia_n 0 (by decide)
    have kk1 := ia_n 1 (by decide)
    have b_knumber := ia_b knumber
    have b_y16 := ia_b y16
    have b_kword := Int64.toInt_lt kword
    try have k_0 := ia_n (bt k4) (by first | decide | omega)
    try have k_1 := ia_n 59 (by first | decide | omega)
    try have k_2 := ia_n 60 (by first | decide | omega)
    try have k_3 := ia_n 61 (by first | decide | omega)
    try simp only [ia_lt, ia_le, ia_eq, ia_m1, ia_0, ia_1, ne_eq, true_and, and_true, false_and, and_false, or_false, false_or, or_true, true_or, not_true_eq_false, not_false_eq_true] at *
    all_goals omega
  have q6 : y16 = nI (bt k4) := by assumption
  subst hgq
  rw [q6]
  exact MT_sgy jQ q1 q2 q3 q5
set_option maxRecDepth 20000 in
theorem lf_g_go_79 (bt : Nat → Nat) (ksize : Nat) (klimit : Nat) (kto : Nat) (ktapeF : Nat → Int32) (gq : Nat) (k4 : Nat) (n8 : Nat) (y16 : Int32) (iv_ko_1 : ksize ≤ 940) (iv_ko_2 : klimit ≤ 900) (iv_ko_3 : kto ≤ ksize) (hTM : TM bt ktapeF) (hgq : kto = gq) (j5 : k4 ≤ 940) (j6 : k4 ≤ ksize) (jSk : sk bt ksize kto = sk bt ksize k4) (hm10 : 940 - k4 < n8 + 1) (jQ : sk bt ksize kto = k4) (jM : ¬ (klimit < ksize ∧ klimit ≤ k4)) (c15 : k4 < ksize) (e17 : y16 = ktapeF k4) (t18 : bt k4 < 256) (t19 : y16 = nI (bt k4)) (t24 : ¬ (97 ≤ y16.toInt ∧ y16.toInt ≤ 122)) (t112 : ¬ (48 ≤ y16.toInt ∧ y16.toInt ≤ 57)) (c196 : ¬ y16 = nI 59) (c197 : ¬ y16 = nI 60) (c198 : ¬ y16 = nI 61) (c199 : y16 = nI 62) : (k4 + 1) ≤ ksize := by
  have b_y16 := ia_b y16
  try have k_0 := ia_n (bt k4) (by first | decide | omega)
  try have k_1 := ia_n 59 (by first | decide | omega)
  try have k_2 := ia_n 60 (by first | decide | omega)
  try have k_3 := ia_n 61 (by first | decide | omega)
  try have k_4 := ia_n 62 (by first | decide | omega)
  try simp only [ia_lt, ia_le, ia_eq, ia_m1, ia_0, ia_1, ne_eq, true_and, and_true, false_and, and_false, or_false, false_or, or_true, true_or, not_true_eq_false, not_false_eq_true] at *
  all_goals omega
set_option maxRecDepth 20000 in
theorem lf_g_go_80 (bt : Nat → Nat) (ksize : Nat) (klimit : Nat) (kto : Nat) (knumber : Int32) (kword : Int64) (ktapeF : Nat → Int32) (gq : Nat) (k4 : Nat) (n8 : Nat) (y16 : Int32) (iv_ko_1 : ksize ≤ 940) (iv_ko_2 : klimit ≤ 900) (iv_ko_3 : kto ≤ ksize) (hTM : TM bt ktapeF) (hgq : kto = gq) (j5 : k4 ≤ 940) (j6 : k4 ≤ ksize) (jSk : sk bt ksize kto = sk bt ksize k4) (hm10 : 940 - k4 < n8 + 1) (jQ : sk bt ksize kto = k4) (jM : ¬ (klimit < ksize ∧ klimit ≤ k4)) (c15 : k4 < ksize) (e17 : y16 = ktapeF k4) (t18 : bt k4 < 256) (t19 : y16 = nI (bt k4)) (t24 : ¬ (97 ≤ y16.toInt ∧ y16.toInt ≤ 122)) (t112 : ¬ (48 ≤ y16.toInt ∧ y16.toInt ≤ 57)) (c196 : ¬ y16 = nI 59) (c197 : ¬ y16 = nI 60) (c198 : ¬ y16 = nI 61) (c199 : y16 = nI 62) : MT bt ksize klimit gq (nI 4) y16 k4 (k4 + 1) knumber kword := by
  have q1 := jM
  have q2 : k4 < ksize := by
    have kk0 := ia_n 0 (by decide)
    have kk1 := ia_n 1 (by decide)
    have b_knumber := ia_b knumber
    have b_y16 := ia_b y16
    have b_kword := Int64.toInt_lt kword
    try have k_0 := ia_n (bt k4) (by first | decide | omega)
    try have k_1 := ia_n 59 (by first | decide | omega)
    try have k_2 := ia_n 60 (by first | decide | omega)
    try have k_3 := ia_n 61 (by first | decide | omega)
    try have k_4 := ia_n 62 (by first | decide | omega)
    try simp only [ia_lt, ia_le, ia_eq, ia_m1, ia_0, ia_1, ne_eq, true_and, and_true, false_and, and_false, or_false, false_or, or_true, true_or, not_true_eq_false, not_false_eq_true] at *
    all_goals omega
  have hk7 := (hTM k4 (by omega)).1
  have hk8 := ia_n (bt k4) (by omega)
  have q3 : ¬ cAl (bt k4) := by
    have h8 := (hTM k4 (by omega)).1
    have hb8 := ia_n (bt k4) (by omega)
    unfold cAl cLe cDi
    have kk0 := ia_n 0 (by decide)
    have kk1 := ia_n 1 (by decide)
    have b_knumber := ia_b knumber
    have b_y16 := ia_b y16
    have b_kword := Int64.toInt_lt kword
    try have k_0 := ia_n (bt k4) (by first | decide | omega)
    try have k_1 := ia_n 59 (by first | decide | omega)
    try have k_2 := ia_n 60 (by first | decide | omega)
    try have k_3 := ia_n 61 (by first | decide | omega)
    try have k_4 := ia_n 62 (by first | decide | omega)
    try simp only [ia_lt, ia_le, ia_eq, ia_m1, ia_0, ia_1, ne_eq, true_and, and_true, false_and, and_false, or_false, false_or, or_true, true_or, not_true_eq_false, not_false_eq_true] at *
    all_goals omega
  have q5 : cSg (bt k4) := by
    have h8 := (hTM k4 (by omega)).1
    have hb8 := ia_n (bt k4) (by omega)
    unfold cSg
    have kk0 := ia_n 0 (by decide)
    have kk1 := ia_n 1 (by decide)
    have b_knumber := ia_b knumber
    have b_y16 := ia_b y16
    have b_kword := Int64.toInt_lt kword
    try have k_0 := ia_n (bt k4) (by first | decide | omega)
    try have k_1 := ia_n 59 (by first | decide | omega)
    try have k_2 := ia_n 60 (by first | decide | omega)
    try have k_3 := ia_n 61 (by first | decide | omega)
    try have k_4 := ia_n 62 (by first | decide | omega)
    try simp only [ia_lt, ia_le, ia_eq, ia_m1, ia_0, ia_1, ne_eq, true_and, and_true, false_and, and_false, or_false, false_or, or_true, true_or, not_true_eq_false, not_false_eq_true] at *
    all_goals omega
  have q6 : y16 = nI (bt k4) := by assumption
  subst hgq
  rw [q6]
  exact MT_sgy jQ q1 q2 q3 q5
set_option maxRecDepth 20000 in
theorem lf_g_go_81 (bt : Nat → Nat) (ksize : Nat) (klimit : Nat) (kto : Nat) (ktapeF : Nat → Int32) (gq : Nat) (k4 : Nat) (n8 : Nat) (y16 : Int32) (iv_ko_1 : ksize ≤ 940) (iv_ko_2 : klimit ≤ 900) (iv_ko_3 : kto ≤ ksize) (hTM : TM bt ktapeF) (hgq : kto = gq) (j5 : k4 ≤ 940) (j6 : k4 ≤ ksize) (jSk : sk bt ksize kto = sk bt ksize k4) (hm10 : 940 - k4 < n8 + 1) (jQ : sk bt ksize kto = k4) (jM : ¬ (klimit < ksize ∧ klimit ≤ k4)) (c15 : k4 < ksize) (e17 : y16 = ktapeF k4) (t18 : bt k4 < 256) (t19 : y16 = nI (bt k4)) (t24 : ¬ (97 ≤ y16.toInt ∧ y16.toInt ≤ 122)) (t112 : ¬ (48 ≤ y16.toInt ∧ y16.toInt ≤ 57)) (c196 : ¬ y16 = nI 59) (c197 : ¬ y16 = nI 60) (c198 : ¬ y16 = nI 61) (c199 : ¬ y16 = nI 62) (c200 : y16 = nI 40) : (k4 + 1) ≤ ksize := by
  have b_y16 := ia_b y16
  try have k_0 := ia_n (bt k4) (by first | decide | omega)
  try have k_1 := ia_n 59 (by first | decide | omega)
  try have k_2 := ia_n 60 (by first | decide | omega)
  try have k_3 := ia_n 61 (by first | decide | omega)
  try have k_4 := ia_n 62 (by first | decide | omega)
  try have k_5 := ia_n 40 (by first | decide | omega)
  try simp only [ia_lt, ia_le, ia_eq, ia_m1, ia_0, ia_1, ne_eq, true_and, and_true, false_and, and_false, or_false, false_or, or_true, true_or, not_true_eq_false, not_false_eq_true] at *
  all_goals omega
set_option maxRecDepth 20000 in
theorem lf_g_go_82 (bt : Nat → Nat) (ksize : Nat) (klimit : Nat) (kto : Nat) (knumber : Int32) (kword : Int64) (ktapeF : Nat → Int32) (gq : Nat) (k4 : Nat) (n8 : Nat) (y16 : Int32) (iv_ko_1 : ksize ≤ 940) (iv_ko_2 : klimit ≤ 900) (iv_ko_3 : kto ≤ ksize) (hTM : TM bt ktapeF) (hgq : kto = gq) (j5 : k4 ≤ 940) (j6 : k4 ≤ ksize) (jSk : sk bt ksize kto = sk bt ksize k4) (hm10 : 940 - k4 < n8 + 1) (jQ : sk bt ksize kto = k4) (jM : ¬ (klimit < ksize ∧ klimit ≤ k4)) (c15 : k4 < ksize) (e17 : y16 = ktapeF k4) (t18 : bt k4 < 256) (t19 : y16 = nI (bt k4)) (t24 : ¬ (97 ≤ y16.toInt ∧ y16.toInt ≤ 122)) (t112 : ¬ (48 ≤ y16.toInt ∧ y16.toInt ≤ 57)) (c196 : ¬ y16 = nI 59) (c197 : ¬ y16 = nI 60) (c198 : ¬ y16 = nI 61) (c199 : ¬ y16 = nI 62) (c200 : y16 = nI 40) : MT bt ksize klimit gq (nI 4) y16 k4 (k4 + 1) knumber kword := by
  have q1 := jM
  have q2 : k4 < ksize := by
    have kk0 := ia_n 0 (by decide)
    have kk1 := ia_n 1 (by decide)
    have b_knumber := ia_b knumber
    have b_y16 := ia_b y16
    have b_kword := Int64.toInt_lt kword
    try have k_0 := ia_n (bt k4) (by first | decide | omega)
    try have k_1 := ia_n 59 (by first | decide | omega)
    try have k_2 := ia_n 60 (by first | decide | omega)
    try have k_3 := ia_n 61 (by first | decide | omega)
    try have k_4 := ia_n 62 (by first | decide | omega)
    try have k_5 := ia_n 40 (by first | decide | omega)
    try simp only [ia_lt, ia_le, ia_eq, ia_m1, ia_0, ia_1, ne_eq, true_and, and_true, false_and, and_false, or_false, false_or, or_true, true_or, not_true_eq_false, not_false_eq_true] at *
    all_goals omega
  have hk7 := (hTM k4 (by omega)).1
  have hk8 := ia_n (bt k4) (by omega)
  have q3 : ¬ cAl (bt k4) := by
    have h8 := (hTM k4 (by omega)).1
    have hb8 := ia_n (bt k4) (by omega)
    unfold cAl cLe cDi
    have kk0 := ia_n 0 (by decide)
    have kk1 := ia_n 1 (by decide)
    have b_knumber := ia_b knumber
    have b_y16 := ia_b y16
    have b_kword := Int64.toInt_lt kword
    try have k_0 := ia_n (bt k4) (by first | decide | omega)
    try have k_1 := ia_n 59 (by first | decide | omega)
    try have k_2 := ia_n 60 (by first | decide | omega)
    try have k_3 := ia_n 61 (by first | decide | omega)
    try have k_4 := ia_n 62 (by first | decide | omega)
    try have k_5 := ia_n 40 (by first | decide | omega)
    try simp only [ia_lt, ia_le, ia_eq, ia_m1, ia_0, ia_1, ne_eq, true_and, and_true, false_and, and_false, or_false, false_or, or_true, true_or, not_true_eq_false, not_false_eq_true] at *
    all_goals omega
  have q5 : cSg (bt k4) := by
    have h8 := (hTM k4 (by omega)).1
    have hb8 := ia_n (bt k4) (by omega)
    unfold cSg
    have kk0 := ia_n 0 (by decide)
    have kk1 := ia_n 1 (by decide)
    have b_knumber := ia_b knumber
    have b_y16 := ia_b y16
    have b_kword := Int64.toInt_lt kword
    try have k_0 := ia_n (bt k4) (by first | decide | omega)
    try have k_1 := ia_n 59 (by first | decide | omega)
    try have k_2 := ia_n 60 (by first | decide | omega)
    try have k_3 := ia_n 61 (by first | decide | omega)
    try have k_4 := ia_n 62 (by first | decide | omega)
    try have k_5 := ia_n 40 (by first | decide | omega)
    try simp only [ia_lt, ia_le, ia_eq, ia_m1, ia_0, ia_1, ne_eq, true_and, and_true, false_and, and_false, or_false, false_or, or_true, true_or, not_true_eq_false, not_false_eq_true] at *
    all_goals omega
  have q6 : y16 = nI (bt k4) := by assumption
  subst hgq
  rw [q6]
  exact MT_sgy jQ q1 q2 q3 q5
set_option maxRecDepth 20000 in
theorem lf_g_go_83 (bt : Nat → Nat) (ksize : Nat) (klimit : Nat) (kto : Nat) (ktapeF : Nat → Int32) (gq : Nat) (k4 : Nat) (n8 : Nat) (y16 : Int32) (iv_ko_1 : ksize ≤ 940) (iv_ko_2 : klimit ≤ 900) (iv_ko_3 : kto ≤ ksize) (hTM : TM bt ktapeF) (hgq : kto = gq) (j5 : k4 ≤ 940) (j6 : k4 ≤ ksize) (jSk : sk bt ksize kto = sk bt ksize k4) (hm10 : 940 - k4 < n8 + 1) (jQ : sk bt ksize kto = k4) (jM : ¬ (klimit < ksize ∧ klimit ≤ k4)) (c15 : k4 < ksize) (e17 : y16 = ktapeF k4) (t18 : bt k4 < 256) (t19 : y16 = nI (bt k4)) (t24 : ¬ (97 ≤ y16.toInt ∧ y16.toInt ≤ 122)) (t112 : ¬ (48 ≤ y16.toInt ∧ y16.toInt ≤ 57)) (c196 : ¬ y16 = nI 59) (c197 : ¬ y16 = nI 60) (c198 : ¬ y16 = nI 61) (c199 : ¬ y16 = nI 62) (c200 : ¬ y16 = nI 40) (c201 : y16 ≠ nI 41) : (k4 + 1) ≤ ksize := by
  have b_y16 := ia_b y16
  try have k_0 := ia_n (bt k4) (by first | decide | omega)
  try have k_1 := ia_n 59 (by first | decide | omega)
  try have k_2 := ia_n 60 (by first | decide | omega)
  try have k_3 := ia_n 61 (by first | decide | omega)
  try have k_4 := ia_n 62 (by first | decide | omega)
  try have k_5 := ia_n 40 (by first | decide | omega)
  try have k_6 := ia_n 41 (by first | decide | omega)
  try simp only [ia_lt, ia_le, ia_eq, ia_m1, ia_0, ia_1, ne_eq, true_and, and_true, false_and, and_false, or_false, false_or, or_true, true_or, not_true_eq_false, not_false_eq_true] at *
  all_goals omega
set_option maxRecDepth 20000 in
theorem lf_g_go_84 (bt : Nat → Nat) (ksize : Nat) (klimit : Nat) (kto : Nat) (knumber : Int32) (kword : Int64) (ktapeF : Nat → Int32) (gq : Nat) (k4 : Nat) (n8 : Nat) (y16 : Int32) (iv_ko_1 : ksize ≤ 940) (iv_ko_2 : klimit ≤ 900) (iv_ko_3 : kto ≤ ksize) (hTM : TM bt ktapeF) (hgq : kto = gq) (j5 : k4 ≤ 940) (j6 : k4 ≤ ksize) (jSk : sk bt ksize kto = sk bt ksize k4) (hm10 : 940 - k4 < n8 + 1) (jQ : sk bt ksize kto = k4) (jM : ¬ (klimit < ksize ∧ klimit ≤ k4)) (c15 : k4 < ksize) (e17 : y16 = ktapeF k4) (t18 : bt k4 < 256) (t19 : y16 = nI (bt k4)) (t24 : ¬ (97 ≤ y16.toInt ∧ y16.toInt ≤ 122)) (t112 : ¬ (48 ≤ y16.toInt ∧ y16.toInt ≤ 57)) (c196 : ¬ y16 = nI 59) (c197 : ¬ y16 = nI 60) (c198 : ¬ y16 = nI 61) (c199 : ¬ y16 = nI 62) (c200 : ¬ y16 = nI 40) (c201 : y16 ≠ nI 41) : MT bt ksize klimit gq (nI 1) y16 k4 (k4 + 1) knumber kword := by
  have q1 := jM
  have q2 : k4 < ksize := by
    have kk0 := ia_n 0 (by decide)
    have kk1 := ia_n 1 (by decide)
    have b_knumber := ia_b knumber
    have b_y16 := ia_b y16
    have b_kword := Int64.toInt_lt kword
    try have k_0 := ia_n (bt k4) (by first | decide | omega)
    try have k_1 := ia_n 59 (by first | decide | omega)
    try have k_2 := ia_n 60 (by first | decide | omega)
    try have k_3 := ia_n 61 (by first | decide | omega)
    try have k_4 := ia_n 62 (by first | decide | omega)
    try have k_5 := ia_n 40 (by first | decide | omega)
    try have k_6 := ia_n 41 (by first | decide | omega)
    try simp only [ia_lt, ia_le, ia_eq, ia_m1, ia_0, ia_1, ne_eq, true_and, and_true, false_and, and_false, or_false, false_or, or_true, true_or, not_true_eq_false, not_false_eq_true] at *
    all_goals omega
  have hk7 := (hTM k4 (by omega)).1
  have hk8 := ia_n (bt k4) (by omega)
  have q3 : ¬ cAl (bt k4) := by
    have h8 := (hTM k4 (by omega)).1
    have hb8 := ia_n (bt k4) (by omega)
    unfold cAl cLe cDi
    have kk0 := ia_n 0 (by decide)
    have kk1 := ia_n 1 (by decide)
    have b_knumber := ia_b knumber
    have b_y16 := ia_b y16
    have b_kword := Int64.toInt_lt kword
    try have k_0 := ia_n (bt k4) (by first | decide | omega)
    try have k_1 := ia_n 59 (by first | decide | omega)
    try have k_2 := ia_n 60 (by first | decide | omega)
    try have k_3 := ia_n 61 (by first | decide | omega)
    try have k_4 := ia_n 62 (by first | decide | omega)
    try have k_5 := ia_n 40 (by first | decide | omega)
    try have k_6 := ia_n 41 (by first | decide | omega)
    try simp only [ia_lt, ia_le, ia_eq, ia_m1, ia_0, ia_1, ne_eq, true_and, and_true, false_and, and_false, or_false, false_or, or_true, true_or, not_true_eq_false, not_false_eq_true] at *
    all_goals omega
  have q5 : ¬ cSg (bt k4) := by
    have h8 := (hTM k4 (by omega)).1
    have hb8 := ia_n (bt k4) (by omega)
    unfold cSg
    have kk0 := ia_n 0 (by decide)
    have kk1 := ia_n 1 (by decide)
    have b_knumber := ia_b knumber
    have b_y16 := ia_b y16
    have b_kword := Int64.toInt_lt kword
    try have k_0 := ia_n (bt k4) (by first | decide | omega)
    try have k_1 := ia_n 59 (by first | decide | omega)
    try have k_2 := ia_n 60 (by first | decide | omega)
    try have k_3 := ia_n 61 (by first | decide | omega)
    try have k_4 := ia_n 62 (by first | decide | omega)
    try have k_5 := ia_n 40 (by first | decide | omega)
    try have k_6 := ia_n 41 (by first | decide | omega)
    try simp only [ia_lt, ia_le, ia_eq, ia_m1, ia_0, ia_1, ne_eq, true_and, and_true, false_and, and_false, or_false, false_or, or_true, true_or, not_true_eq_false, not_false_eq_true] at *
    all_goals omega
  subst hgq
  exact MT_sgn jQ q1 q2 q3 q5
set_option maxRecDepth 20000 in
theorem lf_g_go_85 (bt : Nat → Nat) (ksize : Nat) (klimit : Nat) (kto : Nat) (ktapeF : Nat → Int32) (gq : Nat) (k4 : Nat) (n8 : Nat) (y16 : Int32) (iv_ko_1 : ksize ≤ 940) (iv_ko_2 : klimit ≤ 900) (iv_ko_3 : kto ≤ ksize) (hTM : TM bt ktapeF) (hgq : kto = gq) (j5 : k4 ≤ 940) (j6 : k4 ≤ ksize) (jSk : sk bt ksize kto = sk bt ksize k4) (hm10 : 940 - k4 < n8 + 1) (jQ : sk bt ksize kto = k4) (jM : ¬ (klimit < ksize ∧ klimit ≤ k4)) (c15 : k4 < ksize) (e17 : y16 = ktapeF k4) (t18 : bt k4 < 256) (t19 : y16 = nI (bt k4)) (t24 : ¬ (97 ≤ y16.toInt ∧ y16.toInt ≤ 122)) (t112 : ¬ (48 ≤ y16.toInt ∧ y16.toInt ≤ 57)) (c196 : ¬ y16 = nI 59) (c197 : ¬ y16 = nI 60) (c198 : ¬ y16 = nI 61) (c199 : ¬ y16 = nI 62) (c200 : ¬ y16 = nI 40) (c201 : y16 = nI 41) : (k4 + 1) ≤ ksize := by
  have b_y16 := ia_b y16
  try have k_0 := ia_n (bt k4) (by first | decide | omega)
  try have k_1 := ia_n 59 (by first | decide | omega)
  try have k_2 := ia_n 60 (by first | decide | omega)
  try have k_3 := ia_n 61 (by first | decide | omega)
  try have k_4 := ia_n 62 (by first | decide | omega)
  try have k_5 := ia_n 40 (by first | decide | omega)
  try have k_6 := ia_n 41 (by first | decide | omega)
  try simp only [ia_lt, ia_le, ia_eq, ia_m1, ia_0, ia_1, ne_eq, true_and, and_true, false_and, and_false, or_false, false_or, or_true, true_or, not_true_eq_false, not_false_eq_true] at *
  all_goals omega
set_option maxRecDepth 20000 in
theorem lf_g_go_86 (bt : Nat → Nat) (ksize : Nat) (klimit : Nat) (kto : Nat) (knumber : Int32) (kword : Int64) (ktapeF : Nat → Int32) (gq : Nat) (k4 : Nat) (n8 : Nat) (y16 : Int32) (iv_ko_1 : ksize ≤ 940) (iv_ko_2 : klimit ≤ 900) (iv_ko_3 : kto ≤ ksize) (hTM : TM bt ktapeF) (hgq : kto = gq) (j5 : k4 ≤ 940) (j6 : k4 ≤ ksize) (jSk : sk bt ksize kto = sk bt ksize k4) (hm10 : 940 - k4 < n8 + 1) (jQ : sk bt ksize kto = k4) (jM : ¬ (klimit < ksize ∧ klimit ≤ k4)) (c15 : k4 < ksize) (e17 : y16 = ktapeF k4) (t18 : bt k4 < 256) (t19 : y16 = nI (bt k4)) (t24 : ¬ (97 ≤ y16.toInt ∧ y16.toInt ≤ 122)) (t112 : ¬ (48 ≤ y16.toInt ∧ y16.toInt ≤ 57)) (c196 : ¬ y16 = nI 59) (c197 : ¬ y16 = nI 60) (c198 : ¬ y16 = nI 61) (c199 : ¬ y16 = nI 62) (c200 : ¬ y16 = nI 40) (c201 : y16 = nI 41) : MT bt ksize klimit gq (nI 4) y16 k4 (k4 + 1) knumber kword := by
  have q1 := jM
  have q2 : k4 < ksize := by
    have kk0 := ia_n 0 (by decide)
    have kk1 := ia_n 1 (by decide)
    have b_knumber := ia_b knumber
    have b_y16 := ia_b y16
    have b_kword := Int64.toInt_lt kword
    try have k_0 := ia_n (bt k4) (by first | decide | omega)
    try have k_1 := ia_n 59 (by first | decide | omega)
    try have k_2 := ia_n 60 (by first | decide | omega)
    try have k_3 := ia_n 61 (by first | decide | omega)
    try have k_4 := ia_n 62 (by first | decide | omega)
    try have k_5 := ia_n 40 (by first | decide | omega)
    try have k_6 := ia_n 41 (by first | decide | omega)
    try simp only [ia_lt, ia_le, ia_eq, ia_m1, ia_0, ia_1, ne_eq, true_and, and_true, false_and, and_false, or_false, false_or, or_true, true_or, not_true_eq_false, not_false_eq_true] at *
    all_goals omega
  have hk7 := (hTM k4 (by omega)).1
  have hk8 := ia_n (bt k4) (by omega)
  have q3 : ¬ cAl (bt k4) := by
    have h8 := (hTM k4 (by omega)).1
    have hb8 := ia_n (bt k4) (by omega)
    unfold cAl cLe cDi
    have kk0 := ia_n 0 (by decide)
    have kk1 := ia_n 1 (by decide)
    have b_knumber := ia_b knumber
    have b_y16 := ia_b y16
    have b_kword := Int64.toInt_lt kword
    try have k_0 := ia_n (bt k4) (by first | decide | omega)
    try have k_1 := ia_n 59 (by first | decide | omega)
    try have k_2 := ia_n 60 (by first | decide | omega)
    try have k_3 := ia_n 61 (by first | decide | omega)
    try have k_4 := ia_n 62 (by first | decide | omega)
    try have k_5 := ia_n 40 (by first | decide | omega)
    try have k_6 := ia_n 41 (by first | decide | omega)
    try simp only [ia_lt, ia_le, ia_eq, ia_m1, ia_0, ia_1, ne_eq, true_and, and_true, false_and, and_false, or_false, false_or, or_true, true_or, not_true_eq_false, not_false_eq_true] at *
    all_goals omega
  have q5 : cSg (bt k4) := by
    have h8 := (hTM k4 (by omega)).1
    have hb8 := ia_n (bt k4) (by omega)
    unfold cSg
    have kk0 := ia_n 0 (by decide)
    have kk1 := ia_n 1 (by decide)
    have b_knumber := ia_b knumber
    have b_y16 := ia_b y16
    have b_kword := Int64.toInt_lt kword
    try have k_0 := ia_n (bt k4) (by first | decide | omega)
    try have k_1 := ia_n 59 (by first | decide | omega)
    try have k_2 := ia_n 60 (by first | decide | omega)
    try have k_3 := ia_n 61 (by first | decide | omega)
    try have k_4 := ia_n 62 (by first | decide | omega)
    try have k_5 := ia_n 40 (by first | decide | omega)
    try have k_6 := ia_n 41 (by first | decide | omega)
    try simp only [ia_lt, ia_le, ia_eq, ia_m1, ia_0, ia_1, ne_eq, true_and, and_true, false_and, and_false, or_false, false_or, or_true, true_or, not_true_eq_false, not_false_eq_true] at *
    all_goals omega
  have q6 : y16 = nI (bt k4) := by assumption
  subst hgq
  rw [q6]
  exact MT_sgy jQ q1 q2 q3 q5
set_option maxRecDepth 20000 in
theorem lf_g_go_87 (bt : Nat → Nat) (ksize : Nat) (klimit : Nat) (kto : Nat) (knumber : Int32) (ksign : Int32) (kword : Int64) (ktapeF : Nat → Int32) (gq : Nat) (k4 : Nat) (n8 : Nat) (iv_ko_1 : ksize ≤ 940) (iv_ko_2 : klimit ≤ 900) (iv_ko_3 : kto ≤ ksize) (hTM : TM bt ktapeF) (hgq : kto = gq) (j5 : k4 ≤ 940) (j6 : k4 ≤ ksize) (jSk : sk bt ksize kto = sk bt ksize k4) (hm10 : 940 - k4 < n8 + 1) (jQ : sk bt ksize kto = k4) (jM : ¬ (klimit < ksize ∧ klimit ≤ k4)) (c15 : ksize ≤ k4) : MT bt ksize klimit gq (nI 0) ksign k4 k4 knumber kword := by
  have q1 := jM
  have q2 : ksize ≤ k4 := by
    have kk0 := ia_n 0 (by decide)
    have kk1 := ia_n 1 (by decide)
    have b_knumber := ia_b knumber
    have b_ksign := ia_b ksign
    have b_kword := Int64.toInt_lt kword
    try simp only [ia_lt, ia_le, ia_eq, ia_m1, ia_0, ia_1, ne_eq, true_and, and_true, false_and, and_false, or_false, false_or, or_true, true_or, not_true_eq_false, not_false_eq_true] at *
    all_goals omega
  subst hgq
  exact MT_end jQ q1 q2
set_option maxRecDepth 20000 in
theorem lf_g_go_88 (bt : Nat → Nat) (ksize : Nat) (klimit : Nat) (kto : Nat) (ktapeF : Nat → Int32) (gq : Nat) (k4 : Nat) (n8 : Nat) (iv_ko_1 : ksize ≤ 940) (iv_ko_2 : klimit ≤ 900) (iv_ko_3 : kto ≤ ksize) (hTM : TM bt ktapeF) (hgq : kto = gq) (j5 : k4 ≤ 940) (j6 : k4 ≤ ksize) (jSk : sk bt ksize kto = sk bt ksize k4) (hm10 : 940 - k4 < n8 + 1) (jQ : sk bt ksize kto = k4) (c13 : ksize ≤ klimit) : ¬ (klimit < ksize ∧ klimit ≤ k4) := by
  try simp only [ia_lt, ia_le, ia_eq, ia_m1, ia_0, ia_1, ne_eq, true_and, and_true, false_and, and_false, or_false, false_or, or_true, true_or, not_true_eq_false, not_false_eq_true] at *
  all_goals omega
set_option maxRecDepth 20000 in
theorem lf_g_go_89 (bt : Nat → Nat) (ksize : Nat) (klimit : Nat) (kto : Nat) (ktapeF : Nat → Int32) (gq : Nat) (k4 : Nat) (n8 : Nat) (iv_ko_1 : ksize ≤ 940) (iv_ko_2 : klimit ≤ 900) (iv_ko_3 : kto ≤ ksize) (hTM : TM bt ktapeF) (hgq : kto = gq) (j5 : k4 ≤ 940) (j6 : k4 ≤ ksize) (jSk : sk bt ksize kto = sk bt ksize k4) (hm10 : 940 - k4 < n8 + 1) (jQ : sk bt ksize kto = k4) (c13 : klimit < ksize) (c202 : k4 < klimit) : ¬ (klimit < ksize ∧ klimit ≤ k4) := by
  try simp only [ia_lt, ia_le, ia_eq, ia_m1, ia_0, ia_1, ne_eq, true_and, and_true, false_and, and_false, or_false, false_or, or_true, true_or, not_true_eq_false, not_false_eq_true] at *
  all_goals omega
set_option maxRecDepth 20000 in
theorem lf_g_go_90 (bt : Nat → Nat) (ksize : Nat) (klimit : Nat) (kto : Nat) (ktapeF : Nat → Int32) (gq : Nat) (k4 : Nat) (n8 : Nat) (iv_ko_1 : ksize ≤ 940) (iv_ko_2 : klimit ≤ 900) (iv_ko_3 : kto ≤ ksize) (hTM : TM bt ktapeF) (hgq : kto = gq) (j5 : k4 ≤ 940) (j6 : k4 ≤ ksize) (jSk : sk bt ksize kto = sk bt ksize k4) (hm10 : 940 - k4 < n8 + 1) (jQ : sk bt ksize kto = k4) (c13 : klimit < ksize) (c202 : klimit ≤ k4) : klimit ≤ 940 := by
  try simp only [ia_lt, ia_le, ia_eq, ia_m1, ia_0, ia_1, ne_eq, true_and, and_true, false_and, and_false, or_false, false_or, or_true, true_or, not_true_eq_false, not_false_eq_true] at *
  all_goals omega
set_option maxRecDepth 20000 in
theorem lf_g_go_91 (bt : Nat → Nat) (ksize : Nat) (klimit : Nat) (kto : Nat) (knumber : Int32) (ksign : Int32) (kword : Int64) (ktapeF : Nat → Int32) (gq : Nat) (k4 : Nat) (n8 : Nat) (iv_ko_1 : ksize ≤ 940) (iv_ko_2 : klimit ≤ 900) (iv_ko_3 : kto ≤ ksize) (hTM : TM bt ktapeF) (hgq : kto = gq) (j5 : k4 ≤ 940) (j6 : k4 ≤ ksize) (jSk : sk bt ksize kto = sk bt ksize k4) (hm10 : 940 - k4 < n8 + 1) (jQ : sk bt ksize kto = k4) (c13 : klimit < ksize) (c202 : klimit ≤ k4) : MT bt ksize klimit gq (nI 1) ksign klimit k4 knumber kword := by
  have q1 : klimit < ksize ∧ klimit ≤ k4 := by
    have kk0 := ia_n 0 (by decide)
    have kk1 := ia_n 1 (by decide)
    have b_knumber := ia_b knumber
    have b_ksign := ia_b ksign
    have b_kword := Int64.toInt_lt kword
    try simp only [ia_lt, ia_le, ia_eq, ia_m1, ia_0, ia_1, ne_eq, true_and, and_true, false_and, and_false, or_false, false_or, or_true, true_or, not_true_eq_false, not_false_eq_true] at *
    all_goals omega
  subst hgq
  exact MT_lim jQ q1.1 q1.2
set_option maxRecDepth 20000 in
theorem lf_g_go_92 (bt : Nat → Nat) (ksize : Nat) (kto : Nat) (ktapeF : Nat → Int32) (gq : Nat) (k4 : Nat) (n8 : Nat) (iv_ko_1 : ksize ≤ 940) (iv_ko_3 : kto ≤ ksize) (hTM : TM bt ktapeF) (hgq : kto = gq) (j5 : k4 ≤ 940) (j6 : k4 ≤ ksize) (jSk : sk bt ksize kto = sk bt ksize k4) (hm10 : 940 - k4 < n8 + 1) (c11 : ksize ≤ k4) : sk bt ksize kto = k4 := by
  rw [jSk]
  refine sk_stop (fun h9 => ?_)
  obtain ⟨h8, h9⟩ := h9
  unfold cBl at h9
  have h7 := (hTM k4 (by omega)).1
  have hb8 := ia_n (bt k4) (by omega)
  try simp only [ia_lt, ia_le, ia_eq, ia_m1, ia_0, ia_1, ne_eq, true_and, and_true, false_and, and_false, or_false, false_or, or_true, true_or, not_true_eq_false, not_false_eq_true] at *
  all_goals omega
set_option maxRecDepth 20000 in
theorem lf_g_go_93 (bt : Nat → Nat) (ksize : Nat) (kto : Nat) (ktapeF : Nat → Int32) (gq : Nat) (k4 : Nat) (n8 : Nat) (y203 : Int32) (iv_ko_1 : ksize ≤ 940) (iv_ko_3 : kto ≤ ksize) (hTM : TM bt ktapeF) (hgq : kto = gq) (j5 : k4 ≤ 940) (j6 : k4 ≤ ksize) (jSk : sk bt ksize kto = sk bt ksize k4) (hm10 : 940 - k4 < n8 + 1) (c11 : k4 < ksize) (e204 : y203 = ktapeF k4) : k4 < 940 := by
  have b_y203 := ia_b y203
  try simp only [ia_lt, ia_le, ia_eq, ia_m1, ia_0, ia_1, ne_eq, true_and, and_true, false_and, and_false, or_false, false_or, or_true, true_or, not_true_eq_false, not_false_eq_true] at *
  all_goals omega
set_option maxRecDepth 20000 in
theorem lf_g_go_94 (bt : Nat → Nat) (ksize : Nat) (kto : Nat) (ktapeF : Nat → Int32) (gq : Nat) (k4 : Nat) (n8 : Nat) (y203 : Int32) (iv_ko_1 : ksize ≤ 940) (iv_ko_3 : kto ≤ ksize) (hTM : TM bt ktapeF) (hgq : kto = gq) (j5 : k4 ≤ 940) (j6 : k4 ≤ ksize) (jSk : sk bt ksize kto = sk bt ksize k4) (hm10 : 940 - k4 < n8 + 1) (c11 : k4 < ksize) (e204 : y203 = ktapeF k4) : k4 < 940 := by
  have b_y203 := ia_b y203
  try simp only [ia_lt, ia_le, ia_eq, ia_m1, ia_0, ia_1, ne_eq, true_and, and_true, false_and, and_false, or_false, false_or, or_true, true_or, not_true_eq_false, not_false_eq_true] at *
  all_goals omega
set_option maxRecDepth 20000 in
theorem lf_g_go_95 (bt : Nat → Nat) (ksize : Nat) (kto : Nat) (ktapeF : Nat → Int32) (gq : Nat) (k4 : Nat) (n8 : Nat) (y203 : Int32) (iv_ko_1 : ksize ≤ 940) (iv_ko_3 : kto ≤ ksize) (hTM : TM bt ktapeF) (hgq : kto = gq) (j5 : k4 ≤ 940) (j6 : k4 ≤ ksize) (jSk : sk bt ksize kto = sk bt ksize k4) (hm10 : 940 - k4 < n8 + 1) (c11 : k4 < ksize) (e204 : y203 = ktapeF k4) (t205 : bt k4 < 256) (t206 : y203 = nI (bt k4)) (c207 : y203 = nI 32) : (k4 + 1) ≤ 940 := by
  have b_y203 := ia_b y203
  try have k_0 := ia_n (bt k4) (by first | decide | omega)
  try have k_1 := ia_n 32 (by first | decide | omega)
  try simp only [ia_lt, ia_le, ia_eq, ia_m1, ia_0, ia_1, ne_eq, true_and, and_true, false_and, and_false, or_false, false_or, or_true, true_or, not_true_eq_false, not_false_eq_true] at *
  all_goals omega
set_option maxRecDepth 20000 in
theorem lf_g_go_96 (bt : Nat → Nat) (ksize : Nat) (kto : Nat) (ktapeF : Nat → Int32) (gq : Nat) (k4 : Nat) (n8 : Nat) (y203 : Int32) (iv_ko_1 : ksize ≤ 940) (iv_ko_3 : kto ≤ ksize) (hTM : TM bt ktapeF) (hgq : kto = gq) (j5 : k4 ≤ 940) (j6 : k4 ≤ ksize) (jSk : sk bt ksize kto = sk bt ksize k4) (hm10 : 940 - k4 < n8 + 1) (c11 : k4 < ksize) (e204 : y203 = ktapeF k4) (t205 : bt k4 < 256) (t206 : y203 = nI (bt k4)) (c207 : y203 = nI 32) : (k4 + 1) ≤ ksize := by
  have b_y203 := ia_b y203
  try have k_0 := ia_n (bt k4) (by first | decide | omega)
  try have k_1 := ia_n 32 (by first | decide | omega)
  try simp only [ia_lt, ia_le, ia_eq, ia_m1, ia_0, ia_1, ne_eq, true_and, and_true, false_and, and_false, or_false, false_or, or_true, true_or, not_true_eq_false, not_false_eq_true] at *
  all_goals omega
set_option maxRecDepth 20000 in
theorem lf_g_go_97 (bt : Nat → Nat) (ksize : Nat) (kto : Nat) (ktapeF : Nat → Int32) (gq : Nat) (k4 : Nat) (n8 : Nat) (y203 : Int32) (iv_ko_1 : ksize ≤ 940) (iv_ko_3 : kto ≤ ksize) (hTM : TM bt ktapeF) (hgq : kto = gq) (j5 : k4 ≤ 940) (j6 : k4 ≤ ksize) (jSk : sk bt ksize kto = sk bt ksize k4) (hm10 : 940 - k4 < n8 + 1) (c11 : k4 < ksize) (e204 : y203 = ktapeF k4) (t205 : bt k4 < 256) (t206 : y203 = nI (bt k4)) (c207 : y203 = nI 32) : sk bt ksize kto = sk bt ksize (k4 + 1) := by
  rw [jSk]
  refine sk_step (by omega) ?_
  unfold cBl
  have hb8 := ia_n (bt k4) (by omega)
  have b_y203 := ia_b y203
  try have k_0 := ia_n (bt k4) (by first | decide | omega)
  try have k_1 := ia_n 32 (by first | decide | omega)
  try simp only [ia_lt, ia_le, ia_eq, ia_m1, ia_0, ia_1, ne_eq, true_and, and_true, false_and, and_false, or_false, false_or, or_true, true_or, not_true_eq_false, not_false_eq_true] at *
  all_goals omega
set_option maxRecDepth 20000 in
theorem lf_g_go_98 (bt : Nat → Nat) (ksize : Nat) (kto : Nat) (ktapeF : Nat → Int32) (gq : Nat) (k4 : Nat) (n8 : Nat) (y203 : Int32) (iv_ko_1 : ksize ≤ 940) (iv_ko_3 : kto ≤ ksize) (hTM : TM bt ktapeF) (hgq : kto = gq) (j5 : k4 ≤ 940) (j6 : k4 ≤ ksize) (jSk : sk bt ksize kto = sk bt ksize k4) (hm10 : 940 - k4 < n8 + 1) (c11 : k4 < ksize) (e204 : y203 = ktapeF k4) (t205 : bt k4 < 256) (t206 : y203 = nI (bt k4)) (c207 : y203 = nI 32) : 940 - (k4 + 1) < n8 := by
  have b_y203 := ia_b y203
  try have k_0 := ia_n (bt k4) (by first | decide | omega)
  try have k_1 := ia_n 32 (by first | decide | omega)
  try simp only [ia_lt, ia_le, ia_eq, ia_m1, ia_0, ia_1, ne_eq, true_and, and_true, false_and, and_false, or_false, false_or, or_true, true_or, not_true_eq_false, not_false_eq_true] at *
  all_goals omega
set_option maxRecDepth 20000 in
theorem lf_g_go_99 (bt : Nat → Nat) (ksize : Nat) (kto : Nat) (ktapeF : Nat → Int32) (gq : Nat) (k4 : Nat) (n8 : Nat) (y203 : Int32) (y208 : Int32) (iv_ko_1 : ksize ≤ 940) (iv_ko_3 : kto ≤ ksize) (hTM : TM bt ktapeF) (hgq : kto = gq) (j5 : k4 ≤ 940) (j6 : k4 ≤ ksize) (jSk : sk bt ksize kto = sk bt ksize k4) (hm10 : 940 - k4 < n8 + 1) (c11 : k4 < ksize) (e204 : y203 = ktapeF k4) (t205 : bt k4 < 256) (t206 : y203 = nI (bt k4)) (c207 : ¬ y203 = nI 32) (e209 : y208 = ktapeF k4) : k4 < 940 := by
  have b_y203 := ia_b y203
  have b_y208 := ia_b y208
  try have k_0 := ia_n (bt k4) (by first | decide | omega)
  try have k_1 := ia_n 32 (by first | decide | omega)
  try simp only [ia_lt, ia_le, ia_eq, ia_m1, ia_0, ia_1, ne_eq, true_and, and_true, false_and, and_false, or_false, false_or, or_true, true_or, not_true_eq_false, not_false_eq_true] at *
  all_goals omega
set_option maxRecDepth 20000 in
theorem lf_g_go_100 (bt : Nat → Nat) (ksize : Nat) (kto : Nat) (ktapeF : Nat → Int32) (gq : Nat) (k4 : Nat) (n8 : Nat) (y203 : Int32) (y208 : Int32) (iv_ko_1 : ksize ≤ 940) (iv_ko_3 : kto ≤ ksize) (hTM : TM bt ktapeF) (hgq : kto = gq) (j5 : k4 ≤ 940) (j6 : k4 ≤ ksize) (jSk : sk bt ksize kto = sk bt ksize k4) (hm10 : 940 - k4 < n8 + 1) (c11 : k4 < ksize) (e204 : y203 = ktapeF k4) (t205 : bt k4 < 256) (t206 : y203 = nI (bt k4)) (c207 : ¬ y203 = nI 32) (e209 : y208 = ktapeF k4) : k4 < 940 := by
  have b_y203 := ia_b y203
  have b_y208 := ia_b y208
  try have k_0 := ia_n (bt k4) (by first | decide | omega)
  try have k_1 := ia_n 32 (by first | decide | omega)
  try simp only [ia_lt, ia_le, ia_eq, ia_m1, ia_0, ia_1, ne_eq, true_and, and_true, false_and, and_false, or_false, false_or, or_true, true_or, not_true_eq_false, not_false_eq_true] at *
  all_goals omega
set_option maxRecDepth 20000 in
theorem lf_g_go_101 (bt : Nat → Nat) (ksize : Nat) (kto : Nat) (ktapeF : Nat → Int32) (gq : Nat) (k4 : Nat) (n8 : Nat) (y203 : Int32) (y208 : Int32) (iv_ko_1 : ksize ≤ 940) (iv_ko_3 : kto ≤ ksize) (hTM : TM bt ktapeF) (hgq : kto = gq) (j5 : k4 ≤ 940) (j6 : k4 ≤ ksize) (jSk : sk bt ksize kto = sk bt ksize k4) (hm10 : 940 - k4 < n8 + 1) (c11 : k4 < ksize) (e204 : y203 = ktapeF k4) (t205 : bt k4 < 256) (t206 : y203 = nI (bt k4)) (c207 : ¬ y203 = nI 32) (e209 : y208 = ktapeF k4) (t210 : bt k4 < 256) (t211 : y208 = nI (bt k4)) (c212 : y208 ≠ nI 10) : sk bt ksize kto = k4 := by
  rw [jSk]
  refine sk_stop (fun h9 => ?_)
  obtain ⟨h8, h9⟩ := h9
  unfold cBl at h9
  have h7 := (hTM k4 (by omega)).1
  have hb8 := ia_n (bt k4) (by omega)
  have b_y203 := ia_b y203
  have b_y208 := ia_b y208
  try have k_0 := ia_n (bt k4) (by first | decide | omega)
  try have k_1 := ia_n 32 (by first | decide | omega)
  try have k_2 := ia_n 10 (by first | decide | omega)
  try simp only [ia_lt, ia_le, ia_eq, ia_m1, ia_0, ia_1, ne_eq, true_and, and_true, false_and, and_false, or_false, false_or, or_true, true_or, not_true_eq_false, not_false_eq_true] at *
  all_goals omega
set_option maxRecDepth 20000 in
theorem lf_g_go_102 (bt : Nat → Nat) (ksize : Nat) (kto : Nat) (ktapeF : Nat → Int32) (gq : Nat) (k4 : Nat) (n8 : Nat) (y203 : Int32) (y208 : Int32) (iv_ko_1 : ksize ≤ 940) (iv_ko_3 : kto ≤ ksize) (hTM : TM bt ktapeF) (hgq : kto = gq) (j5 : k4 ≤ 940) (j6 : k4 ≤ ksize) (jSk : sk bt ksize kto = sk bt ksize k4) (hm10 : 940 - k4 < n8 + 1) (c11 : k4 < ksize) (e204 : y203 = ktapeF k4) (t205 : bt k4 < 256) (t206 : y203 = nI (bt k4)) (c207 : ¬ y203 = nI 32) (e209 : y208 = ktapeF k4) (t210 : bt k4 < 256) (t211 : y208 = nI (bt k4)) (c212 : y208 = nI 10) : (k4 + 1) ≤ 940 := by
  have b_y203 := ia_b y203
  have b_y208 := ia_b y208
  try have k_0 := ia_n (bt k4) (by first | decide | omega)
  try have k_1 := ia_n 32 (by first | decide | omega)
  try have k_2 := ia_n 10 (by first | decide | omega)
  try simp only [ia_lt, ia_le, ia_eq, ia_m1, ia_0, ia_1, ne_eq, true_and, and_true, false_and, and_false, or_false, false_or, or_true, true_or, not_true_eq_false, not_false_eq_true] at *
  all_goals omega
set_option maxRecDepth 20000 in
theorem lf_g_go_103 (bt : Nat → Nat) (ksize : Nat) (kto : Nat) (ktapeF : Nat → Int32) (gq : Nat) (k4 : Nat) (n8 : Nat) (y203 : Int32) (y208 : Int32) (iv_ko_1 : ksize ≤ 940) (iv_ko_3 : kto ≤ ksize) (hTM : TM bt ktapeF) (hgq : kto = gq) (j5 : k4 ≤ 940) (j6 : k4 ≤ ksize) (jSk : sk bt ksize kto = sk bt ksize k4) (hm10 : 940 - k4 < n8 + 1) (c11 : k4 < ksize) (e204 : y203 = ktapeF k4) (t205 : bt k4 < 256) (t206 : y203 = nI (bt k4)) (c207 : ¬ y203 = nI 32) (e209 : y208 = ktapeF k4) (t210 : bt k4 < 256) (t211 : y208 = nI (bt k4)) (c212 : y208 = nI 10) : (k4 + 1) ≤ ksize := by
  have b_y203 := ia_b y203
  have b_y208 := ia_b y208
  try have k_0 := ia_n (bt k4) (by first | decide | omega)
  try have k_1 := ia_n 32 (by first | decide | omega)
  try have k_2 := ia_n 10 (by first | decide | omega)
  try simp only [ia_lt, ia_le, ia_eq, ia_m1, ia_0, ia_1, ne_eq, true_and, and_true, false_and, and_false, or_false, false_or, or_true, true_or, not_true_eq_false, not_false_eq_true] at *
  all_goals omega
set_option maxRecDepth 20000 in
theorem lf_g_go_104 (bt : Nat → Nat) (ksize : Nat) (kto : Nat) (ktapeF : Nat → Int32) (gq : Nat) (k4 : Nat) (n8 : Nat) (y203 : Int32) (y208 : Int32) (iv_ko_1 : ksize ≤ 940) (iv_ko_3 : kto ≤ ksize) (hTM : TM bt ktapeF) (hgq : kto = gq) (j5 : k4 ≤ 940) (j6 : k4 ≤ ksize) (jSk : sk bt ksize kto = sk bt ksize k4) (hm10 : 940 - k4 < n8 + 1) (c11 : k4 < ksize) (e204 : y203 = ktapeF k4) (t205 : bt k4 < 256) (t206 : y203 = nI (bt k4)) (c207 : ¬ y203 = nI 32) (e209 : y208 = ktapeF k4) (t210 : bt k4 < 256) (t211 : y208 = nI (bt k4)) (c212 : y208 = nI 10) : sk bt ksize kto = sk bt ksize (k4 + 1) := by
  rw [jSk]
  refine sk_step (by omega) ?_
  unfold cBl
  have hb8 := ia_n (bt k4) (by omega)
  have b_y203 := ia_b y203
  have b_y208 := ia_b y208
  try have k_0 := ia_n (bt k4) (by first | decide | omega)
  try have k_1 := ia_n 32 (by first | decide | omega)
  try have k_2 := ia_n 10 (by first | decide | omega)
  try simp only [ia_lt, ia_le, ia_eq, ia_m1, ia_0, ia_1, ne_eq, true_and, and_true, false_and, and_false, or_false, false_or, or_true, true_or, not_true_eq_false, not_false_eq_true] at *
  all_goals omega
set_option maxRecDepth 20000 in
theorem lf_g_go_105 (bt : Nat → Nat) (ksize : Nat) (kto : Nat) (ktapeF : Nat → Int32) (gq : Nat) (k4 : Nat) (n8 : Nat) (y203 : Int32) (y208 : Int32) (iv_ko_1 : ksize ≤ 940) (iv_ko_3 : kto ≤ ksize) (hTM : TM bt ktapeF) (hgq : kto = gq) (j5 : k4 ≤ 940) (j6 : k4 ≤ ksize) (jSk : sk bt ksize kto = sk bt ksize k4) (hm10 : 940 - k4 < n8 + 1) (c11 : k4 < ksize) (e204 : y203 = ktapeF k4) (t205 : bt k4 < 256) (t206 : y203 = nI (bt k4)) (c207 : ¬ y203 = nI 32) (e209 : y208 = ktapeF k4) (t210 : bt k4 < 256) (t211 : y208 = nI (bt k4)) (c212 : y208 = nI 10) : 940 - (k4 + 1) < n8 := by
  have b_y203 := ia_b y203
  have b_y208 := ia_b y208
  try have k_0 := ia_n (bt k4) (by first | decide | omega)
  try have k_1 := ia_n 32 (by first | decide | omega)
  try have k_2 := ia_n 10 (by first | decide | omega)
  try simp only [ia_lt, ia_le, ia_eq, ia_m1, ia_0, ia_1, ne_eq, true_and, and_true, false_and, and_false, or_false, false_or, or_true, true_or, not_true_eq_false, not_false_eq_true] at *
  all_goals omega
set_option maxRecDepth 20000 in
theorem lf_g_go_106 (ksize : Nat) (kto : Nat) (gq : Nat) (iv_ko_1 : ksize ≤ 940) (iv_ko_3 : kto ≤ ksize) (hgq : kto = gq) : kto ≤ 940 := by
  try simp only [ia_lt, ia_le, ia_eq, ia_m1, ia_0, ia_1, ne_eq, true_and, and_true, false_and, and_false, or_false, false_or, or_true, true_or, not_true_eq_false, not_false_eq_true] at *
  all_goals omega
set_option maxRecDepth 20000 in
theorem lf_g_go_107 (bt : Nat → Nat) (ksize : Nat) (kto : Nat) (ktapeF : Nat → Int32) (gq : Nat) (iv_ko_1 : ksize ≤ 940) (iv_ko_3 : kto ≤ ksize) (hTM : TM bt ktapeF) (hgq : kto = gq) : sk bt ksize kto = sk bt ksize kto := by
  rfl
set_option maxHeartbeats 4000000 in
set_option maxRecDepth 100000 in
theorem c_g_go (l : Launch) (dC : Nat → ClassId) (dI : Nat → Nat → Nat) (ky : Nat → ClassId) (sz : Nat) (bt : Nat → Nat) (o : Nat) (kthrown : Int32) (ktape : Nat) (ktaped : Nat) (ksize : Nat) (klimit : Nat) (kto : Nat) (kfrom : Nat) (kkind : Int32) (knumber : Int32) (ksign : Int32) (kfault : Int32) (kplace : Int32) (kword : Int64) (ktold : Int32) (know : Nat) (kread : Nat) (kkept : Nat) (ksnaps : Nat) (kaside : Nat) (kname : Nat) (kreadName : Nat) (kkeptName : Nat) (kisKept : Nat) (konces : Nat) (ksnapMany : Nat) (khasCells : Int32) (kpoured : Nat) (kfar : Nat) (ksides : Nat) (ksideMany : Nat) (kwayDays : Int32) (khasWay : Int32) (klines : Nat) (kmet : Nat) (kmetMany : Nat) (ksunk : Nat) (ktrying : Nat) (ksunkMany : Nat) (ksending : Int32) (kfleets : Int32) (ktext : Nat) (ktexts : Nat) (kseed : Int32) (kline : Nat) (kwritten : Nat) (klineMany : Nat) (khasWritten : Int32) (knode : Nat) (knodes : Nat) (konesMany : Nat) (kwithin : Nat) (ktop : Nat) (ktapeF : Nat → Int32) (gq : Nat) (iv_ko_0 : ktaped ≤ 940) (iv_ko_1 : ksize ≤ 940) (iv_ko_2 : klimit ≤ 900) (iv_ko_3 : kto ≤ ksize) (iv_ko_4 : kfrom ≤ 940) (iv_ko_5 : ksnapMany ≤ 8) (iv_ko_6 : ksideMany ≤ 36) (iv_ko_7 : kmetMany ≤ 3) (iv_ko_8 : ksunkMany ≤ 36) (iv_ko_9 : ktexts ≤ 64) (iv_ko_10 : klineMany ≤ 40) (iv_ko_11 : knodes ≤ 60) (iv_ko_12 : konesMany ≤ 20) (iv_ko_13 : kwithin ≤ 8) (iv_ko_14 : ktop ≤ 59) (hTM : TM bt ktapeF) (hgq : kto = gq) : Met l yX12_go wsX12_go ({ frames := 1, cells := 0, slots := 0, locals := 21 }) (PcU dC dI ky [.ref o] [(o, .inr (12, [.int kthrown, .ref ktape, .int (nI ktaped), .int (nI ksize), .int (nI klimit), .int (nI kto), .int (nI kfrom), .int kkind, .int knumber, .int ksign, .int kfault, .int kplace, .long kword, .int ktold, .ref know, .ref kread, .ref kkept, .ref ksnaps, .ref kaside, .ref kname, .ref kreadName, .ref kkeptName, .ref kisKept, .ref konces, .int (nI ksnapMany), .int khasCells, .ref kpoured, .ref kfar, .ref ksides, .int (nI ksideMany), .int kwayDays, .int khasWay, .ref klines, .ref kmet, .int (nI kmetMany), .ref ksunk, .ref ktrying, .int (nI ksunkMany), .int ksending, .int kfleets, .ref ktext, .int (nI ktexts), .int kseed, .ref kline, .ref kwritten, .int (nI klineMany), .int khasWritten, .ref knode, .int (nI knodes), .int (nI konesMany), .int (nI kwithin), .int (nI ktop)])), (ktape, .inl (ky 0, 940, .inl ktapeF))] sz) (va_Qv (fun (u : Nat × Nat × Int32 × Int32 × Int32 × Int64) => match u with | (ktoG, kfromG, kkindG, knumberG, ksignG, kwordG) => (ktoG ≤ ksize) ∧ (kfromG ≤ 940) ∧ (MT bt ksize klimit gq kkindG ksignG kfromG ktoG knumberG kwordG)) (BU dC dI ky (fun (u : Nat × Nat × Int32 × Int32 × Int32 × Int64) => match u with | (ktoG, kfromG, kkindG, knumberG, ksignG, kwordG) => [(o, .inr (12, [.int kthrown, .ref ktape, .int (nI ktaped), .int (nI ksize), .int (nI klimit), .int (nI ktoG), .int (nI kfromG), .int kkindG, .int knumberG, .int ksignG, .int kfault, .int kplace, .long kwordG, .int ktold, .ref know, .ref kread, .ref kkept, .ref ksnaps, .ref kaside, .ref kname, .ref kreadName, .ref kkeptName, .ref kisKept, .ref konces, .int (nI ksnapMany), .int khasCells, .ref kpoured, .ref kfar, .ref ksides, .int (nI ksideMany), .int kwayDays, .int khasWay, .ref klines, .ref kmet, .int (nI kmetMany), .ref ksunk, .ref ktrying, .int (nI ksunkMany), .int ksending, .int kfleets, .ref ktext, .int (nI ktexts), .int kseed, .ref kline, .ref kwritten, .int (nI klineMany), .int khasWritten, .ref knode, .int (nI knodes), .int (nI konesMany), .int (nI kwithin), .int (nI ktop)])), (ktape, .inl (ky 0, 940, .inl ktapeF))]) (va_A [(o, .inr (12, [.int kthrown, .ref ktape, .int (nI ktaped), .int (nI ksize), .int (nI klimit), .int (nI kto), .int (nI kfrom), .int kkind, .int knumber, .int ksign, .int kfault, .int kplace, .long kword, .int ktold, .ref know, .ref kread, .ref kkept, .ref ksnaps, .ref kaside, .ref kname, .ref kreadName, .ref kkeptName, .ref kisKept, .ref konces, .int (nI ksnapMany), .int khasCells, .ref kpoured, .ref kfar, .ref ksides, .int (nI ksideMany), .int kwayDays, .int khasWay, .ref klines, .ref kmet, .int (nI kmetMany), .ref ksunk, .ref ktrying, .int (nI ksunkMany), .int ksending, .int kfleets, .ref ktext, .int (nI ktexts), .int kseed, .ref kline, .ref kwritten, .int (nI klineMany), .int khasWritten, .ref knode, .int (nI knodes), .int (nI konesMany), .int (nI kwithin), .int (nI ktop)])), (ktape, .inl (ky 0, 940, .inl ktapeF))] sz)) (va_A [(o, .inr (12, [.int kthrown, .ref ktape, .int (nI ktaped), .int (nI ksize), .int (nI klimit), .int (nI kto), .int (nI kfrom), .int kkind, .int knumber, .int ksign, .int kfault, .int kplace, .long kword, .int ktold, .ref know, .ref kread, .ref kkept, .ref ksnaps, .ref kaside, .ref kname, .ref kreadName, .ref kkeptName, .ref kisKept, .ref konces, .int (nI ksnapMany), .int khasCells, .ref kpoured, .ref kfar, .ref ksides, .int (nI ksideMany), .int kwayDays, .int khasWay, .ref klines, .ref kmet, .int (nI kmetMany), .ref ksunk, .ref ktrying, .int (nI ksunkMany), .int ksending, .int kfleets, .ref ktext, .int (nI ktexts), .int kseed, .ref kline, .ref kwritten, .int (nI klineMany), .int khasWritten, .ref knode, .int (nI knodes), .int (nI konesMany), .int (nI kwithin), .int (nI ktop)])), (ktape, .inl (ky 0, 940, .inl ktapeF))] sz)) 0 0 (va_A [(o, .inr (12, [.int kthrown, .ref ktape, .int (nI ktaped), .int (nI ksize), .int (nI klimit), .int (nI kto), .int (nI kfrom), .int kkind, .int knumber, .int ksign, .int kfault, .int kplace, .long kword, .int ktold, .ref know, .ref kread, .ref kkept, .ref ksnaps, .ref kaside, .ref kname, .ref kreadName, .ref kkeptName, .ref kisKept, .ref konces, .int (nI ksnapMany), .int khasCells, .ref kpoured, .ref kfar, .ref ksides, .int (nI ksideMany), .int kwayDays, .int khasWay, .ref klines, .ref kmet, .int (nI kmetMany), .ref ksunk, .ref ktrying, .int (nI ksunkMany), .int ksending, .int kfleets, .ref ktext, .int (nI ktexts), .int kseed, .ref kline, .ref kwritten, .int (nI klineMany), .int khasWritten, .ref knode, .int (nI knodes), .int (nI konesMany), .int (nI kwithin), .int (nI ktop)])), (ktape, .inl (ky 0, 940, .inl ktapeF))] sz) := by
  refine Met.ofW (cc := cX12_go) (maxL := 5) (ret := none) (by decide) rfl ?_
  intro p e s m args below meth c s₁ B hml hv
  obtain ⟨rfl, hsz, hP, hK, hD0⟩ := hv
  have hx := B.exec
  have hb := B.bytes
  have hr := B.returns
  have hts := atoms_spec (ws := wsX12_go) B.pre
  have hown : s.vm.findClass RX12 = some m.cls := findClass_of_methodNamed B.named
  have hlocks := B.notSynchronized
  have hin12 : ∀ w ∈ u_ws RX12 TX12 52, w ∈ wsX12_go := by decide +kernel
  subst hsz
  have hD := hD0.self (sz := s.heap.size)
  generalize hAe : va_A [(o, .inr (12, [.int kthrown, .ref ktape, .int (nI ktaped), .int (nI ksize), .int (nI klimit), .int (nI kto), .int (nI kfrom), .int kkind, .int knumber, .int ksign, .int kfault, .int kplace, .long kword, .int ktold, .ref know, .ref kread, .ref kkept, .ref ksnaps, .ref kaside, .ref kname, .ref kreadName, .ref kkeptName, .ref kisKept, .ref konces, .int (nI ksnapMany), .int khasCells, .ref kpoured, .ref kfar, .ref ksides, .int (nI ksideMany), .int kwayDays, .int khasWay, .ref klines, .ref kmet, .int (nI kmetMany), .ref ksunk, .ref ktrying, .int (nI ksunkMany), .int ksending, .int kfleets, .ref ktext, .int (nI ktexts), .int kseed, .ref kline, .ref kwritten, .int (nI klineMany), .int khasWritten, .ref knode, .int (nI knodes), .int (nI konesMany), .int (nI kwithin), .int (nI ktop)])), (ktape, .inl (ky 0, 940, .inl ktapeF))] s.heap.size = A at hD ⊢
  have hA : ∀ q : Nat, s.heap.size ≤ q → A q := fun q h => by rw [← hAe]; exact Or.inr h
  have hS : va_S A s.heap s.heap [] := va_S.rf
  have hl := lv_entry ([.ref o]) (n := 5) (Nat.le_of_ble_eq_true rfl)
  rw [lg_entry_eq]
  generalize (lg_sl ([.ref o]) ++ List.replicate (5 - (lg_sl ([.ref o])).length) Slot.unset).toArray = ls at hl ⊢
  have hl : lv_has ls 5 [(0, .ref o)] := hl
  refine q_name (fun Q hQ => ?_)
  generalize ([.ref o] : List Value).toArray = args at hts hQ ⊢
  have hL7 : ∀ (n8 : Nat) (k4 : Nat), (k4 ≤ 940) → (k4 ≤ ksize) → (sk bt ksize kto = sk bt ksize k4) → 940 - k4 < n8 → ∀ (H : Heap) (locs : List Loc) (ls : Array Slot), va_P (dC, dI) vwCl [(o, .inr (12, [.int kthrown, .ref ktape, .int (nI ktaped), .int (nI ksize), .int (nI klimit), .int (nI k4), .int (nI kfrom), .int kkind, .int knumber, .int ksign, .int kfault, .int kplace, .long kword, .int ktold, .ref know, .ref kread, .ref kkept, .ref ksnaps, .ref kaside, .ref kname, .ref kreadName, .ref kkeptName, .ref kisKept, .ref konces, .int (nI ksnapMany), .int khasCells, .ref kpoured, .ref kfar, .ref ksides, .int (nI ksideMany), .int kwayDays, .int khasWay, .ref klines, .ref kmet, .int (nI kmetMany), .ref ksunk, .ref ktrying, .int (nI ksunkMany), .int ksending, .int kfleets, .ref ktext, .int (nI ktexts), .int kseed, .ref kline, .ref kwritten, .int (nI klineMany), .int khasWritten, .ref knode, .int (nI knodes), .int (nI konesMany), .int (nI kwithin), .int (nI ktop)])), (ktape, .inl (ky 0, 940, .inl ktapeF))] H → va_D A [(o, .inr (12, [.int kthrown, .ref ktape, .int (nI ktaped), .int (nI ksize), .int (nI klimit), .int (nI k4), .int (nI kfrom), .int kkind, .int knumber, .int ksign, .int kfault, .int kplace, .long kword, .int ktold, .ref know, .ref kread, .ref kkept, .ref ksnaps, .ref kaside, .ref kname, .ref kreadName, .ref kkeptName, .ref kisKept, .ref konces, .int (nI ksnapMany), .int khasCells, .ref kpoured, .ref kfar, .ref ksides, .int (nI ksideMany), .int kwayDays, .int khasWay, .ref klines, .ref kmet, .int (nI kmetMany), .ref ksunk, .ref ktrying, .int (nI ksunkMany), .int ksending, .int kfleets, .ref ktext, .int (nI ktexts), .int kseed, .ref kline, .ref kwritten, .int (nI klineMany), .int khasWritten, .ref knode, .int (nI knodes), .int (nI konesMany), .int (nI kwithin), .int (nI ktop)])), (ktape, .inl (ky 0, 940, .inl ktapeF))] → va_S A s.heap H locs → lv_has ls 5 [(0, .ref o)] → W p l e (headSpec wsX12_go ({ frames := 1, cells := 0, slots := 0, locals := 21 })).room s m args below meth c H locs 0 0 Q (F0 m 0 ls []) := by
    intro n8
    induction n8 with
    | zero => intro k4 _ _ _ h9; exact absurd h9 (Nat.not_lt_zero _)
    | succ n8 ih9 =>
      intro k4 j5 j6 jSk hm10 H locs ls hP hD hS hl
      refine lv_aload_n hx hb dX12_go_0 rfl (lv_at hl 0 rfl) ?_
      refine va_get (D := (dC, dI)) (ci := 12) (v := .int (nI k4)) (C := RX12) (T := TX12) (N := 52) hx hb hts hin12 hown hK hP 0 rfl rfl 5 (by decide) (hts (.fieldLink RX12 21 "PorridgeSeaModel" "to" "I") (List.mem_of_getElem? (i := 1) rfl)) (fun _ h9 => h9) rfl dX12_go_1 ?_
      refine lv_aload_n hx hb dX12_go_4 rfl (lv_at hl 0 rfl) ?_
      refine va_get (D := (dC, dI)) (ci := 12) (v := .int (nI ksize)) (C := RX12) (T := TX12) (N := 52) hx hb hts hin12 hown hK hP 0 rfl rfl 3 (by decide) (hts (.fieldLink RX12 18 "PorridgeSeaModel" "size" "I") (List.mem_of_getElem? (i := 2) rfl)) (fun _ h9 => h9) rfl dX12_go_5 ?_
      have hJ12 : (sk bt ksize kto = k4) → ∀ (H : Heap) (locs : List Loc) (ls : Array Slot), va_P (dC, dI) vwCl [(o, .inr (12, [.int kthrown, .ref ktape, .int (nI ktaped), .int (nI ksize), .int (nI klimit), .int (nI k4), .int (nI kfrom), .int kkind, .int knumber, .int ksign, .int kfault, .int kplace, .long kword, .int ktold, .ref know, .ref kread, .ref kkept, .ref ksnaps, .ref kaside, .ref kname, .ref kreadName, .ref kkeptName, .ref kisKept, .ref konces, .int (nI ksnapMany), .int khasCells, .ref kpoured, .ref kfar, .ref ksides, .int (nI ksideMany), .int kwayDays, .int khasWay, .ref klines, .ref kmet, .int (nI kmetMany), .ref ksunk, .ref ktrying, .int (nI ksunkMany), .int ksending, .int kfleets, .ref ktext, .int (nI ktexts), .int kseed, .ref kline, .ref kwritten, .int (nI klineMany), .int khasWritten, .ref knode, .int (nI knodes), .int (nI konesMany), .int (nI kwithin), .int (nI ktop)])), (ktape, .inl (ky 0, 940, .inl ktapeF))] H → va_D A [(o, .inr (12, [.int kthrown, .ref ktape, .int (nI ktaped), .int (nI ksize), .int (nI klimit), .int (nI k4), .int (nI kfrom), .int kkind, .int knumber, .int ksign, .int kfault, .int kplace, .long kword, .int ktold, .ref know, .ref kread, .ref kkept, .ref ksnaps, .ref kaside, .ref kname, .ref kreadName, .ref kkeptName, .ref kisKept, .ref konces, .int (nI ksnapMany), .int khasCells, .ref kpoured, .ref kfar, .ref ksides, .int (nI ksideMany), .int kwayDays, .int khasWay, .ref klines, .ref kmet, .int (nI kmetMany), .ref ksunk, .ref ktrying, .int (nI ksunkMany), .int ksending, .int kfleets, .ref ktext, .int (nI ktexts), .int kseed, .ref kline, .ref kwritten, .int (nI klineMany), .int khasWritten, .ref knode, .int (nI knodes), .int (nI konesMany), .int (nI kwithin), .int (nI ktop)])), (ktape, .inl (ky 0, 940, .inl ktapeF))] → va_S A s.heap H locs → lv_has ls 5 [(0, .ref o)] → W p l e (headSpec wsX12_go ({ frames := 1, cells := 0, slots := 0, locals := 21 })).room s m args below meth c H locs 0 0 Q (F0 m 52 ls []) := by
        intro jQ H locs ls hP hD hS hl
        refine lv_aload_n hx hb dX12_go_52 rfl (lv_at hl 0 rfl) ?_
        refine lv_aload_n hx hb dX12_go_53 rfl (lv_at hl 0 rfl) ?_
        refine va_get (D := (dC, dI)) (ci := 12) (v := .int (nI k4)) (C := RX12) (T := TX12) (N := 52) hx hb hts hin12 hown hK hP 0 rfl rfl 5 (by decide) (hts (.fieldLink RX12 21 "PorridgeSeaModel" "to" "I") (List.mem_of_getElem? (i := 1) rfl)) (fun _ h9 => h9) rfl dX12_go_54 ?_
        refine va_put (D := (dC, dI)) (ci := 12) (v := .int (nI k4)) (ty := .int) (C := RX12) (T := TX12) (N := 52) hx hb hts hin12 tyX12 tyX12_ok nmX12 hown hK hP hD hS 0 rfl rfl 6 (by decide) (hts (.fieldLink RX12 24 "PorridgeSeaModel" "from" "I") (List.mem_of_getElem? (i := 4) rfl)) (fun _ h9 => h9) rfl (by decide +kernel) rfl rfl (Nat.le_of_ble_eq_true rfl) dX12_go_57 (fun H locs hP hD hS => ?_)
        have hP : va_P (dC, dI) vwCl [(o, .inr (12, [.int kthrown, .ref ktape, .int (nI ktaped), .int (nI ksize), .int (nI klimit), .int (nI k4), .int (nI k4), .int kkind, .int knumber, .int ksign, .int kfault, .int kplace, .long kword, .int ktold, .ref know, .ref kread, .ref kkept, .ref ksnaps, .ref kaside, .ref kname, .ref kreadName, .ref kkeptName, .ref kisKept, .ref konces, .int (nI ksnapMany), .int khasCells, .ref kpoured, .ref kfar, .ref ksides, .int (nI ksideMany), .int kwayDays, .int khasWay, .ref klines, .ref kmet, .int (nI kmetMany), .ref ksunk, .ref ktrying, .int (nI ksunkMany), .int ksending, .int kfleets, .ref ktext, .int (nI ktexts), .int kseed, .ref kline, .ref kwritten, .int (nI klineMany), .int khasWritten, .ref knode, .int (nI knodes), .int (nI konesMany), .int (nI kwithin), .int (nI ktop)])), (ktape, .inl (ky 0, 940, .inl ktapeF))] H := hP
        have hD : va_D A [(o, .inr (12, [.int kthrown, .ref ktape, .int (nI ktaped), .int (nI ksize), .int (nI klimit), .int (nI k4), .int (nI k4), .int kkind, .int knumber, .int ksign, .int kfault, .int kplace, .long kword, .int ktold, .ref know, .ref kread, .ref kkept, .ref ksnaps, .ref kaside, .ref kname, .ref kreadName, .ref kkeptName, .ref kisKept, .ref konces, .int (nI ksnapMany), .int khasCells, .ref kpoured, .ref kfar, .ref ksides, .int (nI ksideMany), .int kwayDays, .int khasWay, .ref klines, .ref kmet, .int (nI kmetMany), .ref ksunk, .ref ktrying, .int (nI ksunkMany), .int ksending, .int kfleets, .ref ktext, .int (nI ktexts), .int kseed, .ref kline, .ref kwritten, .int (nI klineMany), .int khasWritten, .ref knode, .int (nI knodes), .int (nI konesMany), .int (nI kwithin), .int (nI ktop)])), (ktape, .inl (ky 0, 940, .inl ktapeF))] := hD
        refine lv_aload_n hx hb dX12_go_60 rfl (lv_at hl 0 rfl) ?_
        refine va_get (D := (dC, dI)) (ci := 12) (v := .int (nI ksize)) (C := RX12) (T := TX12) (N := 52) hx hb hts hin12 hown hK hP 0 rfl rfl 3 (by decide) (hts (.fieldLink RX12 18 "PorridgeSeaModel" "size" "I") (List.mem_of_getElem? (i := 2) rfl)) (fun _ h9 => h9) rfl dX12_go_61 ?_
        refine lv_aload_n hx hb dX12_go_64 rfl (lv_at hl 0 rfl) ?_
        refine va_get (D := (dC, dI)) (ci := 12) (v := .int (nI klimit)) (C := RX12) (T := TX12) (N := 52) hx hb hts hin12 hown hK hP 0 rfl rfl 4 (by decide) (hts (.fieldLink RX12 27 "PorridgeSeaModel" "limit" "I") (List.mem_of_getElem? (i := 5) rfl)) (fun _ h9 => h9) rfl dX12_go_65 ?_
        have hJ14 : (¬ (klimit < ksize ∧ klimit ≤ k4)) → ∀ (H : Heap) (locs : List Loc) (ls : Array Slot), va_P (dC, dI) vwCl [(o, .inr (12, [.int kthrown, .ref ktape, .int (nI ktaped), .int (nI ksize), .int (nI klimit), .int (nI k4), .int (nI k4), .int kkind, .int knumber, .int ksign, .int kfault, .int kplace, .long kword, .int ktold, .ref know, .ref kread, .ref kkept, .ref ksnaps, .ref kaside, .ref kname, .ref kreadName, .ref kkeptName, .ref kisKept, .ref konces, .int (nI ksnapMany), .int khasCells, .ref kpoured, .ref kfar, .ref ksides, .int (nI ksideMany), .int kwayDays, .int khasWay, .ref klines, .ref kmet, .int (nI kmetMany), .ref ksunk, .ref ktrying, .int (nI ksunkMany), .int ksending, .int kfleets, .ref ktext, .int (nI ktexts), .int kseed, .ref kline, .ref kwritten, .int (nI klineMany), .int khasWritten, .ref knode, .int (nI knodes), .int (nI konesMany), .int (nI kwithin), .int (nI ktop)])), (ktape, .inl (ky 0, 940, .inl ktapeF))] H → va_D A [(o, .inr (12, [.int kthrown, .ref ktape, .int (nI ktaped), .int (nI ksize), .int (nI klimit), .int (nI k4), .int (nI k4), .int kkind, .int knumber, .int ksign, .int kfault, .int kplace, .long kword, .int ktold, .ref know, .ref kread, .ref kkept, .ref ksnaps, .ref kaside, .ref kname, .ref kreadName, .ref kkeptName, .ref kisKept, .ref konces, .int (nI ksnapMany), .int khasCells, .ref kpoured, .ref kfar, .ref ksides, .int (nI ksideMany), .int kwayDays, .int khasWay, .ref klines, .ref kmet, .int (nI kmetMany), .ref ksunk, .ref ktrying, .int (nI ksunkMany), .int ksending, .int kfleets, .ref ktext, .int (nI ktexts), .int kseed, .ref kline, .ref kwritten, .int (nI klineMany), .int khasWritten, .ref knode, .int (nI knodes), .int (nI konesMany), .int (nI kwithin), .int (nI ktop)])), (ktape, .inl (ky 0, 940, .inl ktapeF))] → va_S A s.heap H locs → lv_has ls 5 [(0, .ref o)] → W p l e (headSpec wsX12_go ({ frames := 1, cells := 0, slots := 0, locals := 21 })).room s m args below meth c H locs 0 0 Q (F0 m 96 ls []) := by
          intro jM H locs ls hP hD hS hl
          refine lv_aload_n hx hb dX12_go_96 rfl (lv_at hl 0 rfl) ?_
          refine va_get (D := (dC, dI)) (ci := 12) (v := .int (nI k4)) (C := RX12) (T := TX12) (N := 52) hx hb hts hin12 hown hK hP 0 rfl rfl 5 (by decide) (hts (.fieldLink RX12 21 "PorridgeSeaModel" "to" "I") (List.mem_of_getElem? (i := 1) rfl)) (fun _ h9 => h9) rfl dX12_go_97 ?_
          refine lv_aload_n hx hb dX12_go_100 rfl (lv_at hl 0 rfl) ?_
          refine va_get (D := (dC, dI)) (ci := 12) (v := .int (nI ksize)) (C := RX12) (T := TX12) (N := 52) hx hb hts hin12 hown hK hP 0 rfl rfl 3 (by decide) (hts (.fieldLink RX12 18 "PorridgeSeaModel" "size" "I") (List.mem_of_getElem? (i := 2) rfl)) (fun _ h9 => h9) rfl dX12_go_101 ?_
          refine n_icmp_lt (x := k4) (y := ksize) (tgt := 113) hx hb (by omega) (by omega) dX12_go_104 (by decide) (fun c15 => ?_) (fun c15 => ?_)
          · refine lv_aload_n hx hb dX12_go_113 rfl (lv_at hl 0 rfl) ?_
            refine va_get (D := (dC, dI)) (ci := 12) (v := .ref ktape) (C := RX12) (T := TX12) (N := 52) hx hb hts hin12 hown hK hP 0 rfl rfl 1 (by decide) (hts (.fieldLink RX12 7 "PorridgeSeaModel" "tape" "[I") (List.mem_of_getElem? (i := 3) rfl)) (fun _ h9 => h9) rfl dX12_go_114 ?_
            refine lv_aload_n hx hb dX12_go_117 rfl (lv_at hl 0 rfl) ?_
            refine va_get (D := (dC, dI)) (ci := 12) (v := .int (nI k4)) (C := RX12) (T := TX12) (N := 52) hx hb hts hin12 hown hK hP 0 rfl rfl 5 (by decide) (hts (.fieldLink RX12 21 "PorridgeSeaModel" "to" "I") (List.mem_of_getElem? (i := 1) rfl)) (fun _ h9 => h9) rfl dX12_go_118 ?_
            obtain ⟨y16, e17⟩ : ∃ z9, z9 = ktapeF k4 := ⟨_, rfl⟩
            refine r_iald hx hb hK hP 1 rfl k4 (lf_g_go_1 bt ksize klimit kto ktapeF gq k4 n8 y16 iv_ko_1 iv_ko_2 iv_ko_3 hTM hgq j5 j6 jSk hm10 jQ jM c15 e17) (by decide) y16 e17.symm dX12_go_121 ?_
            obtain ⟨t18, t19⟩ : bt k4 < 256 ∧ (y16 = nI (bt k4)) := by rw [e17]; exact hTM k4 (lf_g_go_2 bt ksize klimit kto ktapeF gq k4 n8 y16 iv_ko_1 iv_ko_2 iv_ko_3 hTM hgq j5 j6 jSk hm10 jQ jM c15 e17)
            refine lv_istore_n (lv' := [(1, .int y16), (0, .ref o)]) hx hb dX12_go_122 rfl hl (by decide) rfl (fun ls hl => ?_)
            refine lv_iload_n hx hb dX12_go_123 rfl (lv_at hl 0 rfl) ?_
            refine vp_callSi (W.runS (As := [.int y16]) (rest := []) ⟨hx, hb, hml, hown, hts⟩ (c_g_isLetter l dC dI ky y16) (va_cwS 1 hts gX12_go_X12_isLetter rfl rfl rfl (by decide +kernel) ⟨(Nat.le_of_ble_eq_true rfl), (Nat.le_of_ble_eq_true rfl)⟩) (pre_PS hK hP [] rfl) rfl rfl hl.1 rfl (lv_room (Nat.le_of_ble_eq_true rfl)) dX12_go_124 ⟨(Nat.le_of_ble_eq_true rfl), (Nat.le_of_ble_eq_true rfl)⟩) (fun r20 p21 => ?_)
            rcases p21 with ⟨rfl, t22, t23⟩ | ⟨rfl, t24⟩
            · refine lv_if_ne (tgt := 198) hx hb dX12_go_127 (by decide) (fun c25 => ?_) (fun c25 => absurd c25 (by decide))
              refine lv_iload_n hx hb dX12_go_198 rfl (lv_at hl 0 rfl) ?_
              refine vp_callSi (W.runS (As := [.int y16]) (rest := []) ⟨hx, hb, hml, hown, hts⟩ (c_g_isLetter l dC dI ky y16) (va_cwS 1 hts gX12_go_X12_isLetter rfl rfl rfl (by decide +kernel) ⟨(Nat.le_of_ble_eq_true rfl), (Nat.le_of_ble_eq_true rfl)⟩) (pre_PS hK hP [] rfl) rfl rfl hl.1 rfl (lv_room (Nat.le_of_ble_eq_true rfl)) dX12_go_199 ⟨(Nat.le_of_ble_eq_true rfl), (Nat.le_of_ble_eq_true rfl)⟩) (fun r26 p27 => ?_)
              rcases p27 with ⟨rfl, t28, t29⟩ | ⟨rfl, t30⟩
              · refine lv_istore_n (lv' := [(2, .int (nI 1)), (1, .int y16), (0, .ref o)]) hx hb dX12_go_202 rfl hl (by decide) rfl (fun ls hl => ?_)
                refine lv_iconst (v := nI 1) hx hb dX12_go_203 (by decide) ?_
                refine lv_istore_n (lv' := [(3, .int (nI 1)), (2, .int (nI 1)), (1, .int y16), (0, .ref o)]) hx hb dX12_go_204 rfl hl (by decide) rfl (fun ls hl => ?_)
                refine lv_aload_n hx hb dX12_go_205 rfl (lv_at hl 3 rfl) ?_
                refine lv_lconst (v := 0) hx hb dX12_go_206 (by decide) ?_
                refine va_put (D := (dC, dI)) (ci := 12) (v := .long 0) (ty := .long) (C := RX12) (T := TX12) (N := 52) hx hb hts hin12 tyX12 tyX12_ok nmX12 hown hK hP hD hS 0 rfl rfl 12 (by decide) (hts (.fieldLink RX12 43 "PorridgeSeaModel" "word" "J") (List.mem_of_getElem? (i := 8) rfl)) (fun _ h9 => h9) rfl (by decide +kernel) rfl rfl (Nat.le_of_ble_eq_true rfl) dX12_go_207 (fun H locs hP hD hS => ?_)
                have hP : va_P (dC, dI) vwCl [(o, .inr (12, [.int kthrown, .ref ktape, .int (nI ktaped), .int (nI ksize), .int (nI klimit), .int (nI k4), .int (nI k4), .int kkind, .int knumber, .int ksign, .int kfault, .int kplace, .long 0, .int ktold, .ref know, .ref kread, .ref kkept, .ref ksnaps, .ref kaside, .ref kname, .ref kreadName, .ref kkeptName, .ref kisKept, .ref konces, .int (nI ksnapMany), .int khasCells, .ref kpoured, .ref kfar, .ref ksides, .int (nI ksideMany), .int kwayDays, .int khasWay, .ref klines, .ref kmet, .int (nI kmetMany), .ref ksunk, .ref ktrying, .int (nI ksunkMany), .int ksending, .int kfleets, .ref ktext, .int (nI ktexts), .int kseed, .ref kline, .ref kwritten, .int (nI klineMany), .int khasWritten, .ref knode, .int (nI knodes), .int (nI konesMany), .int (nI kwithin), .int (nI ktop)])), (ktape, .inl (ky 0, 940, .inl ktapeF))] H := hP
                have hD : va_D A [(o, .inr (12, [.int kthrown, .ref ktape, .int (nI ktaped), .int (nI ksize), .int (nI klimit), .int (nI k4), .int (nI k4), .int kkind, .int knumber, .int ksign, .int kfault, .int kplace, .long 0, .int ktold, .ref know, .ref kread, .ref kkept, .ref ksnaps, .ref kaside, .ref kname, .ref kreadName, .ref kkeptName, .ref kisKept, .ref konces, .int (nI ksnapMany), .int khasCells, .ref kpoured, .ref kfar, .ref ksides, .int (nI ksideMany), .int kwayDays, .int khasWay, .ref klines, .ref kmet, .int (nI kmetMany), .ref ksunk, .ref ktrying, .int (nI ksunkMany), .int ksending, .int kfleets, .ref ktext, .int (nI ktexts), .int kseed, .ref kline, .ref kwritten, .int (nI klineMany), .int khasWritten, .ref knode, .int (nI knodes), .int (nI konesMany), .int (nI kwithin), .int (nI ktop)])), (ktape, .inl (ky 0, 940, .inl ktapeF))] := hD
                refine lv_aload_n hx hb dX12_go_210 rfl (lv_at hl 3 rfl) ?_
                refine lv_iconst (v := nI 0) hx hb dX12_go_211 (by decide) ?_
                refine va_put (D := (dC, dI)) (ci := 12) (v := .int (nI 0)) (ty := .int) (C := RX12) (T := TX12) (N := 52) hx hb hts hin12 tyX12 tyX12_ok nmX12 hown hK hP hD hS 0 rfl rfl 8 (by decide) (hts (.fieldLink RX12 47 "PorridgeSeaModel" "number" "I") (List.mem_of_getElem? (i := 9) rfl)) (fun _ h9 => h9) rfl (by decide +kernel) rfl rfl (Nat.le_of_ble_eq_true rfl) dX12_go_212 (fun H locs hP hD hS => ?_)
                have hP : va_P (dC, dI) vwCl [(o, .inr (12, [.int kthrown, .ref ktape, .int (nI ktaped), .int (nI ksize), .int (nI klimit), .int (nI k4), .int (nI k4), .int kkind, .int (nI 0), .int ksign, .int kfault, .int kplace, .long 0, .int ktold, .ref know, .ref kread, .ref kkept, .ref ksnaps, .ref kaside, .ref kname, .ref kreadName, .ref kkeptName, .ref kisKept, .ref konces, .int (nI ksnapMany), .int khasCells, .ref kpoured, .ref kfar, .ref ksides, .int (nI ksideMany), .int kwayDays, .int khasWay, .ref klines, .ref kmet, .int (nI kmetMany), .ref ksunk, .ref ktrying, .int (nI ksunkMany), .int ksending, .int kfleets, .ref ktext, .int (nI ktexts), .int kseed, .ref kline, .ref kwritten, .int (nI klineMany), .int khasWritten, .ref knode, .int (nI knodes), .int (nI konesMany), .int (nI kwithin), .int (nI ktop)])), (ktape, .inl (ky 0, 940, .inl ktapeF))] H := hP
                have hD : va_D A [(o, .inr (12, [.int kthrown, .ref ktape, .int (nI ktaped), .int (nI ksize), .int (nI klimit), .int (nI k4), .int (nI k4), .int kkind, .int (nI 0), .int ksign, .int kfault, .int kplace, .long 0, .int ktold, .ref know, .ref kread, .ref kkept, .ref ksnaps, .ref kaside, .ref kname, .ref kreadName, .ref kkeptName, .ref kisKept, .ref konces, .int (nI ksnapMany), .int khasCells, .ref kpoured, .ref kfar, .ref ksides, .int (nI ksideMany), .int kwayDays, .int khasWay, .ref klines, .ref kmet, .int (nI kmetMany), .ref ksunk, .ref ktrying, .int (nI ksunkMany), .int ksending, .int kfleets, .ref ktext, .int (nI ktexts), .int kseed, .ref kline, .ref kwritten, .int (nI klineMany), .int khasWritten, .ref knode, .int (nI knodes), .int (nI konesMany), .int (nI kwithin), .int (nI ktop)])), (ktape, .inl (ky 0, 940, .inl ktapeF))] := hD
                have hL45 : ∀ (n46 : Nat) (x38 : Int32) (k39 : Nat) (x40 : Int32) (w41 : Int64), (x38 = nI 0 ∨ x38 = nI 1) → (k39 ≤ 940) → (k39 ≤ ksize) → (k4 ≤ k39) → (rn bt ksize k4 = rn bt ksize k39) → ((x38 = nI 1 ∧ dcn bt k4 (k39 - k4) = 0) ∨ (x38 = nI 0 ∧ dcn bt k4 (k39 - k4) ≠ 0)) → (¬ (dcn bt k4 (k39 - k4) = (k39 - k4) ∧ (k39 - k4) ≤ 3) ∨ x40 = nI (nvn bt k4 (k39 - k4))) → (¬ (dcn bt k4 (k39 - k4) = 0 ∧ (k39 - k4) ≤ 7) ∨ w41 = Int64.ofNat (c27 bt k4 (k39 - k4))) → (dcn bt k4 (k39 - k4) ≠ 0 ∨ LET bt k4 (k39 - k4)) → 940 - k39 < n46 → ∀ (H : Heap) (locs : List Loc) (ls : Array Slot), va_P (dC, dI) vwCl [(o, .inr (12, [.int kthrown, .ref ktape, .int (nI ktaped), .int (nI ksize), .int (nI klimit), .int (nI k39), .int (nI k4), .int kkind, .int x40, .int ksign, .int kfault, .int kplace, .long w41, .int ktold, .ref know, .ref kread, .ref kkept, .ref ksnaps, .ref kaside, .ref kname, .ref kreadName, .ref kkeptName, .ref kisKept, .ref konces, .int (nI ksnapMany), .int khasCells, .ref kpoured, .ref kfar, .ref ksides, .int (nI ksideMany), .int kwayDays, .int khasWay, .ref klines, .ref kmet, .int (nI kmetMany), .ref ksunk, .ref ktrying, .int (nI ksunkMany), .int ksending, .int kfleets, .ref ktext, .int (nI ktexts), .int kseed, .ref kline, .ref kwritten, .int (nI klineMany), .int khasWritten, .ref knode, .int (nI knodes), .int (nI konesMany), .int (nI kwithin), .int (nI ktop)])), (ktape, .inl (ky 0, 940, .inl ktapeF))] H → va_D A [(o, .inr (12, [.int kthrown, .ref ktape, .int (nI ktaped), .int (nI ksize), .int (nI klimit), .int (nI k39), .int (nI k4), .int kkind, .int x40, .int ksign, .int kfault, .int kplace, .long w41, .int ktold, .ref know, .ref kread, .ref kkept, .ref ksnaps, .ref kaside, .ref kname, .ref kreadName, .ref kkeptName, .ref kisKept, .ref konces, .int (nI ksnapMany), .int khasCells, .ref kpoured, .ref kfar, .ref ksides, .int (nI ksideMany), .int kwayDays, .int khasWay, .ref klines, .ref kmet, .int (nI kmetMany), .ref ksunk, .ref ktrying, .int (nI ksunkMany), .int ksending, .int kfleets, .ref ktext, .int (nI ktexts), .int kseed, .ref kline, .ref kwritten, .int (nI klineMany), .int khasWritten, .ref knode, .int (nI knodes), .int (nI konesMany), .int (nI kwithin), .int (nI ktop)])), (ktape, .inl (ky 0, 940, .inl ktapeF))] → va_S A s.heap H locs → lv_has ls 5 [(3, .int x38), (2, .int (nI 1)), (0, .ref o)] → W p l e (headSpec wsX12_go ({ frames := 1, cells := 0, slots := 0, locals := 21 })).room s m args below meth c H locs 0 0 Q (F0 m 215 ls []) := by
                  intro n46
                  induction n46 with
                  | zero => intro x38 k39 x40 w41 _ _ _ _ _ _ _ _ _ h9; exact absurd h9 (Nat.not_lt_zero _)
                  | succ n46 ih47 =>
                    intro x38 k39 x40 w41 j42 j43 j44 jPl jRn jG jN jW jE hm48 H locs ls hP hD hS hl
                    refine lv_aload_n hx hb dX12_go_215 rfl (lv_at hl 2 rfl) ?_
                    refine lv_aload_n hx hb dX12_go_216 rfl (lv_at hl 2 rfl) ?_
                    refine va_get (D := (dC, dI)) (ci := 12) (v := .int (nI k39)) (C := RX12) (T := TX12) (N := 52) hx hb hts hin12 hown hK hP 0 rfl rfl 5 (by decide) (hts (.fieldLink RX12 21 "PorridgeSeaModel" "to" "I") (List.mem_of_getElem? (i := 1) rfl)) (fun _ h9 => h9) rfl dX12_go_217 ?_
                    refine vp_callSi (W.runV (As := [.int (nI k39)]) (rest := []) ⟨hx, hb, hml, hown, hts⟩ (c_g_tapeAt l dC dI ky bt o kthrown ktape ktaped ksize klimit k39 k4 kkind x40 ksign kfault kplace w41 ktold know kread kkept ksnaps kaside kname kreadName kkeptName kisKept konces ksnapMany khasCells kpoured kfar ksides ksideMany kwayDays khasWay klines kmet kmetMany ksunk ktrying ksunkMany ksending kfleets ktext ktexts kseed kline kwritten klineMany khasWritten knode knodes konesMany kwithin ktop ktapeF k39 iv_ko_0 iv_ko_1 iv_ko_2 j44 j5 iv_ko_5 iv_ko_6 iv_ko_7 iv_ko_8 iv_ko_9 iv_ko_10 iv_ko_11 iv_ko_12 iv_ko_13 iv_ko_14 hTM j43) (cwV 1 hts gX12_go_X12_tapeAt rfl rfl rfl (by decide +kernel) ⟨(Nat.le_of_ble_eq_true rfl), (Nat.le_of_ble_eq_true rfl)⟩) (pre_PV hK hP [0, 1] rfl (ci := 12) (q0 := 0) rfl rfl) rfl rfl hl.1 rfl (lv_room (Nat.le_of_ble_eq_true rfl)) dX12_go_220 ⟨(Nat.le_of_ble_eq_true rfl), (Nat.le_of_ble_eq_true rfl)⟩) (fun r49 p50 => ?_)
                    refine vp_callSi (W.runS (As := [.int r49]) (rest := []) ⟨hx, hb, hml, hown, hts⟩ (c_g_isLetter l dC dI ky r49) (va_cwS 1 hts gX12_go_X12_isLetter rfl rfl rfl (by decide +kernel) ⟨(Nat.le_of_ble_eq_true rfl), (Nat.le_of_ble_eq_true rfl)⟩) (pre_PS hK hP [] rfl) rfl rfl hl.1 rfl (lv_room (Nat.le_of_ble_eq_true rfl)) dX12_go_223 ⟨(Nat.le_of_ble_eq_true rfl), (Nat.le_of_ble_eq_true rfl)⟩) (fun r51 p52 => ?_)
                    have hJ56 : (k39 < ksize) → (cAl (bt k39)) → ∀ (H : Heap) (locs : List Loc) (ls : Array Slot), va_P (dC, dI) vwCl [(o, .inr (12, [.int kthrown, .ref ktape, .int (nI ktaped), .int (nI ksize), .int (nI klimit), .int (nI k39), .int (nI k4), .int kkind, .int x40, .int ksign, .int kfault, .int kplace, .long w41, .int ktold, .ref know, .ref kread, .ref kkept, .ref ksnaps, .ref kaside, .ref kname, .ref kreadName, .ref kkeptName, .ref kisKept, .ref konces, .int (nI ksnapMany), .int khasCells, .ref kpoured, .ref kfar, .ref ksides, .int (nI ksideMany), .int kwayDays, .int khasWay, .ref klines, .ref kmet, .int (nI kmetMany), .ref ksunk, .ref ktrying, .int (nI ksunkMany), .int ksending, .int kfleets, .ref ktext, .int (nI ktexts), .int kseed, .ref kline, .ref kwritten, .int (nI klineMany), .int khasWritten, .ref knode, .int (nI knodes), .int (nI konesMany), .int (nI kwithin), .int (nI ktop)])), (ktape, .inl (ky 0, 940, .inl ktapeF))] H → va_D A [(o, .inr (12, [.int kthrown, .ref ktape, .int (nI ktaped), .int (nI ksize), .int (nI klimit), .int (nI k39), .int (nI k4), .int kkind, .int x40, .int ksign, .int kfault, .int kplace, .long w41, .int ktold, .ref know, .ref kread, .ref kkept, .ref ksnaps, .ref kaside, .ref kname, .ref kreadName, .ref kkeptName, .ref kisKept, .ref konces, .int (nI ksnapMany), .int khasCells, .ref kpoured, .ref kfar, .ref ksides, .int (nI ksideMany), .int kwayDays, .int khasWay, .ref klines, .ref kmet, .int (nI kmetMany), .ref ksunk, .ref ktrying, .int (nI ksunkMany), .int ksending, .int kfleets, .ref ktext, .int (nI ktexts), .int kseed, .ref kline, .ref kwritten, .int (nI klineMany), .int khasWritten, .ref knode, .int (nI knodes), .int (nI konesMany), .int (nI kwithin), .int (nI ktop)])), (ktape, .inl (ky 0, 940, .inl ktapeF))] → va_S A s.heap H locs → lv_has ls 5 [(3, .int x38), (2, .int (nI 1)), (0, .ref o)] → W p l e (headSpec wsX12_go ({ frames := 1, cells := 0, slots := 0, locals := 21 })).room s m args below meth c H locs 0 0 Q (F0 m 243 ls []) := by
                      intro jKs jAl H locs ls hP hD hS hl
                      refine lv_aload_n hx hb dX12_go_243 rfl (lv_at hl 2 rfl) ?_
                      refine va_get (D := (dC, dI)) (ci := 12) (v := .ref ktape) (C := RX12) (T := TX12) (N := 52) hx hb hts hin12 hown hK hP 0 rfl rfl 1 (by decide) (hts (.fieldLink RX12 7 "PorridgeSeaModel" "tape" "[I") (List.mem_of_getElem? (i := 3) rfl)) (fun _ h9 => h9) rfl dX12_go_244 ?_
                      refine lv_aload_n hx hb dX12_go_247 rfl (lv_at hl 2 rfl) ?_
                      refine va_get (D := (dC, dI)) (ci := 12) (v := .int (nI k39)) (C := RX12) (T := TX12) (N := 52) hx hb hts hin12 hown hK hP 0 rfl rfl 5 (by decide) (hts (.fieldLink RX12 21 "PorridgeSeaModel" "to" "I") (List.mem_of_getElem? (i := 1) rfl)) (fun _ h9 => h9) rfl dX12_go_248 ?_
                      obtain ⟨y57, e58⟩ : ∃ z9, z9 = ktapeF k39 := ⟨_, rfl⟩
                      refine r_iald hx hb hK hP 1 rfl k39 (lf_g_go_3 bt ksize klimit kto ktapeF gq k4 n8 y16 x38 k39 x40 w41 n46 r49 y57 iv_ko_1 iv_ko_2 iv_ko_3 hTM hgq j5 j6 jSk hm10 jQ jM c15 e17 t18 t19 t22 t23 t28 t29 j42 j43 j44 jPl jRn jG jN jW jE hm48 p50 jKs jAl e58) (by decide) y57 e58.symm dX12_go_251 ?_
                      obtain ⟨t59, t60⟩ : bt k39 < 256 ∧ (y57 = nI (bt k39)) := by rw [e58]; exact hTM k39 (lf_g_go_4 bt ksize klimit kto ktapeF gq k4 n8 y16 x38 k39 x40 w41 n46 r49 y57 iv_ko_1 iv_ko_2 iv_ko_3 hTM hgq j5 j6 jSk hm10 jQ jM c15 e17 t18 t19 t22 t23 t28 t29 j42 j43 j44 jPl jRn jG jN jW jE hm48 p50 jKs jAl e58)
                      refine lv_istore (lv' := [(4, .int y57), (3, .int x38), (2, .int (nI 1)), (0, .ref o)]) hx hb dX12_go_252 hl (by decide) rfl (fun ls hl => ?_)
                      refine lv_iload_n hx hb dX12_go_254 rfl (lv_at hl 1 rfl) ?_
                      have hJ64 : ∀ (x62 : Int32), (x62 = nI 0 ∨ x62 = nI 1) → ((x62 = nI 1 ∧ dcn bt k4 ((k39 + 1) - k4) = 0) ∨ (x62 = nI 0 ∧ dcn bt k4 ((k39 + 1) - k4) ≠ 0)) → ∀ (H : Heap) (locs : List Loc) (ls : Array Slot), va_P (dC, dI) vwCl [(o, .inr (12, [.int kthrown, .ref ktape, .int (nI ktaped), .int (nI ksize), .int (nI klimit), .int (nI k39), .int (nI k4), .int kkind, .int x40, .int ksign, .int kfault, .int kplace, .long w41, .int ktold, .ref know, .ref kread, .ref kkept, .ref ksnaps, .ref kaside, .ref kname, .ref kreadName, .ref kkeptName, .ref kisKept, .ref konces, .int (nI ksnapMany), .int khasCells, .ref kpoured, .ref kfar, .ref ksides, .int (nI ksideMany), .int kwayDays, .int khasWay, .ref klines, .ref kmet, .int (nI kmetMany), .ref ksunk, .ref ktrying, .int (nI ksunkMany), .int ksending, .int kfleets, .ref ktext, .int (nI ktexts), .int kseed, .ref kline, .ref kwritten, .int (nI klineMany), .int khasWritten, .ref knode, .int (nI knodes), .int (nI konesMany), .int (nI kwithin), .int (nI ktop)])), (ktape, .inl (ky 0, 940, .inl ktapeF))] H → va_D A [(o, .inr (12, [.int kthrown, .ref ktape, .int (nI ktaped), .int (nI ksize), .int (nI klimit), .int (nI k39), .int (nI k4), .int kkind, .int x40, .int ksign, .int kfault, .int kplace, .long w41, .int ktold, .ref know, .ref kread, .ref kkept, .ref ksnaps, .ref kaside, .ref kname, .ref kreadName, .ref kkeptName, .ref kisKept, .ref konces, .int (nI ksnapMany), .int khasCells, .ref kpoured, .ref kfar, .ref ksides, .int (nI ksideMany), .int kwayDays, .int khasWay, .ref klines, .ref kmet, .int (nI kmetMany), .ref ksunk, .ref ktrying, .int (nI ksunkMany), .int ksending, .int kfleets, .ref ktext, .int (nI ktexts), .int kseed, .ref kline, .ref kwritten, .int (nI klineMany), .int khasWritten, .ref knode, .int (nI knodes), .int (nI konesMany), .int (nI kwithin), .int (nI ktop)])), (ktape, .inl (ky 0, 940, .inl ktapeF))] → va_S A s.heap H locs → lv_has ls 5 [(4, .int y57), (2, .int (nI 1)), (0, .ref o)] → W p l e (headSpec wsX12_go ({ frames := 1, cells := 0, slots := 0, locals := 21 })).room s m args below meth c H locs 0 0 Q (F0 m 272 ls [.int x62]) := by
                        intro x62 j63 jG1 H locs ls hP hD hS hl
                        refine lv_istore_n (lv' := [(3, .int x62), (4, .int y57), (2, .int (nI 1)), (0, .ref o)]) hx hb dX12_go_272 rfl hl (by decide) rfl (fun ls hl => ?_)
                        refine lv_aload_n hx hb dX12_go_273 rfl (lv_at hl 3 rfl) ?_
                        refine va_get (D := (dC, dI)) (ci := 12) (v := .int (nI k39)) (C := RX12) (T := TX12) (N := 52) hx hb hts hin12 hown hK hP 0 rfl rfl 5 (by decide) (hts (.fieldLink RX12 21 "PorridgeSeaModel" "to" "I") (List.mem_of_getElem? (i := 1) rfl)) (fun _ h9 => h9) rfl dX12_go_274 ?_
                        refine lv_aload_n hx hb dX12_go_277 rfl (lv_at hl 3 rfl) ?_
                        refine va_get (D := (dC, dI)) (ci := 12) (v := .int (nI k4)) (C := RX12) (T := TX12) (N := 52) hx hb hts hin12 hown hK hP 0 rfl rfl 6 (by decide) (hts (.fieldLink RX12 24 "PorridgeSeaModel" "from" "I") (List.mem_of_getElem? (i := 4) rfl)) (fun _ h9 => h9) rfl dX12_go_278 ?_
                        refine lv_isub hx hb dX12_go_281 ?_
                        refine r_ti (nI (k39 - k4)) (pk_sub (lf_g_go_5 bt ksize klimit kto ktapeF gq k4 n8 y16 x38 k39 x40 w41 n46 r49 y57 x62 iv_ko_1 iv_ko_2 iv_ko_3 hTM hgq j5 j6 jSk hm10 jQ jM c15 e17 t18 t19 t22 t23 t28 t29 j42 j43 j44 jPl jRn jG jN jW jE hm48 p50 jKs jAl e58 t59 t60 j63 jG1)) ?_
                        refine lv_bipush (v := nI 7) hx hb dX12_go_282 (by decide) ?_
                        have hJ67 : ∀ (w66 : Int64), (¬ (dcn bt k4 ((k39 + 1) - k4) = 0 ∧ ((k39 + 1) - k4) ≤ 7) ∨ w66 = Int64.ofNat (c27 bt k4 ((k39 + 1) - k4))) → ∀ (H : Heap) (locs : List Loc) (ls : Array Slot), va_P (dC, dI) vwCl [(o, .inr (12, [.int kthrown, .ref ktape, .int (nI ktaped), .int (nI ksize), .int (nI klimit), .int (nI k39), .int (nI k4), .int kkind, .int x40, .int ksign, .int kfault, .int kplace, .long w66, .int ktold, .ref know, .ref kread, .ref kkept, .ref ksnaps, .ref kaside, .ref kname, .ref kreadName, .ref kkeptName, .ref kisKept, .ref konces, .int (nI ksnapMany), .int khasCells, .ref kpoured, .ref kfar, .ref ksides, .int (nI ksideMany), .int kwayDays, .int khasWay, .ref klines, .ref kmet, .int (nI kmetMany), .ref ksunk, .ref ktrying, .int (nI ksunkMany), .int ksending, .int kfleets, .ref ktext, .int (nI ktexts), .int kseed, .ref kline, .ref kwritten, .int (nI klineMany), .int khasWritten, .ref knode, .int (nI knodes), .int (nI konesMany), .int (nI kwithin), .int (nI ktop)])), (ktape, .inl (ky 0, 940, .inl ktapeF))] H → va_D A [(o, .inr (12, [.int kthrown, .ref ktape, .int (nI ktaped), .int (nI ksize), .int (nI klimit), .int (nI k39), .int (nI k4), .int kkind, .int x40, .int ksign, .int kfault, .int kplace, .long w66, .int ktold, .ref know, .ref kread, .ref kkept, .ref ksnaps, .ref kaside, .ref kname, .ref kreadName, .ref kkeptName, .ref kisKept, .ref konces, .int (nI ksnapMany), .int khasCells, .ref kpoured, .ref kfar, .ref ksides, .int (nI ksideMany), .int kwayDays, .int khasWay, .ref klines, .ref kmet, .int (nI kmetMany), .ref ksunk, .ref ktrying, .int (nI ksunkMany), .int ksending, .int kfleets, .ref ktext, .int (nI ktexts), .int kseed, .ref kline, .ref kwritten, .int (nI klineMany), .int khasWritten, .ref knode, .int (nI knodes), .int (nI konesMany), .int (nI kwithin), .int (nI ktop)])), (ktape, .inl (ky 0, 940, .inl ktapeF))] → va_S A s.heap H locs → lv_has ls 5 [(3, .int x62), (4, .int y57), (2, .int (nI 1)), (0, .ref o)] → W p l e (headSpec wsX12_go ({ frames := 1, cells := 0, slots := 0, locals := 21 })).room s m args below meth c H locs 0 0 Q (F0 m 307 ls []) := by
                          intro w66 jW1 H locs ls hP hD hS hl
                          refine lv_aload_n hx hb dX12_go_307 rfl (lv_at hl 3 rfl) ?_
                          refine va_get (D := (dC, dI)) (ci := 12) (v := .int (nI k39)) (C := RX12) (T := TX12) (N := 52) hx hb hts hin12 hown hK hP 0 rfl rfl 5 (by decide) (hts (.fieldLink RX12 21 "PorridgeSeaModel" "to" "I") (List.mem_of_getElem? (i := 1) rfl)) (fun _ h9 => h9) rfl dX12_go_308 ?_
                          refine lv_aload_n hx hb dX12_go_311 rfl (lv_at hl 3 rfl) ?_
                          refine va_get (D := (dC, dI)) (ci := 12) (v := .int (nI k4)) (C := RX12) (T := TX12) (N := 52) hx hb hts hin12 hown hK hP 0 rfl rfl 6 (by decide) (hts (.fieldLink RX12 24 "PorridgeSeaModel" "from" "I") (List.mem_of_getElem? (i := 4) rfl)) (fun _ h9 => h9) rfl dX12_go_312 ?_
                          refine lv_isub hx hb dX12_go_315 ?_
                          refine r_ti (nI (k39 - k4)) (pk_sub (lf_g_go_6 bt ksize klimit kto ktapeF gq k4 n8 y16 x38 k39 x40 w41 n46 r49 y57 x62 w66 iv_ko_1 iv_ko_2 iv_ko_3 hTM hgq j5 j6 jSk hm10 jQ jM c15 e17 t18 t19 t22 t23 t28 t29 j42 j43 j44 jPl jRn jG jN jW jE hm48 p50 jKs jAl e58 t59 t60 j63 jG1 jW1)) ?_
                          refine lv_iconst (v := nI 3) hx hb dX12_go_316 (by decide) ?_
                          have hJ70 : ∀ (x69 : Int32), (¬ (dcn bt k4 ((k39 + 1) - k4) = ((k39 + 1) - k4) ∧ ((k39 + 1) - k4) ≤ 3) ∨ x69 = nI (nvn bt k4 ((k39 + 1) - k4))) → ∀ (H : Heap) (locs : List Loc) (ls : Array Slot), va_P (dC, dI) vwCl [(o, .inr (12, [.int kthrown, .ref ktape, .int (nI ktaped), .int (nI ksize), .int (nI klimit), .int (nI k39), .int (nI k4), .int kkind, .int x69, .int ksign, .int kfault, .int kplace, .long w66, .int ktold, .ref know, .ref kread, .ref kkept, .ref ksnaps, .ref kaside, .ref kname, .ref kreadName, .ref kkeptName, .ref kisKept, .ref konces, .int (nI ksnapMany), .int khasCells, .ref kpoured, .ref kfar, .ref ksides, .int (nI ksideMany), .int kwayDays, .int khasWay, .ref klines, .ref kmet, .int (nI kmetMany), .ref ksunk, .ref ktrying, .int (nI ksunkMany), .int ksending, .int kfleets, .ref ktext, .int (nI ktexts), .int kseed, .ref kline, .ref kwritten, .int (nI klineMany), .int khasWritten, .ref knode, .int (nI knodes), .int (nI konesMany), .int (nI kwithin), .int (nI ktop)])), (ktape, .inl (ky 0, 940, .inl ktapeF))] H → va_D A [(o, .inr (12, [.int kthrown, .ref ktape, .int (nI ktaped), .int (nI ksize), .int (nI klimit), .int (nI k39), .int (nI k4), .int kkind, .int x69, .int ksign, .int kfault, .int kplace, .long w66, .int ktold, .ref know, .ref kread, .ref kkept, .ref ksnaps, .ref kaside, .ref kname, .ref kreadName, .ref kkeptName, .ref kisKept, .ref konces, .int (nI ksnapMany), .int khasCells, .ref kpoured, .ref kfar, .ref ksides, .int (nI ksideMany), .int kwayDays, .int khasWay, .ref klines, .ref kmet, .int (nI kmetMany), .ref ksunk, .ref ktrying, .int (nI ksunkMany), .int ksending, .int kfleets, .ref ktext, .int (nI ktexts), .int kseed, .ref kline, .ref kwritten, .int (nI klineMany), .int khasWritten, .ref knode, .int (nI knodes), .int (nI konesMany), .int (nI kwithin), .int (nI ktop)])), (ktape, .inl (ky 0, 940, .inl ktapeF))] → va_S A s.heap H locs → lv_has ls 5 [(3, .int x62), (2, .int (nI 1)), (0, .ref o)] → W p l e (headSpec wsX12_go ({ frames := 1, cells := 0, slots := 0, locals := 21 })).room s m args below meth c H locs 0 0 Q (F0 m 337 ls []) := by
                            intro x69 jN1 H locs ls hP hD hS hl
                            refine lv_aload_n hx hb dX12_go_337 rfl (lv_at hl 2 rfl) ?_
                            refine lv_dup hx hb dX12_go_338 rfl ?_
                            refine va_get (D := (dC, dI)) (ci := 12) (v := .int (nI k39)) (C := RX12) (T := TX12) (N := 52) hx hb hts hin12 hown hK hP 0 rfl rfl 5 (by decide) (hts (.fieldLink RX12 21 "PorridgeSeaModel" "to" "I") (List.mem_of_getElem? (i := 1) rfl)) (fun _ h9 => h9) rfl dX12_go_339 ?_
                            refine lv_iconst (v := nI 1) hx hb dX12_go_342 (by decide) ?_
                            refine lv_iadd hx hb dX12_go_343 ?_
                            refine r_ti (nI (k39 + 1)) (nI_add _ _) ?_
                            refine va_put (D := (dC, dI)) (ci := 12) (v := .int (nI (k39 + 1))) (ty := .int) (C := RX12) (T := TX12) (N := 52) hx hb hts hin12 tyX12 tyX12_ok nmX12 hown hK hP hD hS 0 rfl rfl 5 (by decide) (hts (.fieldLink RX12 21 "PorridgeSeaModel" "to" "I") (List.mem_of_getElem? (i := 1) rfl)) (fun _ h9 => h9) rfl (by decide +kernel) rfl rfl (Nat.le_of_ble_eq_true rfl) dX12_go_344 (fun H locs hP hD hS => ?_)
                            have hP : va_P (dC, dI) vwCl [(o, .inr (12, [.int kthrown, .ref ktape, .int (nI ktaped), .int (nI ksize), .int (nI klimit), .int (nI (k39 + 1)), .int (nI k4), .int kkind, .int x69, .int ksign, .int kfault, .int kplace, .long w66, .int ktold, .ref know, .ref kread, .ref kkept, .ref ksnaps, .ref kaside, .ref kname, .ref kreadName, .ref kkeptName, .ref kisKept, .ref konces, .int (nI ksnapMany), .int khasCells, .ref kpoured, .ref kfar, .ref ksides, .int (nI ksideMany), .int kwayDays, .int khasWay, .ref klines, .ref kmet, .int (nI kmetMany), .ref ksunk, .ref ktrying, .int (nI ksunkMany), .int ksending, .int kfleets, .ref ktext, .int (nI ktexts), .int kseed, .ref kline, .ref kwritten, .int (nI klineMany), .int khasWritten, .ref knode, .int (nI knodes), .int (nI konesMany), .int (nI kwithin), .int (nI ktop)])), (ktape, .inl (ky 0, 940, .inl ktapeF))] H := hP
                            have hD : va_D A [(o, .inr (12, [.int kthrown, .ref ktape, .int (nI ktaped), .int (nI ksize), .int (nI klimit), .int (nI (k39 + 1)), .int (nI k4), .int kkind, .int x69, .int ksign, .int kfault, .int kplace, .long w66, .int ktold, .ref know, .ref kread, .ref kkept, .ref ksnaps, .ref kaside, .ref kname, .ref kreadName, .ref kkeptName, .ref kisKept, .ref konces, .int (nI ksnapMany), .int khasCells, .ref kpoured, .ref kfar, .ref ksides, .int (nI ksideMany), .int kwayDays, .int khasWay, .ref klines, .ref kmet, .int (nI kmetMany), .ref ksunk, .ref ktrying, .int (nI ksunkMany), .int ksending, .int kfleets, .ref ktext, .int (nI ktexts), .int kseed, .ref kline, .ref kwritten, .int (nI klineMany), .int khasWritten, .ref knode, .int (nI knodes), .int (nI konesMany), .int (nI kwithin), .int (nI ktop)])), (ktape, .inl (ky 0, 940, .inl ktapeF))] := hD
                            refine lv_goto (tgt := 215) hx hb dX12_go_347 (by decide) ?_
                            exact ih47 x62 (k39 + 1) x69 w66 j63 (lf_g_go_7 bt ksize klimit kto ktapeF gq k4 n8 y16 x38 k39 x40 w41 n46 r49 y57 x62 w66 x69 iv_ko_1 iv_ko_2 iv_ko_3 hTM hgq j5 j6 jSk hm10 jQ jM c15 e17 t18 t19 t22 t23 t28 t29 j42 j43 j44 jPl jRn jG jN jW jE hm48 p50 jKs jAl e58 t59 t60 j63 jG1 jW1 jN1) (lf_g_go_8 bt ksize klimit kto ktapeF gq k4 n8 y16 x38 k39 x40 w41 n46 r49 y57 x62 w66 x69 iv_ko_1 iv_ko_2 iv_ko_3 hTM hgq j5 j6 jSk hm10 jQ jM c15 e17 t18 t19 t22 t23 t28 t29 j42 j43 j44 jPl jRn jG jN jW jE hm48 p50 jKs jAl e58 t59 t60 j63 jG1 jW1 jN1) (lf_g_go_9 bt ksize klimit kto ktapeF gq k4 n8 y16 x38 k39 x40 w41 n46 r49 y57 x62 w66 x69 iv_ko_1 iv_ko_2 iv_ko_3 hTM hgq j5 j6 jSk hm10 jQ jM c15 e17 t18 t19 t22 t23 t28 t29 j42 j43 j44 jPl jRn jG jN jW jE hm48 p50 jKs jAl e58 t59 t60 j63 jG1 jW1 jN1) (lf_g_go_10 bt ksize klimit kto ktapeF gq k4 n8 y16 x38 k39 x40 w41 n46 r49 y57 x62 w66 x69 iv_ko_1 iv_ko_2 iv_ko_3 hTM hgq j5 j6 jSk hm10 jQ jM c15 e17 t18 t19 t22 t23 t28 t29 j42 j43 j44 jPl jRn jG jN jW jE hm48 p50 jKs jAl e58 t59 t60 j63 jG1 jW1 jN1) jG1 jN1 jW1 (lf_g_go_11 bt ksize klimit kto ktapeF gq k4 n8 y16 x38 k39 x40 w41 n46 r49 y57 x62 w66 x69 iv_ko_1 iv_ko_2 iv_ko_3 hTM hgq j5 j6 jSk hm10 jQ jM c15 e17 t18 t19 t22 t23 t28 t29 j42 j43 j44 jPl jRn jG jN jW jE hm48 p50 jKs jAl e58 t59 t60 j63 jG1 jW1 jN1) (lf_g_go_12 bt ksize klimit kto ktapeF gq k4 n8 y16 x38 k39 x40 w41 n46 r49 y57 x62 w66 x69 iv_ko_1 iv_ko_2 iv_ko_3 hTM hgq j5 j6 jSk hm10 jQ jM c15 e17 t18 t19 t22 t23 t28 t29 j42 j43 j44 jPl jRn jG jN jW jE hm48 p50 jKs jAl e58 t59 t60 j63 jG1 jW1 jN1) _ _ _ hP hD hS (lv_sub hl [0, 1, 2] rfl)
                          refine n_icmp_ge (x := (k39 - k4)) (y := 3) (tgt := 337) hx hb (by omega) (by omega) dX12_go_317 (by decide) (fun c68 => ?_) (fun c68 => ?_)
                          · exact hJ70 x40 (lf_g_go_13 bt ksize klimit kto ktapeF gq k4 n8 y16 x38 k39 x40 w41 n46 r49 y57 x62 w66 iv_ko_1 iv_ko_2 iv_ko_3 hTM hgq j5 j6 jSk hm10 jQ jM c15 e17 t18 t19 t22 t23 t28 t29 j42 j43 j44 jPl jRn jG jN jW jE hm48 p50 jKs jAl e58 t59 t60 j63 jG1 jW1 c68) _ _ _ hP hD hS (lv_sub hl [0, 2, 3] rfl)
                          · refine lv_aload_n hx hb dX12_go_320 rfl (lv_at hl 3 rfl) ?_
                            refine lv_bipush (v := nI 10) hx hb dX12_go_321 (by decide) ?_
                            refine lv_aload_n hx hb dX12_go_323 rfl (lv_at hl 3 rfl) ?_
                            refine va_get (D := (dC, dI)) (ci := 12) (v := .int x40) (C := RX12) (T := TX12) (N := 52) hx hb hts hin12 hown hK hP 0 rfl rfl 8 (by decide) (hts (.fieldLink RX12 47 "PorridgeSeaModel" "number" "I") (List.mem_of_getElem? (i := 9) rfl)) (fun _ h9 => h9) rfl dX12_go_324 ?_
                            refine lv_imul hx hb dX12_go_327 ?_
                            refine lv_topi (fun y71 e72 => ?_)
                            refine lv_iload hx hb dX12_go_328 (lv_at hl 1 rfl) ?_
                            refine lv_iadd hx hb dX12_go_330 ?_
                            refine lv_topi (fun y73 e74 => ?_)
                            refine lv_bipush (v := nI 48) hx hb dX12_go_331 (by decide) ?_
                            refine lv_isub hx hb dX12_go_333 ?_
                            refine lv_topi (fun y75 e76 => ?_)
                            refine va_put (D := (dC, dI)) (ci := 12) (v := .int y75) (ty := .int) (C := RX12) (T := TX12) (N := 52) hx hb hts hin12 tyX12 tyX12_ok nmX12 hown hK hP hD hS 0 rfl rfl 8 (by decide) (hts (.fieldLink RX12 47 "PorridgeSeaModel" "number" "I") (List.mem_of_getElem? (i := 9) rfl)) (fun _ h9 => h9) rfl (by decide +kernel) rfl rfl (Nat.le_of_ble_eq_true rfl) dX12_go_334 (fun H locs hP hD hS => ?_)
                            have hP : va_P (dC, dI) vwCl [(o, .inr (12, [.int kthrown, .ref ktape, .int (nI ktaped), .int (nI ksize), .int (nI klimit), .int (nI k39), .int (nI k4), .int kkind, .int y75, .int ksign, .int kfault, .int kplace, .long w66, .int ktold, .ref know, .ref kread, .ref kkept, .ref ksnaps, .ref kaside, .ref kname, .ref kreadName, .ref kkeptName, .ref kisKept, .ref konces, .int (nI ksnapMany), .int khasCells, .ref kpoured, .ref kfar, .ref ksides, .int (nI ksideMany), .int kwayDays, .int khasWay, .ref klines, .ref kmet, .int (nI kmetMany), .ref ksunk, .ref ktrying, .int (nI ksunkMany), .int ksending, .int kfleets, .ref ktext, .int (nI ktexts), .int kseed, .ref kline, .ref kwritten, .int (nI klineMany), .int khasWritten, .ref knode, .int (nI knodes), .int (nI konesMany), .int (nI kwithin), .int (nI ktop)])), (ktape, .inl (ky 0, 940, .inl ktapeF))] H := hP
                            have hD : va_D A [(o, .inr (12, [.int kthrown, .ref ktape, .int (nI ktaped), .int (nI ksize), .int (nI klimit), .int (nI k39), .int (nI k4), .int kkind, .int y75, .int ksign, .int kfault, .int kplace, .long w66, .int ktold, .ref know, .ref kread, .ref kkept, .ref ksnaps, .ref kaside, .ref kname, .ref kreadName, .ref kkeptName, .ref kisKept, .ref konces, .int (nI ksnapMany), .int khasCells, .ref kpoured, .ref kfar, .ref ksides, .int (nI ksideMany), .int kwayDays, .int khasWay, .ref klines, .ref kmet, .int (nI kmetMany), .ref ksunk, .ref ktrying, .int (nI ksunkMany), .int ksending, .int kfleets, .ref ktext, .int (nI ktexts), .int kseed, .ref kline, .ref kwritten, .int (nI klineMany), .int khasWritten, .ref knode, .int (nI knodes), .int (nI konesMany), .int (nI kwithin), .int (nI ktop)])), (ktape, .inl (ky 0, 940, .inl ktapeF))] := hD
                            exact hJ70 y75 (lf_g_go_14 bt ksize klimit kto ktapeF gq k4 n8 y16 x38 k39 x40 w41 n46 r49 y57 x62 w66 y71 y73 y75 iv_ko_1 iv_ko_2 iv_ko_3 hTM hgq j5 j6 jSk hm10 jQ jM c15 e17 t18 t19 t22 t23 t28 t29 j42 j43 j44 jPl jRn jG jN jW jE hm48 p50 jKs jAl e58 t59 t60 j63 jG1 jW1 c68 e72 e74 e76) _ _ _ hP hD hS (lv_sub hl [0, 2, 3] rfl)
                        refine n_icmp_ge (x := (k39 - k4)) (y := 7) (tgt := 307) hx hb (by omega) (by omega) dX12_go_284 (by decide) (fun c65 => ?_) (fun c65 => ?_)
                        · exact hJ67 w41 (lf_g_go_15 bt ksize klimit kto ktapeF gq k4 n8 y16 x38 k39 x40 w41 n46 r49 y57 x62 iv_ko_1 iv_ko_2 iv_ko_3 hTM hgq j5 j6 jSk hm10 jQ jM c15 e17 t18 t19 t22 t23 t28 t29 j42 j43 j44 jPl jRn jG jN jW jE hm48 p50 jKs jAl e58 t59 t60 j63 jG1 c65) _ _ _ hP hD hS (lv_sub hl [0, 1, 2, 3] rfl)
                        · refine lv_aload_n hx hb dX12_go_287 rfl (lv_at hl 3 rfl) ?_
                          refine lv_ldc2 (v := 27) hx hb hown (hts _ (List.mem_of_getElem? (i := 10) rfl)) dX12_go_288 ?_
                          refine lv_aload_n hx hb dX12_go_291 rfl (lv_at hl 3 rfl) ?_
                          refine va_get (D := (dC, dI)) (ci := 12) (v := .long w41) (C := RX12) (T := TX12) (N := 52) hx hb hts hin12 hown hK hP 0 rfl rfl 12 (by decide) (hts (.fieldLink RX12 43 "PorridgeSeaModel" "word" "J") (List.mem_of_getElem? (i := 8) rfl)) (fun _ h9 => h9) rfl dX12_go_292 ?_
                          refine lv_lmul hx hb dX12_go_295 ?_
                          refine lv_topl (fun w77 e78 => ?_)
                          refine lv_iload hx hb dX12_go_296 (lv_at hl 1 rfl) ?_
                          obtain ⟨w79, e80⟩ : ∃ z9 : Int64, z9 = (y57).toInt64 := ⟨_, rfl⟩
                          refine lv_i2l (v := w79) hx hb dX12_go_298 e80.symm ?_
                          refine lv_ladd hx hb dX12_go_299 ?_
                          refine lv_topl (fun w81 e82 => ?_)
                          refine lv_ldc2 (v := 96) hx hb hown (hts _ (List.mem_of_getElem? (i := 11) rfl)) dX12_go_300 ?_
                          refine lv_lsub hx hb dX12_go_303 ?_
                          refine lv_topl (fun w83 e84 => ?_)
                          refine va_put (D := (dC, dI)) (ci := 12) (v := .long w83) (ty := .long) (C := RX12) (T := TX12) (N := 52) hx hb hts hin12 tyX12 tyX12_ok nmX12 hown hK hP hD hS 0 rfl rfl 12 (by decide) (hts (.fieldLink RX12 43 "PorridgeSeaModel" "word" "J") (List.mem_of_getElem? (i := 8) rfl)) (fun _ h9 => h9) rfl (by decide +kernel) rfl rfl (Nat.le_of_ble_eq_true rfl) dX12_go_304 (fun H locs hP hD hS => ?_)
                          have hP : va_P (dC, dI) vwCl [(o, .inr (12, [.int kthrown, .ref ktape, .int (nI ktaped), .int (nI ksize), .int (nI klimit), .int (nI k39), .int (nI k4), .int kkind, .int x40, .int ksign, .int kfault, .int kplace, .long w83, .int ktold, .ref know, .ref kread, .ref kkept, .ref ksnaps, .ref kaside, .ref kname, .ref kreadName, .ref kkeptName, .ref kisKept, .ref konces, .int (nI ksnapMany), .int khasCells, .ref kpoured, .ref kfar, .ref ksides, .int (nI ksideMany), .int kwayDays, .int khasWay, .ref klines, .ref kmet, .int (nI kmetMany), .ref ksunk, .ref ktrying, .int (nI ksunkMany), .int ksending, .int kfleets, .ref ktext, .int (nI ktexts), .int kseed, .ref kline, .ref kwritten, .int (nI klineMany), .int khasWritten, .ref knode, .int (nI knodes), .int (nI konesMany), .int (nI kwithin), .int (nI ktop)])), (ktape, .inl (ky 0, 940, .inl ktapeF))] H := hP
                          have hD : va_D A [(o, .inr (12, [.int kthrown, .ref ktape, .int (nI ktaped), .int (nI ksize), .int (nI klimit), .int (nI k39), .int (nI k4), .int kkind, .int x40, .int ksign, .int kfault, .int kplace, .long w83, .int ktold, .ref know, .ref kread, .ref kkept, .ref ksnaps, .ref kaside, .ref kname, .ref kreadName, .ref kkeptName, .ref kisKept, .ref konces, .int (nI ksnapMany), .int khasCells, .ref kpoured, .ref kfar, .ref ksides, .int (nI ksideMany), .int kwayDays, .int khasWay, .ref klines, .ref kmet, .int (nI kmetMany), .ref ksunk, .ref ktrying, .int (nI ksunkMany), .int ksending, .int kfleets, .ref ktext, .int (nI ktexts), .int kseed, .ref kline, .ref kwritten, .int (nI klineMany), .int khasWritten, .ref knode, .int (nI knodes), .int (nI konesMany), .int (nI kwithin), .int (nI ktop)])), (ktape, .inl (ky 0, 940, .inl ktapeF))] := hD
                          exact hJ67 w83 (lf_g_go_16 bt ksize klimit kto ktapeF gq k4 n8 y16 x38 k39 x40 w41 n46 r49 y57 x62 w77 w79 w81 w83 iv_ko_1 iv_ko_2 iv_ko_3 hTM hgq j5 j6 jSk hm10 jQ jM c15 e17 t18 t19 t22 t23 t28 t29 j42 j43 j44 jPl jRn jG jN jW jE hm48 p50 jKs jAl e58 t59 t60 j63 jG1 c65 e78 e80 e82 e84) _ _ _ hP hD hS (lv_sub hl [0, 1, 2, 3] rfl)
                      refine lv_if_eq (tgt := 271) hx hb dX12_go_255 (by decide) (fun c61 => ?_) (fun c61 => ?_)
                      · refine lv_iconst (v := nI 0) hx hb dX12_go_271 (by decide) ?_
                        exact hJ64 (nI 0) (lf_g_go_17) (lf_g_go_18 bt ksize klimit kto ktapeF gq k4 n8 y16 x38 k39 x40 w41 n46 r49 y57 iv_ko_1 iv_ko_2 iv_ko_3 hTM hgq j5 j6 jSk hm10 jQ jM c15 e17 t18 t19 t22 t23 t28 t29 j42 j43 j44 jPl jRn jG jN jW jE hm48 p50 jKs jAl e58 t59 t60 c61) _ _ _ hP hD hS (lv_sub hl [0, 2, 3] rfl)
                      · refine lv_iload hx hb dX12_go_258 (lv_at hl 0 rfl) ?_
                        refine vp_callSi (W.runS (As := [.int y57]) (rest := []) ⟨hx, hb, hml, hown, hts⟩ (c_g_isLetter l dC dI ky y57) (va_cwS 1 hts gX12_go_X12_isLetter rfl rfl rfl (by decide +kernel) ⟨(Nat.le_of_ble_eq_true rfl), (Nat.le_of_ble_eq_true rfl)⟩) (pre_PS hK hP [] rfl) rfl rfl hl.1 rfl (lv_room (Nat.le_of_ble_eq_true rfl)) dX12_go_260 ⟨(Nat.le_of_ble_eq_true rfl), (Nat.le_of_ble_eq_true rfl)⟩) (fun r85 p86 => ?_)
                        rcases p86 with ⟨rfl, t87, t88⟩ | ⟨rfl, t89⟩
                        · refine lv_iload_n hx hb dX12_go_263 rfl (lv_at hl 2 rfl) ?_
                          refine lv_icmp_ne (tgt := 271) hx hb dX12_go_264 (by decide) (fun c90 => absurd c90 (by decide)) (fun c90 => ?_)
                          refine lv_iconst (v := nI 1) hx hb dX12_go_267 (by decide) ?_
                          refine lv_goto (tgt := 272) hx hb dX12_go_268 (by decide) ?_
                          exact hJ64 (nI 1) (lf_g_go_19) (lf_g_go_20 bt ksize klimit kto ktapeF gq k4 n8 y16 x38 k39 x40 w41 n46 r49 y57 iv_ko_1 iv_ko_2 iv_ko_3 hTM hgq j5 j6 jSk hm10 jQ jM c15 e17 t18 t19 t22 t23 t28 t29 j42 j43 j44 jPl jRn jG jN jW jE hm48 p50 jKs jAl e58 t59 t60 c61 t87 t88) _ _ _ hP hD hS (lv_sub hl [0, 2, 3] rfl)
                        · refine lv_iload_n hx hb dX12_go_263 rfl (lv_at hl 2 rfl) ?_
                          refine lv_icmp_ne (tgt := 271) hx hb dX12_go_264 (by decide) (fun c91 => ?_) (fun c91 => absurd c91 (by decide))
                          refine lv_iconst (v := nI 0) hx hb dX12_go_271 (by decide) ?_
                          exact hJ64 (nI 0) (lf_g_go_21) (lf_g_go_22 bt ksize klimit kto ktapeF gq k4 n8 y16 x38 k39 x40 w41 n46 r49 y57 iv_ko_1 iv_ko_2 iv_ko_3 hTM hgq j5 j6 jSk hm10 jQ jM c15 e17 t18 t19 t22 t23 t28 t29 j42 j43 j44 jPl jRn jG jN jW jE hm48 p50 jKs jAl e58 t59 t60 c61 t89) _ _ _ hP hD hS (lv_sub hl [0, 2, 3] rfl)
                    rcases p52 with ⟨rfl, t53, t54⟩ | ⟨rfl, t55⟩
                    · refine lv_if_ne (tgt := 243) hx hb dX12_go_226 (by decide) (fun c92 => ?_) (fun c92 => absurd c92 (by decide))
                      exact hJ56  (lf_g_go_23 bt ksize klimit kto ktapeF gq k4 n8 y16 x38 k39 x40 w41 n46 r49 iv_ko_1 iv_ko_2 iv_ko_3 hTM hgq j5 j6 jSk hm10 jQ jM c15 e17 t18 t19 t22 t23 t28 t29 j42 j43 j44 jPl jRn jG jN jW jE hm48 p50 t53 t54) (lf_g_go_24 bt ksize klimit kto ktapeF gq k4 n8 y16 x38 k39 x40 w41 n46 r49 iv_ko_1 iv_ko_2 iv_ko_3 hTM hgq j5 j6 jSk hm10 jQ jM c15 e17 t18 t19 t22 t23 t28 t29 j42 j43 j44 jPl jRn jG jN jW jE hm48 p50 t53 t54) _ _ _ hP hD hS (lv_sub hl [0, 1, 2] rfl)
                    · refine lv_if_ne (tgt := 243) hx hb dX12_go_226 (by decide) (fun c93 => absurd c93 (by decide)) (fun c93 => ?_)
                      refine lv_aload_n hx hb dX12_go_229 rfl (lv_at hl 2 rfl) ?_
                      refine lv_aload_n hx hb dX12_go_230 rfl (lv_at hl 2 rfl) ?_
                      refine va_get (D := (dC, dI)) (ci := 12) (v := .int (nI k39)) (C := RX12) (T := TX12) (N := 52) hx hb hts hin12 hown hK hP 0 rfl rfl 5 (by decide) (hts (.fieldLink RX12 21 "PorridgeSeaModel" "to" "I") (List.mem_of_getElem? (i := 1) rfl)) (fun _ h9 => h9) rfl dX12_go_231 ?_
                      refine vp_callSi (W.runV (As := [.int (nI k39)]) (rest := []) ⟨hx, hb, hml, hown, hts⟩ (c_g_tapeAt l dC dI ky bt o kthrown ktape ktaped ksize klimit k39 k4 kkind x40 ksign kfault kplace w41 ktold know kread kkept ksnaps kaside kname kreadName kkeptName kisKept konces ksnapMany khasCells kpoured kfar ksides ksideMany kwayDays khasWay klines kmet kmetMany ksunk ktrying ksunkMany ksending kfleets ktext ktexts kseed kline kwritten klineMany khasWritten knode knodes konesMany kwithin ktop ktapeF k39 iv_ko_0 iv_ko_1 iv_ko_2 j44 j5 iv_ko_5 iv_ko_6 iv_ko_7 iv_ko_8 iv_ko_9 iv_ko_10 iv_ko_11 iv_ko_12 iv_ko_13 iv_ko_14 hTM j43) (cwV 1 hts gX12_go_X12_tapeAt rfl rfl rfl (by decide +kernel) ⟨(Nat.le_of_ble_eq_true rfl), (Nat.le_of_ble_eq_true rfl)⟩) (pre_PV hK hP [0, 1] rfl (ci := 12) (q0 := 0) rfl rfl) rfl rfl hl.1 rfl (lv_room (Nat.le_of_ble_eq_true rfl)) dX12_go_234 ⟨(Nat.le_of_ble_eq_true rfl), (Nat.le_of_ble_eq_true rfl)⟩) (fun r94 p95 => ?_)
                      refine vp_callSi (W.runS (As := [.int r94]) (rest := []) ⟨hx, hb, hml, hown, hts⟩ (c_g_isDigit l dC dI ky r94) (va_cwS 1 hts gX12_go_X12_isDigit rfl rfl rfl (by decide +kernel) ⟨(Nat.le_of_ble_eq_true rfl), (Nat.le_of_ble_eq_true rfl)⟩) (pre_PS hK hP [] rfl) rfl rfl hl.1 rfl (lv_room (Nat.le_of_ble_eq_true rfl)) dX12_go_237 ⟨(Nat.le_of_ble_eq_true rfl), (Nat.le_of_ble_eq_true rfl)⟩) (fun r96 p97 => ?_)
                      rcases p97 with ⟨rfl, t98, t99⟩ | ⟨rfl, t100⟩
                      · refine lv_if_eq (tgt := 350) hx hb dX12_go_240 (by decide) (fun c101 => absurd c101 (by decide)) (fun c101 => ?_)
                        exact hJ56  (lf_g_go_25 bt ksize klimit kto ktapeF gq k4 n8 y16 x38 k39 x40 w41 n46 r49 r94 iv_ko_1 iv_ko_2 iv_ko_3 hTM hgq j5 j6 jSk hm10 jQ jM c15 e17 t18 t19 t22 t23 t28 t29 j42 j43 j44 jPl jRn jG jN jW jE hm48 p50 t55 p95 t98 t99) (lf_g_go_26 bt ksize klimit kto ktapeF gq k4 n8 y16 x38 k39 x40 w41 n46 r49 r94 iv_ko_1 iv_ko_2 iv_ko_3 hTM hgq j5 j6 jSk hm10 jQ jM c15 e17 t18 t19 t22 t23 t28 t29 j42 j43 j44 jPl jRn jG jN jW jE hm48 p50 t55 p95 t98 t99) _ _ _ hP hD hS (lv_sub hl [0, 1, 2] rfl)
                      · refine lv_if_eq (tgt := 350) hx hb dX12_go_240 (by decide) (fun c102 => ?_) (fun c102 => absurd (by decide) c102)
                        refine lv_aload_n hx hb dX12_go_350 rfl (lv_at hl 2 rfl) ?_
                        refine lv_iload_n hx hb dX12_go_351 rfl (lv_at hl 0 rfl) ?_
                        refine lv_if_eq (tgt := 377) hx hb dX12_go_352 (by decide) (fun c103 => ?_) (fun c103 => ?_)
                        · refine lv_iconst (v := nI 1) hx hb dX12_go_377 (by decide) ?_
                          refine lv_goto (tgt := 390) hx hb dX12_go_378 (by decide) ?_
                          refine va_put (D := (dC, dI)) (ci := 12) (v := .int (nI 1)) (ty := .int) (C := RX12) (T := TX12) (N := 52) hx hb hts hin12 tyX12 tyX12_ok nmX12 hown hK hP hD hS 0 rfl rfl 7 (by decide) (hts (.fieldLink RX12 30 "PorridgeSeaModel" "kind" "I") (List.mem_of_getElem? (i := 6) rfl)) (fun _ h9 => h9) rfl (by decide +kernel) rfl rfl (Nat.le_of_ble_eq_true rfl) dX12_go_390 (fun H locs hP hD hS => ?_)
                          have hP : va_P (dC, dI) vwCl [(o, .inr (12, [.int kthrown, .ref ktape, .int (nI ktaped), .int (nI ksize), .int (nI klimit), .int (nI k39), .int (nI k4), .int (nI 1), .int x40, .int ksign, .int kfault, .int kplace, .long w41, .int ktold, .ref know, .ref kread, .ref kkept, .ref ksnaps, .ref kaside, .ref kname, .ref kreadName, .ref kkeptName, .ref kisKept, .ref konces, .int (nI ksnapMany), .int khasCells, .ref kpoured, .ref kfar, .ref ksides, .int (nI ksideMany), .int kwayDays, .int khasWay, .ref klines, .ref kmet, .int (nI kmetMany), .ref ksunk, .ref ktrying, .int (nI ksunkMany), .int ksending, .int kfleets, .ref ktext, .int (nI ktexts), .int kseed, .ref kline, .ref kwritten, .int (nI klineMany), .int khasWritten, .ref knode, .int (nI knodes), .int (nI konesMany), .int (nI kwithin), .int (nI ktop)])), (ktape, .inl (ky 0, 940, .inl ktapeF))] H := hP
                          have hD : va_D A [(o, .inr (12, [.int kthrown, .ref ktape, .int (nI ktaped), .int (nI ksize), .int (nI klimit), .int (nI k39), .int (nI k4), .int (nI 1), .int x40, .int ksign, .int kfault, .int kplace, .long w41, .int ktold, .ref know, .ref kread, .ref kkept, .ref ksnaps, .ref kaside, .ref kname, .ref kreadName, .ref kkeptName, .ref kisKept, .ref konces, .int (nI ksnapMany), .int khasCells, .ref kpoured, .ref kfar, .ref ksides, .int (nI ksideMany), .int kwayDays, .int khasWay, .ref klines, .ref kmet, .int (nI kmetMany), .ref ksunk, .ref ktrying, .int (nI ksunkMany), .int ksending, .int kfleets, .ref ktext, .int (nI ktexts), .int kseed, .ref kline, .ref kwritten, .int (nI klineMany), .int khasWritten, .ref knode, .int (nI knodes), .int (nI konesMany), .int (nI kwithin), .int (nI ktop)])), (ktape, .inl (ky 0, 940, .inl ktapeF))] := hD
                          rw [hQ]
                          exact W.vret hx hb hr (fun t9 ht9 hW9 => ⟨⟨(k39, k4, nI 1, x40, ksign, w41), rfl, ⟨j44, j5, (lf_g_go_27 bt ksize klimit kto ksign ktapeF gq k4 n8 y16 x38 k39 x40 w41 n46 r49 r94 iv_ko_1 iv_ko_2 iv_ko_3 hTM hgq j5 j6 jSk hm10 jQ jM c15 e17 t18 t19 t22 t23 t28 t29 j42 j43 j44 jPl jRn jG jN jW jE hm48 p50 t55 p95 t100 c103)⟩, by rw [ht9]; exact hP, va_K.moved hW9.alike hK, hD⟩, hS.F ht9⟩) hS.2.2 dX12_go_393
                        · refine lv_aload_n hx hb dX12_go_355 rfl (lv_at hl 2 rfl) ?_
                          refine va_get (D := (dC, dI)) (ci := 12) (v := .int (nI k39)) (C := RX12) (T := TX12) (N := 52) hx hb hts hin12 hown hK hP 0 rfl rfl 5 (by decide) (hts (.fieldLink RX12 21 "PorridgeSeaModel" "to" "I") (List.mem_of_getElem? (i := 1) rfl)) (fun _ h9 => h9) rfl dX12_go_356 ?_
                          refine lv_aload_n hx hb dX12_go_359 rfl (lv_at hl 2 rfl) ?_
                          refine va_get (D := (dC, dI)) (ci := 12) (v := .int (nI k4)) (C := RX12) (T := TX12) (N := 52) hx hb hts hin12 hown hK hP 0 rfl rfl 6 (by decide) (hts (.fieldLink RX12 24 "PorridgeSeaModel" "from" "I") (List.mem_of_getElem? (i := 4) rfl)) (fun _ h9 => h9) rfl dX12_go_360 ?_
                          refine lv_isub hx hb dX12_go_363 ?_
                          refine r_ti (nI (k39 - k4)) (pk_sub (lf_g_go_28 bt ksize klimit kto ktapeF gq k4 n8 y16 x38 k39 x40 w41 n46 r49 r94 iv_ko_1 iv_ko_2 iv_ko_3 hTM hgq j5 j6 jSk hm10 jQ jM c15 e17 t18 t19 t22 t23 t28 t29 j42 j43 j44 jPl jRn jG jN jW jE hm48 p50 t55 p95 t100 c103)) ?_
                          refine lv_iload_n hx hb dX12_go_364 rfl (lv_at hl 1 rfl) ?_
                          refine lv_if_eq (tgt := 373) hx hb dX12_go_365 (by decide) (fun c104 => absurd c104 (by decide)) (fun c104 => ?_)
                          refine lv_bipush (v := nI 7) hx hb dX12_go_368 (by decide) ?_
                          refine lv_goto (tgt := 374) hx hb dX12_go_370 (by decide) ?_
                          refine n_icmp_le (x := (k39 - k4)) (y := 7) (tgt := 381) hx hb (by omega) (by omega) dX12_go_374 (by decide) (fun c105 => ?_) (fun c105 => ?_)
                          · refine lv_iload_n hx hb dX12_go_381 rfl (lv_at hl 1 rfl) ?_
                            refine lv_if_eq (tgt := 389) hx hb dX12_go_382 (by decide) (fun c106 => absurd c106 (by decide)) (fun c106 => ?_)
                            refine lv_iconst (v := nI 2) hx hb dX12_go_385 (by decide) ?_
                            refine lv_goto (tgt := 390) hx hb dX12_go_386 (by decide) ?_
                            refine va_put (D := (dC, dI)) (ci := 12) (v := .int (nI 2)) (ty := .int) (C := RX12) (T := TX12) (N := 52) hx hb hts hin12 tyX12 tyX12_ok nmX12 hown hK hP hD hS 0 rfl rfl 7 (by decide) (hts (.fieldLink RX12 30 "PorridgeSeaModel" "kind" "I") (List.mem_of_getElem? (i := 6) rfl)) (fun _ h9 => h9) rfl (by decide +kernel) rfl rfl (Nat.le_of_ble_eq_true rfl) dX12_go_390 (fun H locs hP hD hS => ?_)
                            have hP : va_P (dC, dI) vwCl [(o, .inr (12, [.int kthrown, .ref ktape, .int (nI ktaped), .int (nI ksize), .int (nI klimit), .int (nI k39), .int (nI k4), .int (nI 2), .int x40, .int ksign, .int kfault, .int kplace, .long w41, .int ktold, .ref know, .ref kread, .ref kkept, .ref ksnaps, .ref kaside, .ref kname, .ref kreadName, .ref kkeptName, .ref kisKept, .ref konces, .int (nI ksnapMany), .int khasCells, .ref kpoured, .ref kfar, .ref ksides, .int (nI ksideMany), .int kwayDays, .int khasWay, .ref klines, .ref kmet, .int (nI kmetMany), .ref ksunk, .ref ktrying, .int (nI ksunkMany), .int ksending, .int kfleets, .ref ktext, .int (nI ktexts), .int kseed, .ref kline, .ref kwritten, .int (nI klineMany), .int khasWritten, .ref knode, .int (nI knodes), .int (nI konesMany), .int (nI kwithin), .int (nI ktop)])), (ktape, .inl (ky 0, 940, .inl ktapeF))] H := hP
                            have hD : va_D A [(o, .inr (12, [.int kthrown, .ref ktape, .int (nI ktaped), .int (nI ksize), .int (nI klimit), .int (nI k39), .int (nI k4), .int (nI 2), .int x40, .int ksign, .int kfault, .int kplace, .long w41, .int ktold, .ref know, .ref kread, .ref kkept, .ref ksnaps, .ref kaside, .ref kname, .ref kreadName, .ref kkeptName, .ref kisKept, .ref konces, .int (nI ksnapMany), .int khasCells, .ref kpoured, .ref kfar, .ref ksides, .int (nI ksideMany), .int kwayDays, .int khasWay, .ref klines, .ref kmet, .int (nI kmetMany), .ref ksunk, .ref ktrying, .int (nI ksunkMany), .int ksending, .int kfleets, .ref ktext, .int (nI ktexts), .int kseed, .ref kline, .ref kwritten, .int (nI klineMany), .int khasWritten, .ref knode, .int (nI knodes), .int (nI konesMany), .int (nI kwithin), .int (nI ktop)])), (ktape, .inl (ky 0, 940, .inl ktapeF))] := hD
                            rw [hQ]
                            exact W.vret hx hb hr (fun t9 ht9 hW9 => ⟨⟨(k39, k4, nI 2, x40, ksign, w41), rfl, ⟨j44, j5, (lf_g_go_29 bt ksize klimit kto ksign ktapeF gq k4 n8 y16 x38 k39 x40 w41 n46 r49 r94 iv_ko_1 iv_ko_2 iv_ko_3 hTM hgq j5 j6 jSk hm10 jQ jM c15 e17 t18 t19 t22 t23 t28 t29 j42 j43 j44 jPl jRn jG jN jW jE hm48 p50 t55 p95 t100 c103 c105)⟩, by rw [ht9]; exact hP, va_K.moved hW9.alike hK, hD⟩, hS.F ht9⟩) hS.2.2 dX12_go_393
                          · refine lv_iconst (v := nI 1) hx hb dX12_go_377 (by decide) ?_
                            refine lv_goto (tgt := 390) hx hb dX12_go_378 (by decide) ?_
                            refine va_put (D := (dC, dI)) (ci := 12) (v := .int (nI 1)) (ty := .int) (C := RX12) (T := TX12) (N := 52) hx hb hts hin12 tyX12 tyX12_ok nmX12 hown hK hP hD hS 0 rfl rfl 7 (by decide) (hts (.fieldLink RX12 30 "PorridgeSeaModel" "kind" "I") (List.mem_of_getElem? (i := 6) rfl)) (fun _ h9 => h9) rfl (by decide +kernel) rfl rfl (Nat.le_of_ble_eq_true rfl) dX12_go_390 (fun H locs hP hD hS => ?_)
                            have hP : va_P (dC, dI) vwCl [(o, .inr (12, [.int kthrown, .ref ktape, .int (nI ktaped), .int (nI ksize), .int (nI klimit), .int (nI k39), .int (nI k4), .int (nI 1), .int x40, .int ksign, .int kfault, .int kplace, .long w41, .int ktold, .ref know, .ref kread, .ref kkept, .ref ksnaps, .ref kaside, .ref kname, .ref kreadName, .ref kkeptName, .ref kisKept, .ref konces, .int (nI ksnapMany), .int khasCells, .ref kpoured, .ref kfar, .ref ksides, .int (nI ksideMany), .int kwayDays, .int khasWay, .ref klines, .ref kmet, .int (nI kmetMany), .ref ksunk, .ref ktrying, .int (nI ksunkMany), .int ksending, .int kfleets, .ref ktext, .int (nI ktexts), .int kseed, .ref kline, .ref kwritten, .int (nI klineMany), .int khasWritten, .ref knode, .int (nI knodes), .int (nI konesMany), .int (nI kwithin), .int (nI ktop)])), (ktape, .inl (ky 0, 940, .inl ktapeF))] H := hP
                            have hD : va_D A [(o, .inr (12, [.int kthrown, .ref ktape, .int (nI ktaped), .int (nI ksize), .int (nI klimit), .int (nI k39), .int (nI k4), .int (nI 1), .int x40, .int ksign, .int kfault, .int kplace, .long w41, .int ktold, .ref know, .ref kread, .ref kkept, .ref ksnaps, .ref kaside, .ref kname, .ref kreadName, .ref kkeptName, .ref kisKept, .ref konces, .int (nI ksnapMany), .int khasCells, .ref kpoured, .ref kfar, .ref ksides, .int (nI ksideMany), .int kwayDays, .int khasWay, .ref klines, .ref kmet, .int (nI kmetMany), .ref ksunk, .ref ktrying, .int (nI ksunkMany), .int ksending, .int kfleets, .ref ktext, .int (nI ktexts), .int kseed, .ref kline, .ref kwritten, .int (nI klineMany), .int khasWritten, .ref knode, .int (nI knodes), .int (nI konesMany), .int (nI kwithin), .int (nI ktop)])), (ktape, .inl (ky 0, 940, .inl ktapeF))] := hD
                            rw [hQ]
                            exact W.vret hx hb hr (fun t9 ht9 hW9 => ⟨⟨(k39, k4, nI 1, x40, ksign, w41), rfl, ⟨j44, j5, (lf_g_go_30 bt ksize klimit kto ksign ktapeF gq k4 n8 y16 x38 k39 x40 w41 n46 r49 r94 iv_ko_1 iv_ko_2 iv_ko_3 hTM hgq j5 j6 jSk hm10 jQ jM c15 e17 t18 t19 t22 t23 t28 t29 j42 j43 j44 jPl jRn jG jN jW jE hm48 p50 t55 p95 t100 c103 c105)⟩, by rw [ht9]; exact hP, va_K.moved hW9.alike hK, hD⟩, hS.F ht9⟩) hS.2.2 dX12_go_393
                exact hL45 ((940 - k4) + 1) (nI 1) k4 (nI 0) 0 (lf_g_go_31) j5 j6 (lf_g_go_32 bt ksize klimit kto ktapeF gq k4 n8 y16 iv_ko_1 iv_ko_2 iv_ko_3 hTM hgq j5 j6 jSk hm10 jQ jM c15 e17 t18 t19 t22 t23 t28 t29) (lf_g_go_33 bt ksize klimit kto ktapeF gq k4 n8 y16 iv_ko_1 iv_ko_2 iv_ko_3 hTM hgq j5 j6 jSk hm10 jQ jM c15 e17 t18 t19 t22 t23 t28 t29) (lf_g_go_34 bt ksize klimit kto ktapeF gq k4 n8 y16 iv_ko_1 iv_ko_2 iv_ko_3 hTM hgq j5 j6 jSk hm10 jQ jM c15 e17 t18 t19 t22 t23 t28 t29) (lf_g_go_35 bt ksize klimit kto ktapeF gq k4 n8 y16 iv_ko_1 iv_ko_2 iv_ko_3 hTM hgq j5 j6 jSk hm10 jQ jM c15 e17 t18 t19 t22 t23 t28 t29) (lf_g_go_36 bt ksize klimit kto ktapeF gq k4 n8 y16 iv_ko_1 iv_ko_2 iv_ko_3 hTM hgq j5 j6 jSk hm10 jQ jM c15 e17 t18 t19 t22 t23 t28 t29) (lf_g_go_37 bt ksize klimit kto ktapeF gq k4 n8 y16 iv_ko_1 iv_ko_2 iv_ko_3 hTM hgq j5 j6 jSk hm10 jQ jM c15 e17 t18 t19 t22 t23 t28 t29) (Nat.lt_succ_self _) _ _ _ hP hD hS (lv_sub hl [0, 1, 3] rfl)
              · exact absurd ⟨t22, t23⟩ t30
            · refine lv_if_ne (tgt := 198) hx hb dX12_go_127 (by decide) (fun c107 => absurd c107 (by decide)) (fun c107 => ?_)
              refine lv_iload_n hx hb dX12_go_130 rfl (lv_at hl 0 rfl) ?_
              refine vp_callSi (W.runS (As := [.int y16]) (rest := []) ⟨hx, hb, hml, hown, hts⟩ (c_g_isDigit l dC dI ky y16) (va_cwS 1 hts gX12_go_X12_isDigit rfl rfl rfl (by decide +kernel) ⟨(Nat.le_of_ble_eq_true rfl), (Nat.le_of_ble_eq_true rfl)⟩) (pre_PS hK hP [] rfl) rfl rfl hl.1 rfl (lv_room (Nat.le_of_ble_eq_true rfl)) dX12_go_131 ⟨(Nat.le_of_ble_eq_true rfl), (Nat.le_of_ble_eq_true rfl)⟩) (fun r108 p109 => ?_)
              rcases p109 with ⟨rfl, t110, t111⟩ | ⟨rfl, t112⟩
              · refine lv_if_ne (tgt := 198) hx hb dX12_go_134 (by decide) (fun c113 => ?_) (fun c113 => absurd c113 (by decide))
                refine lv_iload_n hx hb dX12_go_198 rfl (lv_at hl 0 rfl) ?_
                refine vp_callSi (W.runS (As := [.int y16]) (rest := []) ⟨hx, hb, hml, hown, hts⟩ (c_g_isLetter l dC dI ky y16) (va_cwS 1 hts gX12_go_X12_isLetter rfl rfl rfl (by decide +kernel) ⟨(Nat.le_of_ble_eq_true rfl), (Nat.le_of_ble_eq_true rfl)⟩) (pre_PS hK hP [] rfl) rfl rfl hl.1 rfl (lv_room (Nat.le_of_ble_eq_true rfl)) dX12_go_199 ⟨(Nat.le_of_ble_eq_true rfl), (Nat.le_of_ble_eq_true rfl)⟩) (fun r114 p115 => ?_)
                rcases p115 with ⟨rfl, t116, t117⟩ | ⟨rfl, t118⟩
                · exact absurd ⟨t116, t117⟩ t24
                · refine lv_istore_n (lv' := [(2, .int (nI 0)), (1, .int y16), (0, .ref o)]) hx hb dX12_go_202 rfl hl (by decide) rfl (fun ls hl => ?_)
                  refine lv_iconst (v := nI 1) hx hb dX12_go_203 (by decide) ?_
                  refine lv_istore_n (lv' := [(3, .int (nI 1)), (2, .int (nI 0)), (1, .int y16), (0, .ref o)]) hx hb dX12_go_204 rfl hl (by decide) rfl (fun ls hl => ?_)
                  refine lv_aload_n hx hb dX12_go_205 rfl (lv_at hl 3 rfl) ?_
                  refine lv_lconst (v := 0) hx hb dX12_go_206 (by decide) ?_
                  refine va_put (D := (dC, dI)) (ci := 12) (v := .long 0) (ty := .long) (C := RX12) (T := TX12) (N := 52) hx hb hts hin12 tyX12 tyX12_ok nmX12 hown hK hP hD hS 0 rfl rfl 12 (by decide) (hts (.fieldLink RX12 43 "PorridgeSeaModel" "word" "J") (List.mem_of_getElem? (i := 8) rfl)) (fun _ h9 => h9) rfl (by decide +kernel) rfl rfl (Nat.le_of_ble_eq_true rfl) dX12_go_207 (fun H locs hP hD hS => ?_)
                  have hP : va_P (dC, dI) vwCl [(o, .inr (12, [.int kthrown, .ref ktape, .int (nI ktaped), .int (nI ksize), .int (nI klimit), .int (nI k4), .int (nI k4), .int kkind, .int knumber, .int ksign, .int kfault, .int kplace, .long 0, .int ktold, .ref know, .ref kread, .ref kkept, .ref ksnaps, .ref kaside, .ref kname, .ref kreadName, .ref kkeptName, .ref kisKept, .ref konces, .int (nI ksnapMany), .int khasCells, .ref kpoured, .ref kfar, .ref ksides, .int (nI ksideMany), .int kwayDays, .int khasWay, .ref klines, .ref kmet, .int (nI kmetMany), .ref ksunk, .ref ktrying, .int (nI ksunkMany), .int ksending, .int kfleets, .ref ktext, .int (nI ktexts), .int kseed, .ref kline, .ref kwritten, .int (nI klineMany), .int khasWritten, .ref knode, .int (nI knodes), .int (nI konesMany), .int (nI kwithin), .int (nI ktop)])), (ktape, .inl (ky 0, 940, .inl ktapeF))] H := hP
                  have hD : va_D A [(o, .inr (12, [.int kthrown, .ref ktape, .int (nI ktaped), .int (nI ksize), .int (nI klimit), .int (nI k4), .int (nI k4), .int kkind, .int knumber, .int ksign, .int kfault, .int kplace, .long 0, .int ktold, .ref know, .ref kread, .ref kkept, .ref ksnaps, .ref kaside, .ref kname, .ref kreadName, .ref kkeptName, .ref kisKept, .ref konces, .int (nI ksnapMany), .int khasCells, .ref kpoured, .ref kfar, .ref ksides, .int (nI ksideMany), .int kwayDays, .int khasWay, .ref klines, .ref kmet, .int (nI kmetMany), .ref ksunk, .ref ktrying, .int (nI ksunkMany), .int ksending, .int kfleets, .ref ktext, .int (nI ktexts), .int kseed, .ref kline, .ref kwritten, .int (nI klineMany), .int khasWritten, .ref knode, .int (nI knodes), .int (nI konesMany), .int (nI kwithin), .int (nI ktop)])), (ktape, .inl (ky 0, 940, .inl ktapeF))] := hD
                  refine lv_aload_n hx hb dX12_go_210 rfl (lv_at hl 3 rfl) ?_
                  refine lv_iconst (v := nI 0) hx hb dX12_go_211 (by decide) ?_
                  refine va_put (D := (dC, dI)) (ci := 12) (v := .int (nI 0)) (ty := .int) (C := RX12) (T := TX12) (N := 52) hx hb hts hin12 tyX12 tyX12_ok nmX12 hown hK hP hD hS 0 rfl rfl 8 (by decide) (hts (.fieldLink RX12 47 "PorridgeSeaModel" "number" "I") (List.mem_of_getElem? (i := 9) rfl)) (fun _ h9 => h9) rfl (by decide +kernel) rfl rfl (Nat.le_of_ble_eq_true rfl) dX12_go_212 (fun H locs hP hD hS => ?_)
                  have hP : va_P (dC, dI) vwCl [(o, .inr (12, [.int kthrown, .ref ktape, .int (nI ktaped), .int (nI ksize), .int (nI klimit), .int (nI k4), .int (nI k4), .int kkind, .int (nI 0), .int ksign, .int kfault, .int kplace, .long 0, .int ktold, .ref know, .ref kread, .ref kkept, .ref ksnaps, .ref kaside, .ref kname, .ref kreadName, .ref kkeptName, .ref kisKept, .ref konces, .int (nI ksnapMany), .int khasCells, .ref kpoured, .ref kfar, .ref ksides, .int (nI ksideMany), .int kwayDays, .int khasWay, .ref klines, .ref kmet, .int (nI kmetMany), .ref ksunk, .ref ktrying, .int (nI ksunkMany), .int ksending, .int kfleets, .ref ktext, .int (nI ktexts), .int kseed, .ref kline, .ref kwritten, .int (nI klineMany), .int khasWritten, .ref knode, .int (nI knodes), .int (nI konesMany), .int (nI kwithin), .int (nI ktop)])), (ktape, .inl (ky 0, 940, .inl ktapeF))] H := hP
                  have hD : va_D A [(o, .inr (12, [.int kthrown, .ref ktape, .int (nI ktaped), .int (nI ksize), .int (nI klimit), .int (nI k4), .int (nI k4), .int kkind, .int (nI 0), .int ksign, .int kfault, .int kplace, .long 0, .int ktold, .ref know, .ref kread, .ref kkept, .ref ksnaps, .ref kaside, .ref kname, .ref kreadName, .ref kkeptName, .ref kisKept, .ref konces, .int (nI ksnapMany), .int khasCells, .ref kpoured, .ref kfar, .ref ksides, .int (nI ksideMany), .int kwayDays, .int khasWay, .ref klines, .ref kmet, .int (nI kmetMany), .ref ksunk, .ref ktrying, .int (nI ksunkMany), .int ksending, .int kfleets, .ref ktext, .int (nI ktexts), .int kseed, .ref kline, .ref kwritten, .int (nI klineMany), .int khasWritten, .ref knode, .int (nI knodes), .int (nI konesMany), .int (nI kwithin), .int (nI ktop)])), (ktape, .inl (ky 0, 940, .inl ktapeF))] := hD
                  have hL133 : ∀ (n134 : Nat) (x126 : Int32) (k127 : Nat) (x128 : Int32) (w129 : Int64), (x126 = nI 0 ∨ x126 = nI 1) → (k127 ≤ 940) → (k127 ≤ ksize) → (k4 ≤ k127) → (rn bt ksize k4 = rn bt ksize k127) → ((x126 = nI 1 ∧ dcn bt k4 (k127 - k4) = (k127 - k4)) ∨ (x126 = nI 0 ∧ dcn bt k4 (k127 - k4) ≠ (k127 - k4))) → (¬ (dcn bt k4 (k127 - k4) = (k127 - k4) ∧ (k127 - k4) ≤ 3) ∨ x128 = nI (nvn bt k4 (k127 - k4))) → (¬ (dcn bt k4 (k127 - k4) = 0 ∧ (k127 - k4) ≤ 7) ∨ w129 = Int64.ofNat (c27 bt k4 (k127 - k4))) → (dcn bt k4 (k127 - k4) ≠ 0 ∨ LET bt k4 (k127 - k4)) → 940 - k127 < n134 → ∀ (H : Heap) (locs : List Loc) (ls : Array Slot), va_P (dC, dI) vwCl [(o, .inr (12, [.int kthrown, .ref ktape, .int (nI ktaped), .int (nI ksize), .int (nI klimit), .int (nI k127), .int (nI k4), .int kkind, .int x128, .int ksign, .int kfault, .int kplace, .long w129, .int ktold, .ref know, .ref kread, .ref kkept, .ref ksnaps, .ref kaside, .ref kname, .ref kreadName, .ref kkeptName, .ref kisKept, .ref konces, .int (nI ksnapMany), .int khasCells, .ref kpoured, .ref kfar, .ref ksides, .int (nI ksideMany), .int kwayDays, .int khasWay, .ref klines, .ref kmet, .int (nI kmetMany), .ref ksunk, .ref ktrying, .int (nI ksunkMany), .int ksending, .int kfleets, .ref ktext, .int (nI ktexts), .int kseed, .ref kline, .ref kwritten, .int (nI klineMany), .int khasWritten, .ref knode, .int (nI knodes), .int (nI konesMany), .int (nI kwithin), .int (nI ktop)])), (ktape, .inl (ky 0, 940, .inl ktapeF))] H → va_D A [(o, .inr (12, [.int kthrown, .ref ktape, .int (nI ktaped), .int (nI ksize), .int (nI klimit), .int (nI k127), .int (nI k4), .int kkind, .int x128, .int ksign, .int kfault, .int kplace, .long w129, .int ktold, .ref know, .ref kread, .ref kkept, .ref ksnaps, .ref kaside, .ref kname, .ref kreadName, .ref kkeptName, .ref kisKept, .ref konces, .int (nI ksnapMany), .int khasCells, .ref kpoured, .ref kfar, .ref ksides, .int (nI ksideMany), .int kwayDays, .int khasWay, .ref klines, .ref kmet, .int (nI kmetMany), .ref ksunk, .ref ktrying, .int (nI ksunkMany), .int ksending, .int kfleets, .ref ktext, .int (nI ktexts), .int kseed, .ref kline, .ref kwritten, .int (nI klineMany), .int khasWritten, .ref knode, .int (nI knodes), .int (nI konesMany), .int (nI kwithin), .int (nI ktop)])), (ktape, .inl (ky 0, 940, .inl ktapeF))] → va_S A s.heap H locs → lv_has ls 5 [(3, .int x126), (2, .int (nI 0)), (0, .ref o)] → W p l e (headSpec wsX12_go ({ frames := 1, cells := 0, slots := 0, locals := 21 })).room s m args below meth c H locs 0 0 Q (F0 m 215 ls []) := by
                    intro n134
                    induction n134 with
                    | zero => intro x126 k127 x128 w129 _ _ _ _ _ _ _ _ _ h9; exact absurd h9 (Nat.not_lt_zero _)
                    | succ n134 ih135 =>
                      intro x126 k127 x128 w129 j130 j131 j132 jPl jRn jG jN jW jE hm136 H locs ls hP hD hS hl
                      refine lv_aload_n hx hb dX12_go_215 rfl (lv_at hl 2 rfl) ?_
                      refine lv_aload_n hx hb dX12_go_216 rfl (lv_at hl 2 rfl) ?_
                      refine va_get (D := (dC, dI)) (ci := 12) (v := .int (nI k127)) (C := RX12) (T := TX12) (N := 52) hx hb hts hin12 hown hK hP 0 rfl rfl 5 (by decide) (hts (.fieldLink RX12 21 "PorridgeSeaModel" "to" "I") (List.mem_of_getElem? (i := 1) rfl)) (fun _ h9 => h9) rfl dX12_go_217 ?_
                      refine vp_callSi (W.runV (As := [.int (nI k127)]) (rest := []) ⟨hx, hb, hml, hown, hts⟩ (c_g_tapeAt l dC dI ky bt o kthrown ktape ktaped ksize klimit k127 k4 kkind x128 ksign kfault kplace w129 ktold know kread kkept ksnaps kaside kname kreadName kkeptName kisKept konces ksnapMany khasCells kpoured kfar ksides ksideMany kwayDays khasWay klines kmet kmetMany ksunk ktrying ksunkMany ksending kfleets ktext ktexts kseed kline kwritten klineMany khasWritten knode knodes konesMany kwithin ktop ktapeF k127 iv_ko_0 iv_ko_1 iv_ko_2 j132 j5 iv_ko_5 iv_ko_6 iv_ko_7 iv_ko_8 iv_ko_9 iv_ko_10 iv_ko_11 iv_ko_12 iv_ko_13 iv_ko_14 hTM j131) (cwV 1 hts gX12_go_X12_tapeAt rfl rfl rfl (by decide +kernel) ⟨(Nat.le_of_ble_eq_true rfl), (Nat.le_of_ble_eq_true rfl)⟩) (pre_PV hK hP [0, 1] rfl (ci := 12) (q0 := 0) rfl rfl) rfl rfl hl.1 rfl (lv_room (Nat.le_of_ble_eq_true rfl)) dX12_go_220 ⟨(Nat.le_of_ble_eq_true rfl), (Nat.le_of_ble_eq_true rfl)⟩) (fun r137 p138 => ?_)
                      refine vp_callSi (W.runS (As := [.int r137]) (rest := []) ⟨hx, hb, hml, hown, hts⟩ (c_g_isLetter l dC dI ky r137) (va_cwS 1 hts gX12_go_X12_isLetter rfl rfl rfl (by decide +kernel) ⟨(Nat.le_of_ble_eq_true rfl), (Nat.le_of_ble_eq_true rfl)⟩) (pre_PS hK hP [] rfl) rfl rfl hl.1 rfl (lv_room (Nat.le_of_ble_eq_true rfl)) dX12_go_223 ⟨(Nat.le_of_ble_eq_true rfl), (Nat.le_of_ble_eq_true rfl)⟩) (fun r139 p140 => ?_)
                      have hJ144 : (k127 < ksize) → (cAl (bt k127)) → ∀ (H : Heap) (locs : List Loc) (ls : Array Slot), va_P (dC, dI) vwCl [(o, .inr (12, [.int kthrown, .ref ktape, .int (nI ktaped), .int (nI ksize), .int (nI klimit), .int (nI k127), .int (nI k4), .int kkind, .int x128, .int ksign, .int kfault, .int kplace, .long w129, .int ktold, .ref know, .ref kread, .ref kkept, .ref ksnaps, .ref kaside, .ref kname, .ref kreadName, .ref kkeptName, .ref kisKept, .ref konces, .int (nI ksnapMany), .int khasCells, .ref kpoured, .ref kfar, .ref ksides, .int (nI ksideMany), .int kwayDays, .int khasWay, .ref klines, .ref kmet, .int (nI kmetMany), .ref ksunk, .ref ktrying, .int (nI ksunkMany), .int ksending, .int kfleets, .ref ktext, .int (nI ktexts), .int kseed, .ref kline, .ref kwritten, .int (nI klineMany), .int khasWritten, .ref knode, .int (nI knodes), .int (nI konesMany), .int (nI kwithin), .int (nI ktop)])), (ktape, .inl (ky 0, 940, .inl ktapeF))] H → va_D A [(o, .inr (12, [.int kthrown, .ref ktape, .int (nI ktaped), .int (nI ksize), .int (nI klimit), .int (nI k127), .int (nI k4), .int kkind, .int x128, .int ksign, .int kfault, .int kplace, .long w129, .int ktold, .ref know, .ref kread, .ref kkept, .ref ksnaps, .ref kaside, .ref kname, .ref kreadName, .ref kkeptName, .ref kisKept, .ref konces, .int (nI ksnapMany), .int khasCells, .ref kpoured, .ref kfar, .ref ksides, .int (nI ksideMany), .int kwayDays, .int khasWay, .ref klines, .ref kmet, .int (nI kmetMany), .ref ksunk, .ref ktrying, .int (nI ksunkMany), .int ksending, .int kfleets, .ref ktext, .int (nI ktexts), .int kseed, .ref kline, .ref kwritten, .int (nI klineMany), .int khasWritten, .ref knode, .int (nI knodes), .int (nI konesMany), .int (nI kwithin), .int (nI ktop)])), (ktape, .inl (ky 0, 940, .inl ktapeF))] → va_S A s.heap H locs → lv_has ls 5 [(3, .int x126), (2, .int (nI 0)), (0, .ref o)] → W p l e (headSpec wsX12_go ({ frames := 1, cells := 0, slots := 0, locals := 21 })).room s m args below meth c H locs 0 0 Q (F0 m 243 ls []) := by
                        intro jKs jAl H locs ls hP hD hS hl
                        refine lv_aload_n hx hb dX12_go_243 rfl (lv_at hl 2 rfl) ?_
                        refine va_get (D := (dC, dI)) (ci := 12) (v := .ref ktape) (C := RX12) (T := TX12) (N := 52) hx hb hts hin12 hown hK hP 0 rfl rfl 1 (by decide) (hts (.fieldLink RX12 7 "PorridgeSeaModel" "tape" "[I") (List.mem_of_getElem? (i := 3) rfl)) (fun _ h9 => h9) rfl dX12_go_244 ?_
                        refine lv_aload_n hx hb dX12_go_247 rfl (lv_at hl 2 rfl) ?_
                        refine va_get (D := (dC, dI)) (ci := 12) (v := .int (nI k127)) (C := RX12) (T := TX12) (N := 52) hx hb hts hin12 hown hK hP 0 rfl rfl 5 (by decide) (hts (.fieldLink RX12 21 "PorridgeSeaModel" "to" "I") (List.mem_of_getElem? (i := 1) rfl)) (fun _ h9 => h9) rfl dX12_go_248 ?_
                        obtain ⟨y145, e146⟩ : ∃ z9, z9 = ktapeF k127 := ⟨_, rfl⟩
                        refine r_iald hx hb hK hP 1 rfl k127 (lf_g_go_38 bt ksize klimit kto ktapeF gq k4 n8 y16 x126 k127 x128 w129 n134 r137 y145 iv_ko_1 iv_ko_2 iv_ko_3 hTM hgq j5 j6 jSk hm10 jQ jM c15 e17 t18 t19 t24 t110 t111 t118 j130 j131 j132 jPl jRn jG jN jW jE hm136 p138 jKs jAl e146) (by decide) y145 e146.symm dX12_go_251 ?_
                        obtain ⟨t147, t148⟩ : bt k127 < 256 ∧ (y145 = nI (bt k127)) := by rw [e146]; exact hTM k127 (lf_g_go_39 bt ksize klimit kto ktapeF gq k4 n8 y16 x126 k127 x128 w129 n134 r137 y145 iv_ko_1 iv_ko_2 iv_ko_3 hTM hgq j5 j6 jSk hm10 jQ jM c15 e17 t18 t19 t24 t110 t111 t118 j130 j131 j132 jPl jRn jG jN jW jE hm136 p138 jKs jAl e146)
                        refine lv_istore (lv' := [(4, .int y145), (3, .int x126), (2, .int (nI 0)), (0, .ref o)]) hx hb dX12_go_252 hl (by decide) rfl (fun ls hl => ?_)
                        refine lv_iload_n hx hb dX12_go_254 rfl (lv_at hl 1 rfl) ?_
                        have hJ152 : ∀ (x150 : Int32), (x150 = nI 0 ∨ x150 = nI 1) → ((x150 = nI 1 ∧ dcn bt k4 ((k127 + 1) - k4) = ((k127 + 1) - k4)) ∨ (x150 = nI 0 ∧ dcn bt k4 ((k127 + 1) - k4) ≠ ((k127 + 1) - k4))) → ∀ (H : Heap) (locs : List Loc) (ls : Array Slot), va_P (dC, dI) vwCl [(o, .inr (12, [.int kthrown, .ref ktape, .int (nI ktaped), .int (nI ksize), .int (nI klimit), .int (nI k127), .int (nI k4), .int kkind, .int x128, .int ksign, .int kfault, .int kplace, .long w129, .int ktold, .ref know, .ref kread, .ref kkept, .ref ksnaps, .ref kaside, .ref kname, .ref kreadName, .ref kkeptName, .ref kisKept, .ref konces, .int (nI ksnapMany), .int khasCells, .ref kpoured, .ref kfar, .ref ksides, .int (nI ksideMany), .int kwayDays, .int khasWay, .ref klines, .ref kmet, .int (nI kmetMany), .ref ksunk, .ref ktrying, .int (nI ksunkMany), .int ksending, .int kfleets, .ref ktext, .int (nI ktexts), .int kseed, .ref kline, .ref kwritten, .int (nI klineMany), .int khasWritten, .ref knode, .int (nI knodes), .int (nI konesMany), .int (nI kwithin), .int (nI ktop)])), (ktape, .inl (ky 0, 940, .inl ktapeF))] H → va_D A [(o, .inr (12, [.int kthrown, .ref ktape, .int (nI ktaped), .int (nI ksize), .int (nI klimit), .int (nI k127), .int (nI k4), .int kkind, .int x128, .int ksign, .int kfault, .int kplace, .long w129, .int ktold, .ref know, .ref kread, .ref kkept, .ref ksnaps, .ref kaside, .ref kname, .ref kreadName, .ref kkeptName, .ref kisKept, .ref konces, .int (nI ksnapMany), .int khasCells, .ref kpoured, .ref kfar, .ref ksides, .int (nI ksideMany), .int kwayDays, .int khasWay, .ref klines, .ref kmet, .int (nI kmetMany), .ref ksunk, .ref ktrying, .int (nI ksunkMany), .int ksending, .int kfleets, .ref ktext, .int (nI ktexts), .int kseed, .ref kline, .ref kwritten, .int (nI klineMany), .int khasWritten, .ref knode, .int (nI knodes), .int (nI konesMany), .int (nI kwithin), .int (nI ktop)])), (ktape, .inl (ky 0, 940, .inl ktapeF))] → va_S A s.heap H locs → lv_has ls 5 [(4, .int y145), (2, .int (nI 0)), (0, .ref o)] → W p l e (headSpec wsX12_go ({ frames := 1, cells := 0, slots := 0, locals := 21 })).room s m args below meth c H locs 0 0 Q (F0 m 272 ls [.int x150]) := by
                          intro x150 j151 jG1 H locs ls hP hD hS hl
                          refine lv_istore_n (lv' := [(3, .int x150), (4, .int y145), (2, .int (nI 0)), (0, .ref o)]) hx hb dX12_go_272 rfl hl (by decide) rfl (fun ls hl => ?_)
                          refine lv_aload_n hx hb dX12_go_273 rfl (lv_at hl 3 rfl) ?_
                          refine va_get (D := (dC, dI)) (ci := 12) (v := .int (nI k127)) (C := RX12) (T := TX12) (N := 52) hx hb hts hin12 hown hK hP 0 rfl rfl 5 (by decide) (hts (.fieldLink RX12 21 "PorridgeSeaModel" "to" "I") (List.mem_of_getElem? (i := 1) rfl)) (fun _ h9 => h9) rfl dX12_go_274 ?_
                          refine lv_aload_n hx hb dX12_go_277 rfl (lv_at hl 3 rfl) ?_
                          refine va_get (D := (dC, dI)) (ci := 12) (v := .int (nI k4)) (C := RX12) (T := TX12) (N := 52) hx hb hts hin12 hown hK hP 0 rfl rfl 6 (by decide) (hts (.fieldLink RX12 24 "PorridgeSeaModel" "from" "I") (List.mem_of_getElem? (i := 4) rfl)) (fun _ h9 => h9) rfl dX12_go_278 ?_
                          refine lv_isub hx hb dX12_go_281 ?_
                          refine r_ti (nI (k127 - k4)) (pk_sub (lf_g_go_40 bt ksize klimit kto ktapeF gq k4 n8 y16 x126 k127 x128 w129 n134 r137 y145 x150 iv_ko_1 iv_ko_2 iv_ko_3 hTM hgq j5 j6 jSk hm10 jQ jM c15 e17 t18 t19 t24 t110 t111 t118 j130 j131 j132 jPl jRn jG jN jW jE hm136 p138 jKs jAl e146 t147 t148 j151 jG1)) ?_
                          refine lv_bipush (v := nI 7) hx hb dX12_go_282 (by decide) ?_
                          have hJ155 : ∀ (w154 : Int64), (¬ (dcn bt k4 ((k127 + 1) - k4) = 0 ∧ ((k127 + 1) - k4) ≤ 7) ∨ w154 = Int64.ofNat (c27 bt k4 ((k127 + 1) - k4))) → ∀ (H : Heap) (locs : List Loc) (ls : Array Slot), va_P (dC, dI) vwCl [(o, .inr (12, [.int kthrown, .ref ktape, .int (nI ktaped), .int (nI ksize), .int (nI klimit), .int (nI k127), .int (nI k4), .int kkind, .int x128, .int ksign, .int kfault, .int kplace, .long w154, .int ktold, .ref know, .ref kread, .ref kkept, .ref ksnaps, .ref kaside, .ref kname, .ref kreadName, .ref kkeptName, .ref kisKept, .ref konces, .int (nI ksnapMany), .int khasCells, .ref kpoured, .ref kfar, .ref ksides, .int (nI ksideMany), .int kwayDays, .int khasWay, .ref klines, .ref kmet, .int (nI kmetMany), .ref ksunk, .ref ktrying, .int (nI ksunkMany), .int ksending, .int kfleets, .ref ktext, .int (nI ktexts), .int kseed, .ref kline, .ref kwritten, .int (nI klineMany), .int khasWritten, .ref knode, .int (nI knodes), .int (nI konesMany), .int (nI kwithin), .int (nI ktop)])), (ktape, .inl (ky 0, 940, .inl ktapeF))] H → va_D A [(o, .inr (12, [.int kthrown, .ref ktape, .int (nI ktaped), .int (nI ksize), .int (nI klimit), .int (nI k127), .int (nI k4), .int kkind, .int x128, .int ksign, .int kfault, .int kplace, .long w154, .int ktold, .ref know, .ref kread, .ref kkept, .ref ksnaps, .ref kaside, .ref kname, .ref kreadName, .ref kkeptName, .ref kisKept, .ref konces, .int (nI ksnapMany), .int khasCells, .ref kpoured, .ref kfar, .ref ksides, .int (nI ksideMany), .int kwayDays, .int khasWay, .ref klines, .ref kmet, .int (nI kmetMany), .ref ksunk, .ref ktrying, .int (nI ksunkMany), .int ksending, .int kfleets, .ref ktext, .int (nI ktexts), .int kseed, .ref kline, .ref kwritten, .int (nI klineMany), .int khasWritten, .ref knode, .int (nI knodes), .int (nI konesMany), .int (nI kwithin), .int (nI ktop)])), (ktape, .inl (ky 0, 940, .inl ktapeF))] → va_S A s.heap H locs → lv_has ls 5 [(3, .int x150), (4, .int y145), (2, .int (nI 0)), (0, .ref o)] → W p l e (headSpec wsX12_go ({ frames := 1, cells := 0, slots := 0, locals := 21 })).room s m args below meth c H locs 0 0 Q (F0 m 307 ls []) := by
                            intro w154 jW1 H locs ls hP hD hS hl
                            refine lv_aload_n hx hb dX12_go_307 rfl (lv_at hl 3 rfl) ?_
                            refine va_get (D := (dC, dI)) (ci := 12) (v := .int (nI k127)) (C := RX12) (T := TX12) (N := 52) hx hb hts hin12 hown hK hP 0 rfl rfl 5 (by decide) (hts (.fieldLink RX12 21 "PorridgeSeaModel" "to" "I") (List.mem_of_getElem? (i := 1) rfl)) (fun _ h9 => h9) rfl dX12_go_308 ?_
                            refine lv_aload_n hx hb dX12_go_311 rfl (lv_at hl 3 rfl) ?_
                            refine va_get (D := (dC, dI)) (ci := 12) (v := .int (nI k4)) (C := RX12) (T := TX12) (N := 52) hx hb hts hin12 hown hK hP 0 rfl rfl 6 (by decide) (hts (.fieldLink RX12 24 "PorridgeSeaModel" "from" "I") (List.mem_of_getElem? (i := 4) rfl)) (fun _ h9 => h9) rfl dX12_go_312 ?_
                            refine lv_isub hx hb dX12_go_315 ?_
                            refine r_ti (nI (k127 - k4)) (pk_sub (lf_g_go_41 bt ksize klimit kto ktapeF gq k4 n8 y16 x126 k127 x128 w129 n134 r137 y145 x150 w154 iv_ko_1 iv_ko_2 iv_ko_3 hTM hgq j5 j6 jSk hm10 jQ jM c15 e17 t18 t19 t24 t110 t111 t118 j130 j131 j132 jPl jRn jG jN jW jE hm136 p138 jKs jAl e146 t147 t148 j151 jG1 jW1)) ?_
                            refine lv_iconst (v := nI 3) hx hb dX12_go_316 (by decide) ?_
                            have hJ158 : ∀ (x157 : Int32), (¬ (dcn bt k4 ((k127 + 1) - k4) = ((k127 + 1) - k4) ∧ ((k127 + 1) - k4) ≤ 3) ∨ x157 = nI (nvn bt k4 ((k127 + 1) - k4))) → ∀ (H : Heap) (locs : List Loc) (ls : Array Slot), va_P (dC, dI) vwCl [(o, .inr (12, [.int kthrown, .ref ktape, .int (nI ktaped), .int (nI ksize), .int (nI klimit), .int (nI k127), .int (nI k4), .int kkind, .int x157, .int ksign, .int kfault, .int kplace, .long w154, .int ktold, .ref know, .ref kread, .ref kkept, .ref ksnaps, .ref kaside, .ref kname, .ref kreadName, .ref kkeptName, .ref kisKept, .ref konces, .int (nI ksnapMany), .int khasCells, .ref kpoured, .ref kfar, .ref ksides, .int (nI ksideMany), .int kwayDays, .int khasWay, .ref klines, .ref kmet, .int (nI kmetMany), .ref ksunk, .ref ktrying, .int (nI ksunkMany), .int ksending, .int kfleets, .ref ktext, .int (nI ktexts), .int kseed, .ref kline, .ref kwritten, .int (nI klineMany), .int khasWritten, .ref knode, .int (nI knodes), .int (nI konesMany), .int (nI kwithin), .int (nI ktop)])), (ktape, .inl (ky 0, 940, .inl ktapeF))] H → va_D A [(o, .inr (12, [.int kthrown, .ref ktape, .int (nI ktaped), .int (nI ksize), .int (nI klimit), .int (nI k127), .int (nI k4), .int kkind, .int x157, .int ksign, .int kfault, .int kplace, .long w154, .int ktold, .ref know, .ref kread, .ref kkept, .ref ksnaps, .ref kaside, .ref kname, .ref kreadName, .ref kkeptName, .ref kisKept, .ref konces, .int (nI ksnapMany), .int khasCells, .ref kpoured, .ref kfar, .ref ksides, .int (nI ksideMany), .int kwayDays, .int khasWay, .ref klines, .ref kmet, .int (nI kmetMany), .ref ksunk, .ref ktrying, .int (nI ksunkMany), .int ksending, .int kfleets, .ref ktext, .int (nI ktexts), .int kseed, .ref kline, .ref kwritten, .int (nI klineMany), .int khasWritten, .ref knode, .int (nI knodes), .int (nI konesMany), .int (nI kwithin), .int (nI ktop)])), (ktape, .inl (ky 0, 940, .inl ktapeF))] → va_S A s.heap H locs → lv_has ls 5 [(3, .int x150), (2, .int (nI 0)), (0, .ref o)] → W p l e (headSpec wsX12_go ({ frames := 1, cells := 0, slots := 0, locals := 21 })).room s m args below meth c H locs 0 0 Q (F0 m 337 ls []) := by
                              intro x157 jN1 H locs ls hP hD hS hl
                              refine lv_aload_n hx hb dX12_go_337 rfl (lv_at hl 2 rfl) ?_
                              refine lv_dup hx hb dX12_go_338 rfl ?_
                              refine va_get (D := (dC, dI)) (ci := 12) (v := .int (nI k127)) (C := RX12) (T := TX12) (N := 52) hx hb hts hin12 hown hK hP 0 rfl rfl 5 (by decide) (hts (.fieldLink RX12 21 "PorridgeSeaModel" "to" "I") (List.mem_of_getElem? (i := 1) rfl)) (fun _ h9 => h9) rfl dX12_go_339 ?_
                              refine lv_iconst (v := nI 1) hx hb dX12_go_342 (by decide) ?_
                              refine lv_iadd hx hb dX12_go_343 ?_
                              refine r_ti (nI (k127 + 1)) (nI_add _ _) ?_
                              refine va_put (D := (dC, dI)) (ci := 12) (v := .int (nI (k127 + 1))) (ty := .int) (C := RX12) (T := TX12) (N := 52) hx hb hts hin12 tyX12 tyX12_ok nmX12 hown hK hP hD hS 0 rfl rfl 5 (by decide) (hts (.fieldLink RX12 21 "PorridgeSeaModel" "to" "I") (List.mem_of_getElem? (i := 1) rfl)) (fun _ h9 => h9) rfl (by decide +kernel) rfl rfl (Nat.le_of_ble_eq_true rfl) dX12_go_344 (fun H locs hP hD hS => ?_)
                              have hP : va_P (dC, dI) vwCl [(o, .inr (12, [.int kthrown, .ref ktape, .int (nI ktaped), .int (nI ksize), .int (nI klimit), .int (nI (k127 + 1)), .int (nI k4), .int kkind, .int x157, .int ksign, .int kfault, .int kplace, .long w154, .int ktold, .ref know, .ref kread, .ref kkept, .ref ksnaps, .ref kaside, .ref kname, .ref kreadName, .ref kkeptName, .ref kisKept, .ref konces, .int (nI ksnapMany), .int khasCells, .ref kpoured, .ref kfar, .ref ksides, .int (nI ksideMany), .int kwayDays, .int khasWay, .ref klines, .ref kmet, .int (nI kmetMany), .ref ksunk, .ref ktrying, .int (nI ksunkMany), .int ksending, .int kfleets, .ref ktext, .int (nI ktexts), .int kseed, .ref kline, .ref kwritten, .int (nI klineMany), .int khasWritten, .ref knode, .int (nI knodes), .int (nI konesMany), .int (nI kwithin), .int (nI ktop)])), (ktape, .inl (ky 0, 940, .inl ktapeF))] H := hP
                              have hD : va_D A [(o, .inr (12, [.int kthrown, .ref ktape, .int (nI ktaped), .int (nI ksize), .int (nI klimit), .int (nI (k127 + 1)), .int (nI k4), .int kkind, .int x157, .int ksign, .int kfault, .int kplace, .long w154, .int ktold, .ref know, .ref kread, .ref kkept, .ref ksnaps, .ref kaside, .ref kname, .ref kreadName, .ref kkeptName, .ref kisKept, .ref konces, .int (nI ksnapMany), .int khasCells, .ref kpoured, .ref kfar, .ref ksides, .int (nI ksideMany), .int kwayDays, .int khasWay, .ref klines, .ref kmet, .int (nI kmetMany), .ref ksunk, .ref ktrying, .int (nI ksunkMany), .int ksending, .int kfleets, .ref ktext, .int (nI ktexts), .int kseed, .ref kline, .ref kwritten, .int (nI klineMany), .int khasWritten, .ref knode, .int (nI knodes), .int (nI konesMany), .int (nI kwithin), .int (nI ktop)])), (ktape, .inl (ky 0, 940, .inl ktapeF))] := hD
                              refine lv_goto (tgt := 215) hx hb dX12_go_347 (by decide) ?_
                              exact ih135 x150 (k127 + 1) x157 w154 j151 (lf_g_go_42 bt ksize klimit kto ktapeF gq k4 n8 y16 x126 k127 x128 w129 n134 r137 y145 x150 w154 x157 iv_ko_1 iv_ko_2 iv_ko_3 hTM hgq j5 j6 jSk hm10 jQ jM c15 e17 t18 t19 t24 t110 t111 t118 j130 j131 j132 jPl jRn jG jN jW jE hm136 p138 jKs jAl e146 t147 t148 j151 jG1 jW1 jN1) (lf_g_go_43 bt ksize klimit kto ktapeF gq k4 n8 y16 x126 k127 x128 w129 n134 r137 y145 x150 w154 x157 iv_ko_1 iv_ko_2 iv_ko_3 hTM hgq j5 j6 jSk hm10 jQ jM c15 e17 t18 t19 t24 t110 t111 t118 j130 j131 j132 jPl jRn jG jN jW jE hm136 p138 jKs jAl e146 t147 t148 j151 jG1 jW1 jN1) (lf_g_go_44 bt ksize klimit kto ktapeF gq k4 n8 y16 x126 k127 x128 w129 n134 r137 y145 x150 w154 x157 iv_ko_1 iv_ko_2 iv_ko_3 hTM hgq j5 j6 jSk hm10 jQ jM c15 e17 t18 t19 t24 t110 t111 t118 j130 j131 j132 jPl jRn jG jN jW jE hm136 p138 jKs jAl e146 t147 t148 j151 jG1 jW1 jN1) (lf_g_go_45 bt ksize klimit kto ktapeF gq k4 n8 y16 x126 k127 x128 w129 n134 r137 y145 x150 w154 x157 iv_ko_1 iv_ko_2 iv_ko_3 hTM hgq j5 j6 jSk hm10 jQ jM c15 e17 t18 t19 t24 t110 t111 t118 j130 j131 j132 jPl jRn jG jN jW jE hm136 p138 jKs jAl e146 t147 t148 j151 jG1 jW1 jN1) jG1 jN1 jW1 (lf_g_go_46 bt ksize klimit kto ktapeF gq k4 n8 y16 x126 k127 x128 w129 n134 r137 y145 x150 w154 x157 iv_ko_1 iv_ko_2 iv_ko_3 hTM hgq j5 j6 jSk hm10 jQ jM c15 e17 t18 t19 t24 t110 t111 t118 j130 j131 j132 jPl jRn jG jN jW jE hm136 p138 jKs jAl e146 t147 t148 j151 jG1 jW1 jN1) (lf_g_go_47 bt ksize klimit kto ktapeF gq k4 n8 y16 x126 k127 x128 w129 n134 r137 y145 x150 w154 x157 iv_ko_1 iv_ko_2 iv_ko_3 hTM hgq j5 j6 jSk hm10 jQ jM c15 e17 t18 t19 t24 t110 t111 t118 j130 j131 j132 jPl jRn jG jN jW jE hm136 p138 jKs jAl e146 t147 t148 j151 jG1 jW1 jN1) _ _ _ hP hD hS (lv_sub hl [0, 1, 2] rfl)
                            refine n_icmp_ge (x := (k127 - k4)) (y := 3) (tgt := 337) hx hb (by omega) (by omega) dX12_go_317 (by decide) (fun c156 => ?_) (fun c156 => ?_)
                            · exact hJ158 x128 (lf_g_go_48 bt ksize klimit kto ktapeF gq k4 n8 y16 x126 k127 x128 w129 n134 r137 y145 x150 w154 iv_ko_1 iv_ko_2 iv_ko_3 hTM hgq j5 j6 jSk hm10 jQ jM c15 e17 t18 t19 t24 t110 t111 t118 j130 j131 j132 jPl jRn jG jN jW jE hm136 p138 jKs jAl e146 t147 t148 j151 jG1 jW1 c156) _ _ _ hP hD hS (lv_sub hl [0, 2, 3] rfl)
                            · refine lv_aload_n hx hb dX12_go_320 rfl (lv_at hl 3 rfl) ?_
                              refine lv_bipush (v := nI 10) hx hb dX12_go_321 (by decide) ?_
                              refine lv_aload_n hx hb dX12_go_323 rfl (lv_at hl 3 rfl) ?_
                              refine va_get (D := (dC, dI)) (ci := 12) (v := .int x128) (C := RX12) (T := TX12) (N := 52) hx hb hts hin12 hown hK hP 0 rfl rfl 8 (by decide) (hts (.fieldLink RX12 47 "PorridgeSeaModel" "number" "I") (List.mem_of_getElem? (i := 9) rfl)) (fun _ h9 => h9) rfl dX12_go_324 ?_
                              refine lv_imul hx hb dX12_go_327 ?_
                              refine lv_topi (fun y159 e160 => ?_)
                              refine lv_iload hx hb dX12_go_328 (lv_at hl 1 rfl) ?_
                              refine lv_iadd hx hb dX12_go_330 ?_
                              refine lv_topi (fun y161 e162 => ?_)
                              refine lv_bipush (v := nI 48) hx hb dX12_go_331 (by decide) ?_
                              refine lv_isub hx hb dX12_go_333 ?_
                              refine lv_topi (fun y163 e164 => ?_)
                              refine va_put (D := (dC, dI)) (ci := 12) (v := .int y163) (ty := .int) (C := RX12) (T := TX12) (N := 52) hx hb hts hin12 tyX12 tyX12_ok nmX12 hown hK hP hD hS 0 rfl rfl 8 (by decide) (hts (.fieldLink RX12 47 "PorridgeSeaModel" "number" "I") (List.mem_of_getElem? (i := 9) rfl)) (fun _ h9 => h9) rfl (by decide +kernel) rfl rfl (Nat.le_of_ble_eq_true rfl) dX12_go_334 (fun H locs hP hD hS => ?_)
                              have hP : va_P (dC, dI) vwCl [(o, .inr (12, [.int kthrown, .ref ktape, .int (nI ktaped), .int (nI ksize), .int (nI klimit), .int (nI k127), .int (nI k4), .int kkind, .int y163, .int ksign, .int kfault, .int kplace, .long w154, .int ktold, .ref know, .ref kread, .ref kkept, .ref ksnaps, .ref kaside, .ref kname, .ref kreadName, .ref kkeptName, .ref kisKept, .ref konces, .int (nI ksnapMany), .int khasCells, .ref kpoured, .ref kfar, .ref ksides, .int (nI ksideMany), .int kwayDays, .int khasWay, .ref klines, .ref kmet, .int (nI kmetMany), .ref ksunk, .ref ktrying, .int (nI ksunkMany), .int ksending, .int kfleets, .ref ktext, .int (nI ktexts), .int kseed, .ref kline, .ref kwritten, .int (nI klineMany), .int khasWritten, .ref knode, .int (nI knodes), .int (nI konesMany), .int (nI kwithin), .int (nI ktop)])), (ktape, .inl (ky 0, 940, .inl ktapeF))] H := hP
                              have hD : va_D A [(o, .inr (12, [.int kthrown, .ref ktape, .int (nI ktaped), .int (nI ksize), .int (nI klimit), .int (nI k127), .int (nI k4), .int kkind, .int y163, .int ksign, .int kfault, .int kplace, .long w154, .int ktold, .ref know, .ref kread, .ref kkept, .ref ksnaps, .ref kaside, .ref kname, .ref kreadName, .ref kkeptName, .ref kisKept, .ref konces, .int (nI ksnapMany), .int khasCells, .ref kpoured, .ref kfar, .ref ksides, .int (nI ksideMany), .int kwayDays, .int khasWay, .ref klines, .ref kmet, .int (nI kmetMany), .ref ksunk, .ref ktrying, .int (nI ksunkMany), .int ksending, .int kfleets, .ref ktext, .int (nI ktexts), .int kseed, .ref kline, .ref kwritten, .int (nI klineMany), .int khasWritten, .ref knode, .int (nI knodes), .int (nI konesMany), .int (nI kwithin), .int (nI ktop)])), (ktape, .inl (ky 0, 940, .inl ktapeF))] := hD
                              exact hJ158 y163 (lf_g_go_49 bt ksize klimit kto ktapeF gq k4 n8 y16 x126 k127 x128 w129 n134 r137 y145 x150 w154 y159 y161 y163 iv_ko_1 iv_ko_2 iv_ko_3 hTM hgq j5 j6 jSk hm10 jQ jM c15 e17 t18 t19 t24 t110 t111 t118 j130 j131 j132 jPl jRn jG jN jW jE hm136 p138 jKs jAl e146 t147 t148 j151 jG1 jW1 c156 e160 e162 e164) _ _ _ hP hD hS (lv_sub hl [0, 2, 3] rfl)
                          refine n_icmp_ge (x := (k127 - k4)) (y := 7) (tgt := 307) hx hb (by omega) (by omega) dX12_go_284 (by decide) (fun c153 => ?_) (fun c153 => ?_)
                          · exact hJ155 w129 (lf_g_go_50 bt ksize klimit kto ktapeF gq k4 n8 y16 x126 k127 x128 w129 n134 r137 y145 x150 iv_ko_1 iv_ko_2 iv_ko_3 hTM hgq j5 j6 jSk hm10 jQ jM c15 e17 t18 t19 t24 t110 t111 t118 j130 j131 j132 jPl jRn jG jN jW jE hm136 p138 jKs jAl e146 t147 t148 j151 jG1 c153) _ _ _ hP hD hS (lv_sub hl [0, 1, 2, 3] rfl)
                          · refine lv_aload_n hx hb dX12_go_287 rfl (lv_at hl 3 rfl) ?_
                            refine lv_ldc2 (v := 27) hx hb hown (hts _ (List.mem_of_getElem? (i := 10) rfl)) dX12_go_288 ?_
                            refine lv_aload_n hx hb dX12_go_291 rfl (lv_at hl 3 rfl) ?_
                            refine va_get (D := (dC, dI)) (ci := 12) (v := .long w129) (C := RX12) (T := TX12) (N := 52) hx hb hts hin12 hown hK hP 0 rfl rfl 12 (by decide) (hts (.fieldLink RX12 43 "PorridgeSeaModel" "word" "J") (List.mem_of_getElem? (i := 8) rfl)) (fun _ h9 => h9) rfl dX12_go_292 ?_
                            refine lv_lmul hx hb dX12_go_295 ?_
                            refine lv_topl (fun w165 e166 => ?_)
                            refine lv_iload hx hb dX12_go_296 (lv_at hl 1 rfl) ?_
                            obtain ⟨w167, e168⟩ : ∃ z9 : Int64, z9 = (y145).toInt64 := ⟨_, rfl⟩
                            refine lv_i2l (v := w167) hx hb dX12_go_298 e168.symm ?_
                            refine lv_ladd hx hb dX12_go_299 ?_
                            refine lv_topl (fun w169 e170 => ?_)
                            refine lv_ldc2 (v := 96) hx hb hown (hts _ (List.mem_of_getElem? (i := 11) rfl)) dX12_go_300 ?_
                            refine lv_lsub hx hb dX12_go_303 ?_
                            refine lv_topl (fun w171 e172 => ?_)
                            refine va_put (D := (dC, dI)) (ci := 12) (v := .long w171) (ty := .long) (C := RX12) (T := TX12) (N := 52) hx hb hts hin12 tyX12 tyX12_ok nmX12 hown hK hP hD hS 0 rfl rfl 12 (by decide) (hts (.fieldLink RX12 43 "PorridgeSeaModel" "word" "J") (List.mem_of_getElem? (i := 8) rfl)) (fun _ h9 => h9) rfl (by decide +kernel) rfl rfl (Nat.le_of_ble_eq_true rfl) dX12_go_304 (fun H locs hP hD hS => ?_)
                            have hP : va_P (dC, dI) vwCl [(o, .inr (12, [.int kthrown, .ref ktape, .int (nI ktaped), .int (nI ksize), .int (nI klimit), .int (nI k127), .int (nI k4), .int kkind, .int x128, .int ksign, .int kfault, .int kplace, .long w171, .int ktold, .ref know, .ref kread, .ref kkept, .ref ksnaps, .ref kaside, .ref kname, .ref kreadName, .ref kkeptName, .ref kisKept, .ref konces, .int (nI ksnapMany), .int khasCells, .ref kpoured, .ref kfar, .ref ksides, .int (nI ksideMany), .int kwayDays, .int khasWay, .ref klines, .ref kmet, .int (nI kmetMany), .ref ksunk, .ref ktrying, .int (nI ksunkMany), .int ksending, .int kfleets, .ref ktext, .int (nI ktexts), .int kseed, .ref kline, .ref kwritten, .int (nI klineMany), .int khasWritten, .ref knode, .int (nI knodes), .int (nI konesMany), .int (nI kwithin), .int (nI ktop)])), (ktape, .inl (ky 0, 940, .inl ktapeF))] H := hP
                            have hD : va_D A [(o, .inr (12, [.int kthrown, .ref ktape, .int (nI ktaped), .int (nI ksize), .int (nI klimit), .int (nI k127), .int (nI k4), .int kkind, .int x128, .int ksign, .int kfault, .int kplace, .long w171, .int ktold, .ref know, .ref kread, .ref kkept, .ref ksnaps, .ref kaside, .ref kname, .ref kreadName, .ref kkeptName, .ref kisKept, .ref konces, .int (nI ksnapMany), .int khasCells, .ref kpoured, .ref kfar, .ref ksides, .int (nI ksideMany), .int kwayDays, .int khasWay, .ref klines, .ref kmet, .int (nI kmetMany), .ref ksunk, .ref ktrying, .int (nI ksunkMany), .int ksending, .int kfleets, .ref ktext, .int (nI ktexts), .int kseed, .ref kline, .ref kwritten, .int (nI klineMany), .int khasWritten, .ref knode, .int (nI knodes), .int (nI konesMany), .int (nI kwithin), .int (nI ktop)])), (ktape, .inl (ky 0, 940, .inl ktapeF))] := hD
                            exact hJ155 w171 (lf_g_go_51 bt ksize klimit kto ktapeF gq k4 n8 y16 x126 k127 x128 w129 n134 r137 y145 x150 w165 w167 w169 w171 iv_ko_1 iv_ko_2 iv_ko_3 hTM hgq j5 j6 jSk hm10 jQ jM c15 e17 t18 t19 t24 t110 t111 t118 j130 j131 j132 jPl jRn jG jN jW jE hm136 p138 jKs jAl e146 t147 t148 j151 jG1 c153 e166 e168 e170 e172) _ _ _ hP hD hS (lv_sub hl [0, 1, 2, 3] rfl)
                        refine lv_if_eq (tgt := 271) hx hb dX12_go_255 (by decide) (fun c149 => ?_) (fun c149 => ?_)
                        · refine lv_iconst (v := nI 0) hx hb dX12_go_271 (by decide) ?_
                          exact hJ152 (nI 0) (lf_g_go_52) (lf_g_go_53 bt ksize klimit kto ktapeF gq k4 n8 y16 x126 k127 x128 w129 n134 r137 y145 iv_ko_1 iv_ko_2 iv_ko_3 hTM hgq j5 j6 jSk hm10 jQ jM c15 e17 t18 t19 t24 t110 t111 t118 j130 j131 j132 jPl jRn jG jN jW jE hm136 p138 jKs jAl e146 t147 t148 c149) _ _ _ hP hD hS (lv_sub hl [0, 2, 3] rfl)
                        · refine lv_iload hx hb dX12_go_258 (lv_at hl 0 rfl) ?_
                          refine vp_callSi (W.runS (As := [.int y145]) (rest := []) ⟨hx, hb, hml, hown, hts⟩ (c_g_isLetter l dC dI ky y145) (va_cwS 1 hts gX12_go_X12_isLetter rfl rfl rfl (by decide +kernel) ⟨(Nat.le_of_ble_eq_true rfl), (Nat.le_of_ble_eq_true rfl)⟩) (pre_PS hK hP [] rfl) rfl rfl hl.1 rfl (lv_room (Nat.le_of_ble_eq_true rfl)) dX12_go_260 ⟨(Nat.le_of_ble_eq_true rfl), (Nat.le_of_ble_eq_true rfl)⟩) (fun r173 p174 => ?_)
                          rcases p174 with ⟨rfl, t175, t176⟩ | ⟨rfl, t177⟩
                          · refine lv_iload_n hx hb dX12_go_263 rfl (lv_at hl 2 rfl) ?_
                            refine lv_icmp_ne (tgt := 271) hx hb dX12_go_264 (by decide) (fun c178 => ?_) (fun c178 => absurd c178 (by decide))
                            refine lv_iconst (v := nI 0) hx hb dX12_go_271 (by decide) ?_
                            exact hJ152 (nI 0) (lf_g_go_54) (lf_g_go_55 bt ksize klimit kto ktapeF gq k4 n8 y16 x126 k127 x128 w129 n134 r137 y145 iv_ko_1 iv_ko_2 iv_ko_3 hTM hgq j5 j6 jSk hm10 jQ jM c15 e17 t18 t19 t24 t110 t111 t118 j130 j131 j132 jPl jRn jG jN jW jE hm136 p138 jKs jAl e146 t147 t148 c149 t175 t176) _ _ _ hP hD hS (lv_sub hl [0, 2, 3] rfl)
                          · refine lv_iload_n hx hb dX12_go_263 rfl (lv_at hl 2 rfl) ?_
                            refine lv_icmp_ne (tgt := 271) hx hb dX12_go_264 (by decide) (fun c179 => absurd c179 (by decide)) (fun c179 => ?_)
                            refine lv_iconst (v := nI 1) hx hb dX12_go_267 (by decide) ?_
                            refine lv_goto (tgt := 272) hx hb dX12_go_268 (by decide) ?_
                            exact hJ152 (nI 1) (lf_g_go_56) (lf_g_go_57 bt ksize klimit kto ktapeF gq k4 n8 y16 x126 k127 x128 w129 n134 r137 y145 iv_ko_1 iv_ko_2 iv_ko_3 hTM hgq j5 j6 jSk hm10 jQ jM c15 e17 t18 t19 t24 t110 t111 t118 j130 j131 j132 jPl jRn jG jN jW jE hm136 p138 jKs jAl e146 t147 t148 c149 t177) _ _ _ hP hD hS (lv_sub hl [0, 2, 3] rfl)
                      rcases p140 with ⟨rfl, t141, t142⟩ | ⟨rfl, t143⟩
                      · refine lv_if_ne (tgt := 243) hx hb dX12_go_226 (by decide) (fun c180 => ?_) (fun c180 => absurd c180 (by decide))
                        exact hJ144  (lf_g_go_58 bt ksize klimit kto ktapeF gq k4 n8 y16 x126 k127 x128 w129 n134 r137 iv_ko_1 iv_ko_2 iv_ko_3 hTM hgq j5 j6 jSk hm10 jQ jM c15 e17 t18 t19 t24 t110 t111 t118 j130 j131 j132 jPl jRn jG jN jW jE hm136 p138 t141 t142) (lf_g_go_59 bt ksize klimit kto ktapeF gq k4 n8 y16 x126 k127 x128 w129 n134 r137 iv_ko_1 iv_ko_2 iv_ko_3 hTM hgq j5 j6 jSk hm10 jQ jM c15 e17 t18 t19 t24 t110 t111 t118 j130 j131 j132 jPl jRn jG jN jW jE hm136 p138 t141 t142) _ _ _ hP hD hS (lv_sub hl [0, 1, 2] rfl)
                      · refine lv_if_ne (tgt := 243) hx hb dX12_go_226 (by decide) (fun c181 => absurd c181 (by decide)) (fun c181 => ?_)
                        refine lv_aload_n hx hb dX12_go_229 rfl (lv_at hl 2 rfl) ?_
                        refine lv_aload_n hx hb dX12_go_230 rfl (lv_at hl 2 rfl) ?_
                        refine va_get (D := (dC, dI)) (ci := 12) (v := .int (nI k127)) (C := RX12) (T := TX12) (N := 52) hx hb hts hin12 hown hK hP 0 rfl rfl 5 (by decide) (hts (.fieldLink RX12 21 "PorridgeSeaModel" "to" "I") (List.mem_of_getElem? (i := 1) rfl)) (fun _ h9 => h9) rfl dX12_go_231 ?_
                        refine vp_callSi (W.runV (As := [.int (nI k127)]) (rest := []) ⟨hx, hb, hml, hown, hts⟩ (c_g_tapeAt l dC dI ky bt o kthrown ktape ktaped ksize klimit k127 k4 kkind x128 ksign kfault kplace w129 ktold know kread kkept ksnaps kaside kname kreadName kkeptName kisKept konces ksnapMany khasCells kpoured kfar ksides ksideMany kwayDays khasWay klines kmet kmetMany ksunk ktrying ksunkMany ksending kfleets ktext ktexts kseed kline kwritten klineMany khasWritten knode knodes konesMany kwithin ktop ktapeF k127 iv_ko_0 iv_ko_1 iv_ko_2 j132 j5 iv_ko_5 iv_ko_6 iv_ko_7 iv_ko_8 iv_ko_9 iv_ko_10 iv_ko_11 iv_ko_12 iv_ko_13 iv_ko_14 hTM j131) (cwV 1 hts gX12_go_X12_tapeAt rfl rfl rfl (by decide +kernel) ⟨(Nat.le_of_ble_eq_true rfl), (Nat.le_of_ble_eq_true rfl)⟩) (pre_PV hK hP [0, 1] rfl (ci := 12) (q0 := 0) rfl rfl) rfl rfl hl.1 rfl (lv_room (Nat.le_of_ble_eq_true rfl)) dX12_go_234 ⟨(Nat.le_of_ble_eq_true rfl), (Nat.le_of_ble_eq_true rfl)⟩) (fun r182 p183 => ?_)
                        refine vp_callSi (W.runS (As := [.int r182]) (rest := []) ⟨hx, hb, hml, hown, hts⟩ (c_g_isDigit l dC dI ky r182) (va_cwS 1 hts gX12_go_X12_isDigit rfl rfl rfl (by decide +kernel) ⟨(Nat.le_of_ble_eq_true rfl), (Nat.le_of_ble_eq_true rfl)⟩) (pre_PS hK hP [] rfl) rfl rfl hl.1 rfl (lv_room (Nat.le_of_ble_eq_true rfl)) dX12_go_237 ⟨(Nat.le_of_ble_eq_true rfl), (Nat.le_of_ble_eq_true rfl)⟩) (fun r184 p185 => ?_)
                        rcases p185 with ⟨rfl, t186, t187⟩ | ⟨rfl, t188⟩
                        · refine lv_if_eq (tgt := 350) hx hb dX12_go_240 (by decide) (fun c189 => absurd c189 (by decide)) (fun c189 => ?_)
                          exact hJ144  (lf_g_go_60 bt ksize klimit kto ktapeF gq k4 n8 y16 x126 k127 x128 w129 n134 r137 r182 iv_ko_1 iv_ko_2 iv_ko_3 hTM hgq j5 j6 jSk hm10 jQ jM c15 e17 t18 t19 t24 t110 t111 t118 j130 j131 j132 jPl jRn jG jN jW jE hm136 p138 t143 p183 t186 t187) (lf_g_go_61 bt ksize klimit kto ktapeF gq k4 n8 y16 x126 k127 x128 w129 n134 r137 r182 iv_ko_1 iv_ko_2 iv_ko_3 hTM hgq j5 j6 jSk hm10 jQ jM c15 e17 t18 t19 t24 t110 t111 t118 j130 j131 j132 jPl jRn jG jN jW jE hm136 p138 t143 p183 t186 t187) _ _ _ hP hD hS (lv_sub hl [0, 1, 2] rfl)
                        · refine lv_if_eq (tgt := 350) hx hb dX12_go_240 (by decide) (fun c190 => ?_) (fun c190 => absurd (by decide) c190)
                          refine lv_aload_n hx hb dX12_go_350 rfl (lv_at hl 2 rfl) ?_
                          refine lv_iload_n hx hb dX12_go_351 rfl (lv_at hl 0 rfl) ?_
                          refine lv_if_eq (tgt := 377) hx hb dX12_go_352 (by decide) (fun c191 => ?_) (fun c191 => ?_)
                          · refine lv_iconst (v := nI 1) hx hb dX12_go_377 (by decide) ?_
                            refine lv_goto (tgt := 390) hx hb dX12_go_378 (by decide) ?_
                            refine va_put (D := (dC, dI)) (ci := 12) (v := .int (nI 1)) (ty := .int) (C := RX12) (T := TX12) (N := 52) hx hb hts hin12 tyX12 tyX12_ok nmX12 hown hK hP hD hS 0 rfl rfl 7 (by decide) (hts (.fieldLink RX12 30 "PorridgeSeaModel" "kind" "I") (List.mem_of_getElem? (i := 6) rfl)) (fun _ h9 => h9) rfl (by decide +kernel) rfl rfl (Nat.le_of_ble_eq_true rfl) dX12_go_390 (fun H locs hP hD hS => ?_)
                            have hP : va_P (dC, dI) vwCl [(o, .inr (12, [.int kthrown, .ref ktape, .int (nI ktaped), .int (nI ksize), .int (nI klimit), .int (nI k127), .int (nI k4), .int (nI 1), .int x128, .int ksign, .int kfault, .int kplace, .long w129, .int ktold, .ref know, .ref kread, .ref kkept, .ref ksnaps, .ref kaside, .ref kname, .ref kreadName, .ref kkeptName, .ref kisKept, .ref konces, .int (nI ksnapMany), .int khasCells, .ref kpoured, .ref kfar, .ref ksides, .int (nI ksideMany), .int kwayDays, .int khasWay, .ref klines, .ref kmet, .int (nI kmetMany), .ref ksunk, .ref ktrying, .int (nI ksunkMany), .int ksending, .int kfleets, .ref ktext, .int (nI ktexts), .int kseed, .ref kline, .ref kwritten, .int (nI klineMany), .int khasWritten, .ref knode, .int (nI knodes), .int (nI konesMany), .int (nI kwithin), .int (nI ktop)])), (ktape, .inl (ky 0, 940, .inl ktapeF))] H := hP
                            have hD : va_D A [(o, .inr (12, [.int kthrown, .ref ktape, .int (nI ktaped), .int (nI ksize), .int (nI klimit), .int (nI k127), .int (nI k4), .int (nI 1), .int x128, .int ksign, .int kfault, .int kplace, .long w129, .int ktold, .ref know, .ref kread, .ref kkept, .ref ksnaps, .ref kaside, .ref kname, .ref kreadName, .ref kkeptName, .ref kisKept, .ref konces, .int (nI ksnapMany), .int khasCells, .ref kpoured, .ref kfar, .ref ksides, .int (nI ksideMany), .int kwayDays, .int khasWay, .ref klines, .ref kmet, .int (nI kmetMany), .ref ksunk, .ref ktrying, .int (nI ksunkMany), .int ksending, .int kfleets, .ref ktext, .int (nI ktexts), .int kseed, .ref kline, .ref kwritten, .int (nI klineMany), .int khasWritten, .ref knode, .int (nI knodes), .int (nI konesMany), .int (nI kwithin), .int (nI ktop)])), (ktape, .inl (ky 0, 940, .inl ktapeF))] := hD
                            rw [hQ]
                            exact W.vret hx hb hr (fun t9 ht9 hW9 => ⟨⟨(k127, k4, nI 1, x128, ksign, w129), rfl, ⟨j132, j5, (lf_g_go_62 bt ksize klimit kto ksign ktapeF gq k4 n8 y16 x126 k127 x128 w129 n134 r137 r182 iv_ko_1 iv_ko_2 iv_ko_3 hTM hgq j5 j6 jSk hm10 jQ jM c15 e17 t18 t19 t24 t110 t111 t118 j130 j131 j132 jPl jRn jG jN jW jE hm136 p138 t143 p183 t188 c191)⟩, by rw [ht9]; exact hP, va_K.moved hW9.alike hK, hD⟩, hS.F ht9⟩) hS.2.2 dX12_go_393
                          · refine lv_aload_n hx hb dX12_go_355 rfl (lv_at hl 2 rfl) ?_
                            refine va_get (D := (dC, dI)) (ci := 12) (v := .int (nI k127)) (C := RX12) (T := TX12) (N := 52) hx hb hts hin12 hown hK hP 0 rfl rfl 5 (by decide) (hts (.fieldLink RX12 21 "PorridgeSeaModel" "to" "I") (List.mem_of_getElem? (i := 1) rfl)) (fun _ h9 => h9) rfl dX12_go_356 ?_
                            refine lv_aload_n hx hb dX12_go_359 rfl (lv_at hl 2 rfl) ?_
                            refine va_get (D := (dC, dI)) (ci := 12) (v := .int (nI k4)) (C := RX12) (T := TX12) (N := 52) hx hb hts hin12 hown hK hP 0 rfl rfl 6 (by decide) (hts (.fieldLink RX12 24 "PorridgeSeaModel" "from" "I") (List.mem_of_getElem? (i := 4) rfl)) (fun _ h9 => h9) rfl dX12_go_360 ?_
                            refine lv_isub hx hb dX12_go_363 ?_
                            refine r_ti (nI (k127 - k4)) (pk_sub (lf_g_go_63 bt ksize klimit kto ktapeF gq k4 n8 y16 x126 k127 x128 w129 n134 r137 r182 iv_ko_1 iv_ko_2 iv_ko_3 hTM hgq j5 j6 jSk hm10 jQ jM c15 e17 t18 t19 t24 t110 t111 t118 j130 j131 j132 jPl jRn jG jN jW jE hm136 p138 t143 p183 t188 c191)) ?_
                            refine lv_iload_n hx hb dX12_go_364 rfl (lv_at hl 1 rfl) ?_
                            refine lv_if_eq (tgt := 373) hx hb dX12_go_365 (by decide) (fun c192 => ?_) (fun c192 => absurd (by decide) c192)
                            refine lv_iconst (v := nI 3) hx hb dX12_go_373 (by decide) ?_
                            refine n_icmp_le (x := (k127 - k4)) (y := 3) (tgt := 381) hx hb (by omega) (by omega) dX12_go_374 (by decide) (fun c193 => ?_) (fun c193 => ?_)
                            · refine lv_iload_n hx hb dX12_go_381 rfl (lv_at hl 1 rfl) ?_
                              refine lv_if_eq (tgt := 389) hx hb dX12_go_382 (by decide) (fun c194 => ?_) (fun c194 => absurd (by decide) c194)
                              refine lv_iconst (v := nI 3) hx hb dX12_go_389 (by decide) ?_
                              refine va_put (D := (dC, dI)) (ci := 12) (v := .int (nI 3)) (ty := .int) (C := RX12) (T := TX12) (N := 52) hx hb hts hin12 tyX12 tyX12_ok nmX12 hown hK hP hD hS 0 rfl rfl 7 (by decide) (hts (.fieldLink RX12 30 "PorridgeSeaModel" "kind" "I") (List.mem_of_getElem? (i := 6) rfl)) (fun _ h9 => h9) rfl (by decide +kernel) rfl rfl (Nat.le_of_ble_eq_true rfl) dX12_go_390 (fun H locs hP hD hS => ?_)
                              have hP : va_P (dC, dI) vwCl [(o, .inr (12, [.int kthrown, .ref ktape, .int (nI ktaped), .int (nI ksize), .int (nI klimit), .int (nI k127), .int (nI k4), .int (nI 3), .int x128, .int ksign, .int kfault, .int kplace, .long w129, .int ktold, .ref know, .ref kread, .ref kkept, .ref ksnaps, .ref kaside, .ref kname, .ref kreadName, .ref kkeptName, .ref kisKept, .ref konces, .int (nI ksnapMany), .int khasCells, .ref kpoured, .ref kfar, .ref ksides, .int (nI ksideMany), .int kwayDays, .int khasWay, .ref klines, .ref kmet, .int (nI kmetMany), .ref ksunk, .ref ktrying, .int (nI ksunkMany), .int ksending, .int kfleets, .ref ktext, .int (nI ktexts), .int kseed, .ref kline, .ref kwritten, .int (nI klineMany), .int khasWritten, .ref knode, .int (nI knodes), .int (nI konesMany), .int (nI kwithin), .int (nI ktop)])), (ktape, .inl (ky 0, 940, .inl ktapeF))] H := hP
                              have hD : va_D A [(o, .inr (12, [.int kthrown, .ref ktape, .int (nI ktaped), .int (nI ksize), .int (nI klimit), .int (nI k127), .int (nI k4), .int (nI 3), .int x128, .int ksign, .int kfault, .int kplace, .long w129, .int ktold, .ref know, .ref kread, .ref kkept, .ref ksnaps, .ref kaside, .ref kname, .ref kreadName, .ref kkeptName, .ref kisKept, .ref konces, .int (nI ksnapMany), .int khasCells, .ref kpoured, .ref kfar, .ref ksides, .int (nI ksideMany), .int kwayDays, .int khasWay, .ref klines, .ref kmet, .int (nI kmetMany), .ref ksunk, .ref ktrying, .int (nI ksunkMany), .int ksending, .int kfleets, .ref ktext, .int (nI ktexts), .int kseed, .ref kline, .ref kwritten, .int (nI klineMany), .int khasWritten, .ref knode, .int (nI knodes), .int (nI konesMany), .int (nI kwithin), .int (nI ktop)])), (ktape, .inl (ky 0, 940, .inl ktapeF))] := hD
                              rw [hQ]
                              exact W.vret hx hb hr (fun t9 ht9 hW9 => ⟨⟨(k127, k4, nI 3, x128, ksign, w129), rfl, ⟨j132, j5, (lf_g_go_64 bt ksize klimit kto ksign ktapeF gq k4 n8 y16 x126 k127 x128 w129 n134 r137 r182 iv_ko_1 iv_ko_2 iv_ko_3 hTM hgq j5 j6 jSk hm10 jQ jM c15 e17 t18 t19 t24 t110 t111 t118 j130 j131 j132 jPl jRn jG jN jW jE hm136 p138 t143 p183 t188 c191 c193)⟩, by rw [ht9]; exact hP, va_K.moved hW9.alike hK, hD⟩, hS.F ht9⟩) hS.2.2 dX12_go_393
                            · refine lv_iconst (v := nI 1) hx hb dX12_go_377 (by decide) ?_
                              refine lv_goto (tgt := 390) hx hb dX12_go_378 (by decide) ?_
                              refine va_put (D := (dC, dI)) (ci := 12) (v := .int (nI 1)) (ty := .int) (C := RX12) (T := TX12) (N := 52) hx hb hts hin12 tyX12 tyX12_ok nmX12 hown hK hP hD hS 0 rfl rfl 7 (by decide) (hts (.fieldLink RX12 30 "PorridgeSeaModel" "kind" "I") (List.mem_of_getElem? (i := 6) rfl)) (fun _ h9 => h9) rfl (by decide +kernel) rfl rfl (Nat.le_of_ble_eq_true rfl) dX12_go_390 (fun H locs hP hD hS => ?_)
                              have hP : va_P (dC, dI) vwCl [(o, .inr (12, [.int kthrown, .ref ktape, .int (nI ktaped), .int (nI ksize), .int (nI klimit), .int (nI k127), .int (nI k4), .int (nI 1), .int x128, .int ksign, .int kfault, .int kplace, .long w129, .int ktold, .ref know, .ref kread, .ref kkept, .ref ksnaps, .ref kaside, .ref kname, .ref kreadName, .ref kkeptName, .ref kisKept, .ref konces, .int (nI ksnapMany), .int khasCells, .ref kpoured, .ref kfar, .ref ksides, .int (nI ksideMany), .int kwayDays, .int khasWay, .ref klines, .ref kmet, .int (nI kmetMany), .ref ksunk, .ref ktrying, .int (nI ksunkMany), .int ksending, .int kfleets, .ref ktext, .int (nI ktexts), .int kseed, .ref kline, .ref kwritten, .int (nI klineMany), .int khasWritten, .ref knode, .int (nI knodes), .int (nI konesMany), .int (nI kwithin), .int (nI ktop)])), (ktape, .inl (ky 0, 940, .inl ktapeF))] H := hP
                              have hD : va_D A [(o, .inr (12, [.int kthrown, .ref ktape, .int (nI ktaped), .int (nI ksize), .int (nI klimit), .int (nI k127), .int (nI k4), .int (nI 1), .int x128, .int ksign, .int kfault, .int kplace, .long w129, .int ktold, .ref know, .ref kread, .ref kkept, .ref ksnaps, .ref kaside, .ref kname, .ref kreadName, .ref kkeptName, .ref kisKept, .ref konces, .int (nI ksnapMany), .int khasCells, .ref kpoured, .ref kfar, .ref ksides, .int (nI ksideMany), .int kwayDays, .int khasWay, .ref klines, .ref kmet, .int (nI kmetMany), .ref ksunk, .ref ktrying, .int (nI ksunkMany), .int ksending, .int kfleets, .ref ktext, .int (nI ktexts), .int kseed, .ref kline, .ref kwritten, .int (nI klineMany), .int khasWritten, .ref knode, .int (nI knodes), .int (nI konesMany), .int (nI kwithin), .int (nI ktop)])), (ktape, .inl (ky 0, 940, .inl ktapeF))] := hD
                              rw [hQ]
                              exact W.vret hx hb hr (fun t9 ht9 hW9 => ⟨⟨(k127, k4, nI 1, x128, ksign, w129), rfl, ⟨j132, j5, (lf_g_go_65 bt ksize klimit kto ksign ktapeF gq k4 n8 y16 x126 k127 x128 w129 n134 r137 r182 iv_ko_1 iv_ko_2 iv_ko_3 hTM hgq j5 j6 jSk hm10 jQ jM c15 e17 t18 t19 t24 t110 t111 t118 j130 j131 j132 jPl jRn jG jN jW jE hm136 p138 t143 p183 t188 c191 c193)⟩, by rw [ht9]; exact hP, va_K.moved hW9.alike hK, hD⟩, hS.F ht9⟩) hS.2.2 dX12_go_393
                  exact hL133 ((940 - k4) + 1) (nI 1) k4 (nI 0) 0 (lf_g_go_66) j5 j6 (lf_g_go_67 bt ksize klimit kto ktapeF gq k4 n8 y16 iv_ko_1 iv_ko_2 iv_ko_3 hTM hgq j5 j6 jSk hm10 jQ jM c15 e17 t18 t19 t24 t110 t111 t118) (lf_g_go_68 bt ksize klimit kto ktapeF gq k4 n8 y16 iv_ko_1 iv_ko_2 iv_ko_3 hTM hgq j5 j6 jSk hm10 jQ jM c15 e17 t18 t19 t24 t110 t111 t118) (lf_g_go_69 bt ksize klimit kto ktapeF gq k4 n8 y16 iv_ko_1 iv_ko_2 iv_ko_3 hTM hgq j5 j6 jSk hm10 jQ jM c15 e17 t18 t19 t24 t110 t111 t118) (lf_g_go_70 bt ksize klimit kto ktapeF gq k4 n8 y16 iv_ko_1 iv_ko_2 iv_ko_3 hTM hgq j5 j6 jSk hm10 jQ jM c15 e17 t18 t19 t24 t110 t111 t118) (lf_g_go_71 bt ksize klimit kto ktapeF gq k4 n8 y16 iv_ko_1 iv_ko_2 iv_ko_3 hTM hgq j5 j6 jSk hm10 jQ jM c15 e17 t18 t19 t24 t110 t111 t118) (lf_g_go_72 bt ksize klimit kto ktapeF gq k4 n8 y16 iv_ko_1 iv_ko_2 iv_ko_3 hTM hgq j5 j6 jSk hm10 jQ jM c15 e17 t18 t19 t24 t110 t111 t118) (Nat.lt_succ_self _) _ _ _ hP hD hS (lv_sub hl [0, 1, 3] rfl)
              · refine lv_if_ne (tgt := 198) hx hb dX12_go_134 (by decide) (fun c195 => absurd c195 (by decide)) (fun c195 => ?_)
                refine lv_aload_n hx hb dX12_go_137 rfl (lv_at hl 1 rfl) ?_
                refine lv_iload_n hx hb dX12_go_138 rfl (lv_at hl 0 rfl) ?_
                refine lv_bipush (v := nI 59) hx hb dX12_go_139 (by decide) ?_
                refine lv_icmp_eq (tgt := 174) hx hb dX12_go_141 (by decide) (fun c196 => ?_) (fun c196 => ?_)
                · refine lv_iconst (v := nI 4) hx hb dX12_go_174 (by decide) ?_
                  refine lv_goto (tgt := 179) hx hb dX12_go_175 (by decide) ?_
                  refine va_put (D := (dC, dI)) (ci := 12) (v := .int (nI 4)) (ty := .int) (C := RX12) (T := TX12) (N := 52) hx hb hts hin12 tyX12 tyX12_ok nmX12 hown hK hP hD hS 0 rfl rfl 7 (by decide) (hts (.fieldLink RX12 30 "PorridgeSeaModel" "kind" "I") (List.mem_of_getElem? (i := 6) rfl)) (fun _ h9 => h9) rfl (by decide +kernel) rfl rfl (Nat.le_of_ble_eq_true rfl) dX12_go_179 (fun H locs hP hD hS => ?_)
                  have hP : va_P (dC, dI) vwCl [(o, .inr (12, [.int kthrown, .ref ktape, .int (nI ktaped), .int (nI ksize), .int (nI klimit), .int (nI k4), .int (nI k4), .int (nI 4), .int knumber, .int ksign, .int kfault, .int kplace, .long kword, .int ktold, .ref know, .ref kread, .ref kkept, .ref ksnaps, .ref kaside, .ref kname, .ref kreadName, .ref kkeptName, .ref kisKept, .ref konces, .int (nI ksnapMany), .int khasCells, .ref kpoured, .ref kfar, .ref ksides, .int (nI ksideMany), .int kwayDays, .int khasWay, .ref klines, .ref kmet, .int (nI kmetMany), .ref ksunk, .ref ktrying, .int (nI ksunkMany), .int ksending, .int kfleets, .ref ktext, .int (nI ktexts), .int kseed, .ref kline, .ref kwritten, .int (nI klineMany), .int khasWritten, .ref knode, .int (nI knodes), .int (nI konesMany), .int (nI kwithin), .int (nI ktop)])), (ktape, .inl (ky 0, 940, .inl ktapeF))] H := hP
                  have hD : va_D A [(o, .inr (12, [.int kthrown, .ref ktape, .int (nI ktaped), .int (nI ksize), .int (nI klimit), .int (nI k4), .int (nI k4), .int (nI 4), .int knumber, .int ksign, .int kfault, .int kplace, .long kword, .int ktold, .ref know, .ref kread, .ref kkept, .ref ksnaps, .ref kaside, .ref kname, .ref kreadName, .ref kkeptName, .ref kisKept, .ref konces, .int (nI ksnapMany), .int khasCells, .ref kpoured, .ref kfar, .ref ksides, .int (nI ksideMany), .int kwayDays, .int khasWay, .ref klines, .ref kmet, .int (nI kmetMany), .ref ksunk, .ref ktrying, .int (nI ksunkMany), .int ksending, .int kfleets, .ref ktext, .int (nI ktexts), .int kseed, .ref kline, .ref kwritten, .int (nI klineMany), .int khasWritten, .ref knode, .int (nI knodes), .int (nI konesMany), .int (nI kwithin), .int (nI ktop)])), (ktape, .inl (ky 0, 940, .inl ktapeF))] := hD
                  refine lv_aload_n hx hb dX12_go_182 rfl (lv_at hl 1 rfl) ?_
                  refine lv_iload_n hx hb dX12_go_183 rfl (lv_at hl 0 rfl) ?_
                  refine va_put (D := (dC, dI)) (ci := 12) (v := .int y16) (ty := .int) (C := RX12) (T := TX12) (N := 52) hx hb hts hin12 tyX12 tyX12_ok nmX12 hown hK hP hD hS 0 rfl rfl 9 (by decide) (hts (.fieldLink RX12 40 "PorridgeSeaModel" "sign" "I") (List.mem_of_getElem? (i := 7) rfl)) (fun _ h9 => h9) rfl (by decide +kernel) rfl rfl (Nat.le_of_ble_eq_true rfl) dX12_go_184 (fun H locs hP hD hS => ?_)
                  have hP : va_P (dC, dI) vwCl [(o, .inr (12, [.int kthrown, .ref ktape, .int (nI ktaped), .int (nI ksize), .int (nI klimit), .int (nI k4), .int (nI k4), .int (nI 4), .int knumber, .int y16, .int kfault, .int kplace, .long kword, .int ktold, .ref know, .ref kread, .ref kkept, .ref ksnaps, .ref kaside, .ref kname, .ref kreadName, .ref kkeptName, .ref kisKept, .ref konces, .int (nI ksnapMany), .int khasCells, .ref kpoured, .ref kfar, .ref ksides, .int (nI ksideMany), .int kwayDays, .int khasWay, .ref klines, .ref kmet, .int (nI kmetMany), .ref ksunk, .ref ktrying, .int (nI ksunkMany), .int ksending, .int kfleets, .ref ktext, .int (nI ktexts), .int kseed, .ref kline, .ref kwritten, .int (nI klineMany), .int khasWritten, .ref knode, .int (nI knodes), .int (nI konesMany), .int (nI kwithin), .int (nI ktop)])), (ktape, .inl (ky 0, 940, .inl ktapeF))] H := hP
                  have hD : va_D A [(o, .inr (12, [.int kthrown, .ref ktape, .int (nI ktaped), .int (nI ksize), .int (nI klimit), .int (nI k4), .int (nI k4), .int (nI 4), .int knumber, .int y16, .int kfault, .int kplace, .long kword, .int ktold, .ref know, .ref kread, .ref kkept, .ref ksnaps, .ref kaside, .ref kname, .ref kreadName, .ref kkeptName, .ref kisKept, .ref konces, .int (nI ksnapMany), .int khasCells, .ref kpoured, .ref kfar, .ref ksides, .int (nI ksideMany), .int kwayDays, .int khasWay, .ref klines, .ref kmet, .int (nI kmetMany), .ref ksunk, .ref ktrying, .int (nI ksunkMany), .int ksending, .int kfleets, .ref ktext, .int (nI ktexts), .int kseed, .ref kline, .ref kwritten, .int (nI klineMany), .int khasWritten, .ref knode, .int (nI knodes), .int (nI konesMany), .int (nI kwithin), .int (nI ktop)])), (ktape, .inl (ky 0, 940, .inl ktapeF))] := hD
                  refine lv_aload_n hx hb dX12_go_187 rfl (lv_at hl 1 rfl) ?_
                  refine lv_dup hx hb dX12_go_188 rfl ?_
                  refine va_get (D := (dC, dI)) (ci := 12) (v := .int (nI k4)) (C := RX12) (T := TX12) (N := 52) hx hb hts hin12 hown hK hP 0 rfl rfl 5 (by decide) (hts (.fieldLink RX12 21 "PorridgeSeaModel" "to" "I") (List.mem_of_getElem? (i := 1) rfl)) (fun _ h9 => h9) rfl dX12_go_189 ?_
                  refine lv_iconst (v := nI 1) hx hb dX12_go_192 (by decide) ?_
                  refine lv_iadd hx hb dX12_go_193 ?_
                  refine r_ti (nI (k4 + 1)) (nI_add _ _) ?_
                  refine va_put (D := (dC, dI)) (ci := 12) (v := .int (nI (k4 + 1))) (ty := .int) (C := RX12) (T := TX12) (N := 52) hx hb hts hin12 tyX12 tyX12_ok nmX12 hown hK hP hD hS 0 rfl rfl 5 (by decide) (hts (.fieldLink RX12 21 "PorridgeSeaModel" "to" "I") (List.mem_of_getElem? (i := 1) rfl)) (fun _ h9 => h9) rfl (by decide +kernel) rfl rfl (Nat.le_of_ble_eq_true rfl) dX12_go_194 (fun H locs hP hD hS => ?_)
                  have hP : va_P (dC, dI) vwCl [(o, .inr (12, [.int kthrown, .ref ktape, .int (nI ktaped), .int (nI ksize), .int (nI klimit), .int (nI (k4 + 1)), .int (nI k4), .int (nI 4), .int knumber, .int y16, .int kfault, .int kplace, .long kword, .int ktold, .ref know, .ref kread, .ref kkept, .ref ksnaps, .ref kaside, .ref kname, .ref kreadName, .ref kkeptName, .ref kisKept, .ref konces, .int (nI ksnapMany), .int khasCells, .ref kpoured, .ref kfar, .ref ksides, .int (nI ksideMany), .int kwayDays, .int khasWay, .ref klines, .ref kmet, .int (nI kmetMany), .ref ksunk, .ref ktrying, .int (nI ksunkMany), .int ksending, .int kfleets, .ref ktext, .int (nI ktexts), .int kseed, .ref kline, .ref kwritten, .int (nI klineMany), .int khasWritten, .ref knode, .int (nI knodes), .int (nI konesMany), .int (nI kwithin), .int (nI ktop)])), (ktape, .inl (ky 0, 940, .inl ktapeF))] H := hP
                  have hD : va_D A [(o, .inr (12, [.int kthrown, .ref ktape, .int (nI ktaped), .int (nI ksize), .int (nI klimit), .int (nI (k4 + 1)), .int (nI k4), .int (nI 4), .int knumber, .int y16, .int kfault, .int kplace, .long kword, .int ktold, .ref know, .ref kread, .ref kkept, .ref ksnaps, .ref kaside, .ref kname, .ref kreadName, .ref kkeptName, .ref kisKept, .ref konces, .int (nI ksnapMany), .int khasCells, .ref kpoured, .ref kfar, .ref ksides, .int (nI ksideMany), .int kwayDays, .int khasWay, .ref klines, .ref kmet, .int (nI kmetMany), .ref ksunk, .ref ktrying, .int (nI ksunkMany), .int ksending, .int kfleets, .ref ktext, .int (nI ktexts), .int kseed, .ref kline, .ref kwritten, .int (nI klineMany), .int khasWritten, .ref knode, .int (nI knodes), .int (nI konesMany), .int (nI kwithin), .int (nI ktop)])), (ktape, .inl (ky 0, 940, .inl ktapeF))] := hD
                  rw [hQ]
                  exact W.vret hx hb hr (fun t9 ht9 hW9 => ⟨⟨((k4 + 1), k4, nI 4, knumber, y16, kword), rfl, ⟨(lf_g_go_73 bt ksize klimit kto ktapeF gq k4 n8 y16 iv_ko_1 iv_ko_2 iv_ko_3 hTM hgq j5 j6 jSk hm10 jQ jM c15 e17 t18 t19 t24 t112 c196), j5, (lf_g_go_74 bt ksize klimit kto knumber kword ktapeF gq k4 n8 y16 iv_ko_1 iv_ko_2 iv_ko_3 hTM hgq j5 j6 jSk hm10 jQ jM c15 e17 t18 t19 t24 t112 c196)⟩, by rw [ht9]; exact hP, va_K.moved hW9.alike hK, hD⟩, hS.F ht9⟩) hS.2.2 dX12_go_197
                · refine lv_iload_n hx hb dX12_go_144 rfl (lv_at hl 0 rfl) ?_
                  refine lv_bipush (v := nI 60) hx hb dX12_go_145 (by decide) ?_
                  refine lv_icmp_eq (tgt := 174) hx hb dX12_go_147 (by decide) (fun c197 => ?_) (fun c197 => ?_)
                  · refine lv_iconst (v := nI 4) hx hb dX12_go_174 (by decide) ?_
                    refine lv_goto (tgt := 179) hx hb dX12_go_175 (by decide) ?_
                    refine va_put (D := (dC, dI)) (ci := 12) (v := .int (nI 4)) (ty := .int) (C := RX12) (T := TX12) (N := 52) hx hb hts hin12 tyX12 tyX12_ok nmX12 hown hK hP hD hS 0 rfl rfl 7 (by decide) (hts (.fieldLink RX12 30 "PorridgeSeaModel" "kind" "I") (List.mem_of_getElem? (i := 6) rfl)) (fun _ h9 => h9) rfl (by decide +kernel) rfl rfl (Nat.le_of_ble_eq_true rfl) dX12_go_179 (fun H locs hP hD hS => ?_)
                    have hP : va_P (dC, dI) vwCl [(o, .inr (12, [.int kthrown, .ref ktape, .int (nI ktaped), .int (nI ksize), .int (nI klimit), .int (nI k4), .int (nI k4), .int (nI 4), .int knumber, .int ksign, .int kfault, .int kplace, .long kword, .int ktold, .ref know, .ref kread, .ref kkept, .ref ksnaps, .ref kaside, .ref kname, .ref kreadName, .ref kkeptName, .ref kisKept, .ref konces, .int (nI ksnapMany), .int khasCells, .ref kpoured, .ref kfar, .ref ksides, .int (nI ksideMany), .int kwayDays, .int khasWay, .ref klines, .ref kmet, .int (nI kmetMany), .ref ksunk, .ref ktrying, .int (nI ksunkMany), .int ksending, .int kfleets, .ref ktext, .int (nI ktexts), .int kseed, .ref kline, .ref kwritten, .int (nI klineMany), .int khasWritten, .ref knode, .int (nI knodes), .int (nI konesMany), .int (nI kwithin), .int (nI ktop)])), (ktape, .inl (ky 0, 940, .inl ktapeF))] H := hP
                    have hD : va_D A [(o, .inr (12, [.int kthrown, .ref ktape, .int (nI ktaped), .int (nI ksize), .int (nI klimit), .int (nI k4), .int (nI k4), .int (nI 4), .int knumber, .int ksign, .int kfault, .int kplace, .long kword, .int ktold, .ref know, .ref kread, .ref kkept, .ref ksnaps, .ref kaside, .ref kname, .ref kreadName, .ref kkeptName, .ref kisKept, .ref konces, .int (nI ksnapMany), .int khasCells, .ref kpoured, .ref kfar, .ref ksides, .int (nI ksideMany), .int kwayDays, .int khasWay, .ref klines, .ref kmet, .int (nI kmetMany), .ref ksunk, .ref ktrying, .int (nI ksunkMany), .int ksending, .int kfleets, .ref ktext, .int (nI ktexts), .int kseed, .ref kline, .ref kwritten, .int (nI klineMany), .int khasWritten, .ref knode, .int (nI knodes), .int (nI konesMany), .int (nI kwithin), .int (nI ktop)])), (ktape, .inl (ky 0, 940, .inl ktapeF))] := hD
                    refine lv_aload_n hx hb dX12_go_182 rfl (lv_at hl 1 rfl) ?_
                    refine lv_iload_n hx hb dX12_go_183 rfl (lv_at hl 0 rfl) ?_
                    refine va_put (D := (dC, dI)) (ci := 12) (v := .int y16) (ty := .int) (C := RX12) (T := TX12) (N := 52) hx hb hts hin12 tyX12 tyX12_ok nmX12 hown hK hP hD hS 0 rfl rfl 9 (by decide) (hts (.fieldLink RX12 40 "PorridgeSeaModel" "sign" "I") (List.mem_of_getElem? (i := 7) rfl)) (fun _ h9 => h9) rfl (by decide +kernel) rfl rfl (Nat.le_of_ble_eq_true rfl) dX12_go_184 (fun H locs hP hD hS => ?_)
                    have hP : va_P (dC, dI) vwCl [(o, .inr (12, [.int kthrown, .ref ktape, .int (nI ktaped), .int (nI ksize), .int (nI klimit), .int (nI k4), .int (nI k4), .int (nI 4), .int knumber, .int y16, .int kfault, .int kplace, .long kword, .int ktold, .ref know, .ref kread, .ref kkept, .ref ksnaps, .ref kaside, .ref kname, .ref kreadName, .ref kkeptName, .ref kisKept, .ref konces, .int (nI ksnapMany), .int khasCells, .ref kpoured, .ref kfar, .ref ksides, .int (nI ksideMany), .int kwayDays, .int khasWay, .ref klines, .ref kmet, .int (nI kmetMany), .ref ksunk, .ref ktrying, .int (nI ksunkMany), .int ksending, .int kfleets, .ref ktext, .int (nI ktexts), .int kseed, .ref kline, .ref kwritten, .int (nI klineMany), .int khasWritten, .ref knode, .int (nI knodes), .int (nI konesMany), .int (nI kwithin), .int (nI ktop)])), (ktape, .inl (ky 0, 940, .inl ktapeF))] H := hP
                    have hD : va_D A [(o, .inr (12, [.int kthrown, .ref ktape, .int (nI ktaped), .int (nI ksize), .int (nI klimit), .int (nI k4), .int (nI k4), .int (nI 4), .int knumber, .int y16, .int kfault, .int kplace, .long kword, .int ktold, .ref know, .ref kread, .ref kkept, .ref ksnaps, .ref kaside, .ref kname, .ref kreadName, .ref kkeptName, .ref kisKept, .ref konces, .int (nI ksnapMany), .int khasCells, .ref kpoured, .ref kfar, .ref ksides, .int (nI ksideMany), .int kwayDays, .int khasWay, .ref klines, .ref kmet, .int (nI kmetMany), .ref ksunk, .ref ktrying, .int (nI ksunkMany), .int ksending, .int kfleets, .ref ktext, .int (nI ktexts), .int kseed, .ref kline, .ref kwritten, .int (nI klineMany), .int khasWritten, .ref knode, .int (nI knodes), .int (nI konesMany), .int (nI kwithin), .int (nI ktop)])), (ktape, .inl (ky 0, 940, .inl ktapeF))] := hD
                    refine lv_aload_n hx hb dX12_go_187 rfl (lv_at hl 1 rfl) ?_
                    refine lv_dup hx hb dX12_go_188 rfl ?_
                    refine va_get (D := (dC, dI)) (ci := 12) (v := .int (nI k4)) (C := RX12) (T := TX12) (N := 52) hx hb hts hin12 hown hK hP 0 rfl rfl 5 (by decide) (hts (.fieldLink RX12 21 "PorridgeSeaModel" "to" "I") (List.mem_of_getElem? (i := 1) rfl)) (fun _ h9 => h9) rfl dX12_go_189 ?_
                    refine lv_iconst (v := nI 1) hx hb dX12_go_192 (by decide) ?_
                    refine lv_iadd hx hb dX12_go_193 ?_
                    refine r_ti (nI (k4 + 1)) (nI_add _ _) ?_
                    refine va_put (D := (dC, dI)) (ci := 12) (v := .int (nI (k4 + 1))) (ty := .int) (C := RX12) (T := TX12) (N := 52) hx hb hts hin12 tyX12 tyX12_ok nmX12 hown hK hP hD hS 0 rfl rfl 5 (by decide) (hts (.fieldLink RX12 21 "PorridgeSeaModel" "to" "I") (List.mem_of_getElem? (i := 1) rfl)) (fun _ h9 => h9) rfl (by decide +kernel) rfl rfl (Nat.le_of_ble_eq_true rfl) dX12_go_194 (fun H locs hP hD hS => ?_)
                    have hP : va_P (dC, dI) vwCl [(o, .inr (12, [.int kthrown, .ref ktape, .int (nI ktaped), .int (nI ksize), .int (nI klimit), .int (nI (k4 + 1)), .int (nI k4), .int (nI 4), .int knumber, .int y16, .int kfault, .int kplace, .long kword, .int ktold, .ref know, .ref kread, .ref kkept, .ref ksnaps, .ref kaside, .ref kname, .ref kreadName, .ref kkeptName, .ref kisKept, .ref konces, .int (nI ksnapMany), .int khasCells, .ref kpoured, .ref kfar, .ref ksides, .int (nI ksideMany), .int kwayDays, .int khasWay, .ref klines, .ref kmet, .int (nI kmetMany), .ref ksunk, .ref ktrying, .int (nI ksunkMany), .int ksending, .int kfleets, .ref ktext, .int (nI ktexts), .int kseed, .ref kline, .ref kwritten, .int (nI klineMany), .int khasWritten, .ref knode, .int (nI knodes), .int (nI konesMany), .int (nI kwithin), .int (nI ktop)])), (ktape, .inl (ky 0, 940, .inl ktapeF))] H := hP
                    have hD : va_D A [(o, .inr (12, [.int kthrown, .ref ktape, .int (nI ktaped), .int (nI ksize), .int (nI klimit), .int (nI (k4 + 1)), .int (nI k4), .int (nI 4), .int knumber, .int y16, .int kfault, .int kplace, .long kword, .int ktold, .ref know, .ref kread, .ref kkept, .ref ksnaps, .ref kaside, .ref kname, .ref kreadName, .ref kkeptName, .ref kisKept, .ref konces, .int (nI ksnapMany), .int khasCells, .ref kpoured, .ref kfar, .ref ksides, .int (nI ksideMany), .int kwayDays, .int khasWay, .ref klines, .ref kmet, .int (nI kmetMany), .ref ksunk, .ref ktrying, .int (nI ksunkMany), .int ksending, .int kfleets, .ref ktext, .int (nI ktexts), .int kseed, .ref kline, .ref kwritten, .int (nI klineMany), .int khasWritten, .ref knode, .int (nI knodes), .int (nI konesMany), .int (nI kwithin), .int (nI ktop)])), (ktape, .inl (ky 0, 940, .inl ktapeF))] := hD
                    rw [hQ]
                    exact W.vret hx hb hr (fun t9 ht9 hW9 => ⟨⟨((k4 + 1), k4, nI 4, knumber, y16, kword), rfl, ⟨(lf_g_go_75 bt ksize klimit kto ktapeF gq k4 n8 y16 iv_ko_1 iv_ko_2 iv_ko_3 hTM hgq j5 j6 jSk hm10 jQ jM c15 e17 t18 t19 t24 t112 c196 c197), j5, (lf_g_go_76 bt ksize klimit kto knumber kword ktapeF gq k4 n8 y16 iv_ko_1 iv_ko_2 iv_ko_3 hTM hgq j5 j6 jSk hm10 jQ jM c15 e17 t18 t19 t24 t112 c196 c197)⟩, by rw [ht9]; exact hP, va_K.moved hW9.alike hK, hD⟩, hS.F ht9⟩) hS.2.2 dX12_go_197
                  · refine lv_iload_n hx hb dX12_go_150 rfl (lv_at hl 0 rfl) ?_
                    refine lv_bipush (v := nI 61) hx hb dX12_go_151 (by decide) ?_
                    refine lv_icmp_eq (tgt := 174) hx hb dX12_go_153 (by decide) (fun c198 => ?_) (fun c198 => ?_)
                    · refine lv_iconst (v := nI 4) hx hb dX12_go_174 (by decide) ?_
                      refine lv_goto (tgt := 179) hx hb dX12_go_175 (by decide) ?_
                      refine va_put (D := (dC, dI)) (ci := 12) (v := .int (nI 4)) (ty := .int) (C := RX12) (T := TX12) (N := 52) hx hb hts hin12 tyX12 tyX12_ok nmX12 hown hK hP hD hS 0 rfl rfl 7 (by decide) (hts (.fieldLink RX12 30 "PorridgeSeaModel" "kind" "I") (List.mem_of_getElem? (i := 6) rfl)) (fun _ h9 => h9) rfl (by decide +kernel) rfl rfl (Nat.le_of_ble_eq_true rfl) dX12_go_179 (fun H locs hP hD hS => ?_)
                      have hP : va_P (dC, dI) vwCl [(o, .inr (12, [.int kthrown, .ref ktape, .int (nI ktaped), .int (nI ksize), .int (nI klimit), .int (nI k4), .int (nI k4), .int (nI 4), .int knumber, .int ksign, .int kfault, .int kplace, .long kword, .int ktold, .ref know, .ref kread, .ref kkept, .ref ksnaps, .ref kaside, .ref kname, .ref kreadName, .ref kkeptName, .ref kisKept, .ref konces, .int (nI ksnapMany), .int khasCells, .ref kpoured, .ref kfar, .ref ksides, .int (nI ksideMany), .int kwayDays, .int khasWay, .ref klines, .ref kmet, .int (nI kmetMany), .ref ksunk, .ref ktrying, .int (nI ksunkMany), .int ksending, .int kfleets, .ref ktext, .int (nI ktexts), .int kseed, .ref kline, .ref kwritten, .int (nI klineMany), .int khasWritten, .ref knode, .int (nI knodes), .int (nI konesMany), .int (nI kwithin), .int (nI ktop)])), (ktape, .inl (ky 0, 940, .inl ktapeF))] H := hP
                      have hD : va_D A [(o, .inr (12, [.int kthrown, .ref ktape, .int (nI ktaped), .int (nI ksize), .int (nI klimit), .int (nI k4), .int (nI k4), .int (nI 4), .int knumber, .int ksign, .int kfault, .int kplace, .long kword, .int ktold, .ref know, .ref kread, .ref kkept, .ref ksnaps, .ref kaside, .ref kname, .ref kreadName, .ref kkeptName, .ref kisKept, .ref konces, .int (nI ksnapMany), .int khasCells, .ref kpoured, .ref kfar, .ref ksides, .int (nI ksideMany), .int kwayDays, .int khasWay, .ref klines, .ref kmet, .int (nI kmetMany), .ref ksunk, .ref ktrying, .int (nI ksunkMany), .int ksending, .int kfleets, .ref ktext, .int (nI ktexts), .int kseed, .ref kline, .ref kwritten, .int (nI klineMany), .int khasWritten, .ref knode, .int (nI knodes), .int (nI konesMany), .int (nI kwithin), .int (nI ktop)])), (ktape, .inl (ky 0, 940, .inl ktapeF))] := hD
                      refine lv_aload_n hx hb dX12_go_182 rfl (lv_at hl 1 rfl) ?_
                      refine lv_iload_n hx hb dX12_go_183 rfl (lv_at hl 0 rfl) ?_
                      refine va_put (D := (dC, dI)) (ci := 12) (v := .int y16) (ty := .int) (C := RX12) (T := TX12) (N := 52) hx hb hts hin12 tyX12 tyX12_ok nmX12 hown hK hP hD hS 0 rfl rfl 9 (by decide) (hts (.fieldLink RX12 40 "PorridgeSeaModel" "sign" "I") (List.mem_of_getElem? (i := 7) rfl)) (fun _ h9 => h9) rfl (by decide +kernel) rfl rfl (Nat.le_of_ble_eq_true rfl) dX12_go_184 (fun H locs hP hD hS => ?_)
                      have hP : va_P (dC, dI) vwCl [(o, .inr (12, [.int kthrown, .ref ktape, .int (nI ktaped), .int (nI ksize), .int (nI klimit), .int (nI k4), .int (nI k4), .int (nI 4), .int knumber, .int y16, .int kfault, .int kplace, .long kword, .int ktold, .ref know, .ref kread, .ref kkept, .ref ksnaps, .ref kaside, .ref kname, .ref kreadName, .ref kkeptName, .ref kisKept, .ref konces, .int (nI ksnapMany), .int khasCells, .ref kpoured, .ref kfar, .ref ksides, .int (nI ksideMany), .int kwayDays, .int khasWay, .ref klines, .ref kmet, .int (nI kmetMany), .ref ksunk, .ref ktrying, .int (nI ksunkMany), .int ksending, .int kfleets, .ref ktext, .int (nI ktexts), .int kseed, .ref kline, .ref kwritten, .int (nI klineMany), .int khasWritten, .ref knode, .int (nI knodes), .int (nI konesMany), .int (nI kwithin), .int (nI ktop)])), (ktape, .inl (ky 0, 940, .inl ktapeF))] H := hP
                      have hD : va_D A [(o, .inr (12, [.int kthrown, .ref ktape, .int (nI ktaped), .int (nI ksize), .int (nI klimit), .int (nI k4), .int (nI k4), .int (nI 4), .int knumber, .int y16, .int kfault, .int kplace, .long kword, .int ktold, .ref know, .ref kread, .ref kkept, .ref ksnaps, .ref kaside, .ref kname, .ref kreadName, .ref kkeptName, .ref kisKept, .ref konces, .int (nI ksnapMany), .int khasCells, .ref kpoured, .ref kfar, .ref ksides, .int (nI ksideMany), .int kwayDays, .int khasWay, .ref klines, .ref kmet, .int (nI kmetMany), .ref ksunk, .ref ktrying, .int (nI ksunkMany), .int ksending, .int kfleets, .ref ktext, .int (nI ktexts), .int kseed, .ref kline, .ref kwritten, .int (nI klineMany), .int khasWritten, .ref knode, .int (nI knodes), .int (nI konesMany), .int (nI kwithin), .int (nI ktop)])), (ktape, .inl (ky 0, 940, .inl ktapeF))] := hD
                      refine lv_aload_n hx hb dX12_go_187 rfl (lv_at hl 1 rfl) ?_
                      refine lv_dup hx hb dX12_go_188 rfl ?_
                      refine va_get (D := (dC, dI)) (ci := 12) (v := .int (nI k4)) (C := RX12) (T := TX12) (N := 52) hx hb hts hin12 hown hK hP 0 rfl rfl 5 (by decide) (hts (.fieldLink RX12 21 "PorridgeSeaModel" "to" "I") (List.mem_of_getElem? (i := 1) rfl)) (fun _ h9 => h9) rfl dX12_go_189 ?_
                      refine lv_iconst (v := nI 1) hx hb dX12_go_192 (by decide) ?_
                      refine lv_iadd hx hb dX12_go_193 ?_
                      refine r_ti (nI (k4 + 1)) (nI_add _ _) ?_
                      refine va_put (D := (dC, dI)) (ci := 12) (v := .int (nI (k4 + 1))) (ty := .int) (C := RX12) (T := TX12) (N := 52) hx hb hts hin12 tyX12 tyX12_ok nmX12 hown hK hP hD hS 0 rfl rfl 5 (by decide) (hts (.fieldLink RX12 21 "PorridgeSeaModel" "to" "I") (List.mem_of_getElem? (i := 1) rfl)) (fun _ h9 => h9) rfl (by decide +kernel) rfl rfl (Nat.le_of_ble_eq_true rfl) dX12_go_194 (fun H locs hP hD hS => ?_)
                      have hP : va_P (dC, dI) vwCl [(o, .inr (12, [.int kthrown, .ref ktape, .int (nI ktaped), .int (nI ksize), .int (nI klimit), .int (nI (k4 + 1)), .int (nI k4), .int (nI 4), .int knumber, .int y16, .int kfault, .int kplace, .long kword, .int ktold, .ref know, .ref kread, .ref kkept, .ref ksnaps, .ref kaside, .ref kname, .ref kreadName, .ref kkeptName, .ref kisKept, .ref konces, .int (nI ksnapMany), .int khasCells, .ref kpoured, .ref kfar, .ref ksides, .int (nI ksideMany), .int kwayDays, .int khasWay, .ref klines, .ref kmet, .int (nI kmetMany), .ref ksunk, .ref ktrying, .int (nI ksunkMany), .int ksending, .int kfleets, .ref ktext, .int (nI ktexts), .int kseed, .ref kline, .ref kwritten, .int (nI klineMany), .int khasWritten, .ref knode, .int (nI knodes), .int (nI konesMany), .int (nI kwithin), .int (nI ktop)])), (ktape, .inl (ky 0, 940, .inl ktapeF))] H := hP
                      have hD : va_D A [(o, .inr (12, [.int kthrown, .ref ktape, .int (nI ktaped), .int (nI ksize), .int (nI klimit), .int (nI (k4 + 1)), .int (nI k4), .int (nI 4), .int knumber, .int y16, .int kfault, .int kplace, .long kword, .int ktold, .ref know, .ref kread, .ref kkept, .ref ksnaps, .ref kaside, .ref kname, .ref kreadName, .ref kkeptName, .ref kisKept, .ref konces, .int (nI ksnapMany), .int khasCells, .ref kpoured, .ref kfar, .ref ksides, .int (nI ksideMany), .int kwayDays, .int khasWay, .ref klines, .ref kmet, .int (nI kmetMany), .ref ksunk, .ref ktrying, .int (nI ksunkMany), .int ksending, .int kfleets, .ref ktext, .int (nI ktexts), .int kseed, .ref kline, .ref kwritten, .int (nI klineMany), .int khasWritten, .ref knode, .int (nI knodes), .int (nI konesMany), .int (nI kwithin), .int (nI ktop)])), (ktape, .inl (ky 0, 940, .inl ktapeF))] := hD
                      rw [hQ]
                      exact W.vret hx hb hr (fun t9 ht9 hW9 => ⟨⟨((k4 + 1), k4, nI 4, knumber, y16, kword), rfl, ⟨(lf_g_go_77 bt ksize klimit kto ktapeF gq k4 n8 y16 iv_ko_1 iv_ko_2 iv_ko_3 hTM hgq j5 j6 jSk hm10 jQ jM c15 e17 t18 t19 t24 t112 c196 c197 c198), j5, (lf_g_go_78 bt ksize klimit kto knumber kword ktapeF gq k4 n8 y16 iv_ko_1 iv_ko_2 iv_ko_3 hTM hgq j5 j6 jSk hm10 jQ jM c15 e17 t18 t19 t24 t112 c196 c197 c198)⟩, by rw [ht9]; exact hP, va_K.moved hW9.alike hK, hD⟩, hS.F ht9⟩) hS.2.2 dX12_go_197
                    · refine lv_iload_n hx hb dX12_go_156 rfl (lv_at hl 0 rfl) ?_
                      refine lv_bipush (v := nI 62) hx hb dX12_go_157 (by decide) ?_
                      refine lv_icmp_eq (tgt := 174) hx hb dX12_go_159 (by decide) (fun c199 => ?_) (fun c199 => ?_)
                      · refine lv_iconst (v := nI 4) hx hb dX12_go_174 (by decide) ?_
                        refine lv_goto (tgt := 179) hx hb dX12_go_175 (by decide) ?_
                        refine va_put (D := (dC, dI)) (ci := 12) (v := .int (nI 4)) (ty := .int) (C := RX12) (T := TX12) (N := 52) hx hb hts hin12 tyX12 tyX12_ok nmX12 hown hK hP hD hS 0 rfl rfl 7 (by decide) (hts (.fieldLink RX12 30 "PorridgeSeaModel" "kind" "I") (List.mem_of_getElem? (i := 6) rfl)) (fun _ h9 => h9) rfl (by decide +kernel) rfl rfl (Nat.le_of_ble_eq_true rfl) dX12_go_179 (fun H locs hP hD hS => ?_)
                        have hP : va_P (dC, dI) vwCl [(o, .inr (12, [.int kthrown, .ref ktape, .int (nI ktaped), .int (nI ksize), .int (nI klimit), .int (nI k4), .int (nI k4), .int (nI 4), .int knumber, .int ksign, .int kfault, .int kplace, .long kword, .int ktold, .ref know, .ref kread, .ref kkept, .ref ksnaps, .ref kaside, .ref kname, .ref kreadName, .ref kkeptName, .ref kisKept, .ref konces, .int (nI ksnapMany), .int khasCells, .ref kpoured, .ref kfar, .ref ksides, .int (nI ksideMany), .int kwayDays, .int khasWay, .ref klines, .ref kmet, .int (nI kmetMany), .ref ksunk, .ref ktrying, .int (nI ksunkMany), .int ksending, .int kfleets, .ref ktext, .int (nI ktexts), .int kseed, .ref kline, .ref kwritten, .int (nI klineMany), .int khasWritten, .ref knode, .int (nI knodes), .int (nI konesMany), .int (nI kwithin), .int (nI ktop)])), (ktape, .inl (ky 0, 940, .inl ktapeF))] H := hP
                        have hD : va_D A [(o, .inr (12, [.int kthrown, .ref ktape, .int (nI ktaped), .int (nI ksize), .int (nI klimit), .int (nI k4), .int (nI k4), .int (nI 4), .int knumber, .int ksign, .int kfault, .int kplace, .long kword, .int ktold, .ref know, .ref kread, .ref kkept, .ref ksnaps, .ref kaside, .ref kname, .ref kreadName, .ref kkeptName, .ref kisKept, .ref konces, .int (nI ksnapMany), .int khasCells, .ref kpoured, .ref kfar, .ref ksides, .int (nI ksideMany), .int kwayDays, .int khasWay, .ref klines, .ref kmet, .int (nI kmetMany), .ref ksunk, .ref ktrying, .int (nI ksunkMany), .int ksending, .int kfleets, .ref ktext, .int (nI ktexts), .int kseed, .ref kline, .ref kwritten, .int (nI klineMany), .int khasWritten, .ref knode, .int (nI knodes), .int (nI konesMany), .int (nI kwithin), .int (nI ktop)])), (ktape, .inl (ky 0, 940, .inl ktapeF))] := hD
                        refine lv_aload_n hx hb dX12_go_182 rfl (lv_at hl 1 rfl) ?_
                        refine lv_iload_n hx hb dX12_go_183 rfl (lv_at hl 0 rfl) ?_
                        refine va_put (D := (dC, dI)) (ci := 12) (v := .int y16) (ty := .int) (C := RX12) (T := TX12) (N := 52) hx hb hts hin12 tyX12 tyX12_ok nmX12 hown hK hP hD hS 0 rfl rfl 9 (by decide) (hts (.fieldLink RX12 40 "PorridgeSeaModel" "sign" "I") (List.mem_of_getElem? (i := 7) rfl)) (fun _ h9 => h9) rfl (by decide +kernel) rfl rfl (Nat.le_of_ble_eq_true rfl) dX12_go_184 (fun H locs hP hD hS => ?_)
                        have hP : va_P (dC, dI) vwCl [(o, .inr (12, [.int kthrown, .ref ktape, .int (nI ktaped), .int (nI ksize), .int (nI klimit), .int (nI k4), .int (nI k4), .int (nI 4), .int knumber, .int y16, .int kfault, .int kplace, .long kword, .int ktold, .ref know, .ref kread, .ref kkept, .ref ksnaps, .ref kaside, .ref kname, .ref kreadName, .ref kkeptName, .ref kisKept, .ref konces, .int (nI ksnapMany), .int khasCells, .ref kpoured, .ref kfar, .ref ksides, .int (nI ksideMany), .int kwayDays, .int khasWay, .ref klines, .ref kmet, .int (nI kmetMany), .ref ksunk, .ref ktrying, .int (nI ksunkMany), .int ksending, .int kfleets, .ref ktext, .int (nI ktexts), .int kseed, .ref kline, .ref kwritten, .int (nI klineMany), .int khasWritten, .ref knode, .int (nI knodes), .int (nI konesMany), .int (nI kwithin), .int (nI ktop)])), (ktape, .inl (ky 0, 940, .inl ktapeF))] H := hP
                        have hD : va_D A [(o, .inr (12, [.int kthrown, .ref ktape, .int (nI ktaped), .int (nI ksize), .int (nI klimit), .int (nI k4), .int (nI k4), .int (nI 4), .int knumber, .int y16, .int kfault, .int kplace, .long kword, .int ktold, .ref know, .ref kread, .ref kkept, .ref ksnaps, .ref kaside, .ref kname, .ref kreadName, .ref kkeptName, .ref kisKept, .ref konces, .int (nI ksnapMany), .int khasCells, .ref kpoured, .ref kfar, .ref ksides, .int (nI ksideMany), .int kwayDays, .int khasWay, .ref klines, .ref kmet, .int (nI kmetMany), .ref ksunk, .ref ktrying, .int (nI ksunkMany), .int ksending, .int kfleets, .ref ktext, .int (nI ktexts), .int kseed, .ref kline, .ref kwritten, .int (nI klineMany), .int khasWritten, .ref knode, .int (nI knodes), .int (nI konesMany), .int (nI kwithin), .int (nI ktop)])), (ktape, .inl (ky 0, 940, .inl ktapeF))] := hD
                        refine lv_aload_n hx hb dX12_go_187 rfl (lv_at hl 1 rfl) ?_
                        refine lv_dup hx hb dX12_go_188 rfl ?_
                        refine va_get (D := (dC, dI)) (ci := 12) (v := .int (nI k4)) (C := RX12) (T := TX12) (N := 52) hx hb hts hin12 hown hK hP 0 rfl rfl 5 (by decide) (hts (.fieldLink RX12 21 "PorridgeSeaModel" "to" "I") (List.mem_of_getElem? (i := 1) rfl)) (fun _ h9 => h9) rfl dX12_go_189 ?_
                        refine lv_iconst (v := nI 1) hx hb dX12_go_192 (by decide) ?_
                        refine lv_iadd hx hb dX12_go_193 ?_
                        refine r_ti (nI (k4 + 1)) (nI_add _ _) ?_
                        refine va_put (D := (dC, dI)) (ci := 12) (v := .int (nI (k4 + 1))) (ty := .int) (C := RX12) (T := TX12) (N := 52) hx hb hts hin12 tyX12 tyX12_ok nmX12 hown hK hP hD hS 0 rfl rfl 5 (by decide) (hts (.fieldLink RX12 21 "PorridgeSeaModel" "to" "I") (List.mem_of_getElem? (i := 1) rfl)) (fun _ h9 => h9) rfl (by decide +kernel) rfl rfl (Nat.le_of_ble_eq_true rfl) dX12_go_194 (fun H locs hP hD hS => ?_)
                        have hP : va_P (dC, dI) vwCl [(o, .inr (12, [.int kthrown, .ref ktape, .int (nI ktaped), .int (nI ksize), .int (nI klimit), .int (nI (k4 + 1)), .int (nI k4), .int (nI 4), .int knumber, .int y16, .int kfault, .int kplace, .long kword, .int ktold, .ref know, .ref kread, .ref kkept, .ref ksnaps, .ref kaside, .ref kname, .ref kreadName, .ref kkeptName, .ref kisKept, .ref konces, .int (nI ksnapMany), .int khasCells, .ref kpoured, .ref kfar, .ref ksides, .int (nI ksideMany), .int kwayDays, .int khasWay, .ref klines, .ref kmet, .int (nI kmetMany), .ref ksunk, .ref ktrying, .int (nI ksunkMany), .int ksending, .int kfleets, .ref ktext, .int (nI ktexts), .int kseed, .ref kline, .ref kwritten, .int (nI klineMany), .int khasWritten, .ref knode, .int (nI knodes), .int (nI konesMany), .int (nI kwithin), .int (nI ktop)])), (ktape, .inl (ky 0, 940, .inl ktapeF))] H := hP
                        have hD : va_D A [(o, .inr (12, [.int kthrown, .ref ktape, .int (nI ktaped), .int (nI ksize), .int (nI klimit), .int (nI (k4 + 1)), .int (nI k4), .int (nI 4), .int knumber, .int y16, .int kfault, .int kplace, .long kword, .int ktold, .ref know, .ref kread, .ref kkept, .ref ksnaps, .ref kaside, .ref kname, .ref kreadName, .ref kkeptName, .ref kisKept, .ref konces, .int (nI ksnapMany), .int khasCells, .ref kpoured, .ref kfar, .ref ksides, .int (nI ksideMany), .int kwayDays, .int khasWay, .ref klines, .ref kmet, .int (nI kmetMany), .ref ksunk, .ref ktrying, .int (nI ksunkMany), .int ksending, .int kfleets, .ref ktext, .int (nI ktexts), .int kseed, .ref kline, .ref kwritten, .int (nI klineMany), .int khasWritten, .ref knode, .int (nI knodes), .int (nI konesMany), .int (nI kwithin), .int (nI ktop)])), (ktape, .inl (ky 0, 940, .inl ktapeF))] := hD
                        rw [hQ]
                        exact W.vret hx hb hr (fun t9 ht9 hW9 => ⟨⟨((k4 + 1), k4, nI 4, knumber, y16, kword), rfl, ⟨(lf_g_go_79 bt ksize klimit kto ktapeF gq k4 n8 y16 iv_ko_1 iv_ko_2 iv_ko_3 hTM hgq j5 j6 jSk hm10 jQ jM c15 e17 t18 t19 t24 t112 c196 c197 c198 c199), j5, (lf_g_go_80 bt ksize klimit kto knumber kword ktapeF gq k4 n8 y16 iv_ko_1 iv_ko_2 iv_ko_3 hTM hgq j5 j6 jSk hm10 jQ jM c15 e17 t18 t19 t24 t112 c196 c197 c198 c199)⟩, by rw [ht9]; exact hP, va_K.moved hW9.alike hK, hD⟩, hS.F ht9⟩) hS.2.2 dX12_go_197
                      · refine lv_iload_n hx hb dX12_go_162 rfl (lv_at hl 0 rfl) ?_
                        refine lv_bipush (v := nI 40) hx hb dX12_go_163 (by decide) ?_
                        refine lv_icmp_eq (tgt := 174) hx hb dX12_go_165 (by decide) (fun c200 => ?_) (fun c200 => ?_)
                        · refine lv_iconst (v := nI 4) hx hb dX12_go_174 (by decide) ?_
                          refine lv_goto (tgt := 179) hx hb dX12_go_175 (by decide) ?_
                          refine va_put (D := (dC, dI)) (ci := 12) (v := .int (nI 4)) (ty := .int) (C := RX12) (T := TX12) (N := 52) hx hb hts hin12 tyX12 tyX12_ok nmX12 hown hK hP hD hS 0 rfl rfl 7 (by decide) (hts (.fieldLink RX12 30 "PorridgeSeaModel" "kind" "I") (List.mem_of_getElem? (i := 6) rfl)) (fun _ h9 => h9) rfl (by decide +kernel) rfl rfl (Nat.le_of_ble_eq_true rfl) dX12_go_179 (fun H locs hP hD hS => ?_)
                          have hP : va_P (dC, dI) vwCl [(o, .inr (12, [.int kthrown, .ref ktape, .int (nI ktaped), .int (nI ksize), .int (nI klimit), .int (nI k4), .int (nI k4), .int (nI 4), .int knumber, .int ksign, .int kfault, .int kplace, .long kword, .int ktold, .ref know, .ref kread, .ref kkept, .ref ksnaps, .ref kaside, .ref kname, .ref kreadName, .ref kkeptName, .ref kisKept, .ref konces, .int (nI ksnapMany), .int khasCells, .ref kpoured, .ref kfar, .ref ksides, .int (nI ksideMany), .int kwayDays, .int khasWay, .ref klines, .ref kmet, .int (nI kmetMany), .ref ksunk, .ref ktrying, .int (nI ksunkMany), .int ksending, .int kfleets, .ref ktext, .int (nI ktexts), .int kseed, .ref kline, .ref kwritten, .int (nI klineMany), .int khasWritten, .ref knode, .int (nI knodes), .int (nI konesMany), .int (nI kwithin), .int (nI ktop)])), (ktape, .inl (ky 0, 940, .inl ktapeF))] H := hP
                          have hD : va_D A [(o, .inr (12, [.int kthrown, .ref ktape, .int (nI ktaped), .int (nI ksize), .int (nI klimit), .int (nI k4), .int (nI k4), .int (nI 4), .int knumber, .int ksign, .int kfault, .int kplace, .long kword, .int ktold, .ref know, .ref kread, .ref kkept, .ref ksnaps, .ref kaside, .ref kname, .ref kreadName, .ref kkeptName, .ref kisKept, .ref konces, .int (nI ksnapMany), .int khasCells, .ref kpoured, .ref kfar, .ref ksides, .int (nI ksideMany), .int kwayDays, .int khasWay, .ref klines, .ref kmet, .int (nI kmetMany), .ref ksunk, .ref ktrying, .int (nI ksunkMany), .int ksending, .int kfleets, .ref ktext, .int (nI ktexts), .int kseed, .ref kline, .ref kwritten, .int (nI klineMany), .int khasWritten, .ref knode, .int (nI knodes), .int (nI konesMany), .int (nI kwithin), .int (nI ktop)])), (ktape, .inl (ky 0, 940, .inl ktapeF))] := hD
                          refine lv_aload_n hx hb dX12_go_182 rfl (lv_at hl 1 rfl) ?_
                          refine lv_iload_n hx hb dX12_go_183 rfl (lv_at hl 0 rfl) ?_
                          refine va_put (D := (dC, dI)) (ci := 12) (v := .int y16) (ty := .int) (C := RX12) (T := TX12) (N := 52) hx hb hts hin12 tyX12 tyX12_ok nmX12 hown hK hP hD hS 0 rfl rfl 9 (by decide) (hts (.fieldLink RX12 40 "PorridgeSeaModel" "sign" "I") (List.mem_of_getElem? (i := 7) rfl)) (fun _ h9 => h9) rfl (by decide +kernel) rfl rfl (Nat.le_of_ble_eq_true rfl) dX12_go_184 (fun H locs hP hD hS => ?_)
                          have hP : va_P (dC, dI) vwCl [(o, .inr (12, [.int kthrown, .ref ktape, .int (nI ktaped), .int (nI ksize), .int (nI klimit), .int (nI k4), .int (nI k4), .int (nI 4), .int knumber, .int y16, .int kfault, .int kplace, .long kword, .int ktold, .ref know, .ref kread, .ref kkept, .ref ksnaps, .ref kaside, .ref kname, .ref kreadName, .ref kkeptName, .ref kisKept, .ref konces, .int (nI ksnapMany), .int khasCells, .ref kpoured, .ref kfar, .ref ksides, .int (nI ksideMany), .int kwayDays, .int khasWay, .ref klines, .ref kmet, .int (nI kmetMany), .ref ksunk, .ref ktrying, .int (nI ksunkMany), .int ksending, .int kfleets, .ref ktext, .int (nI ktexts), .int kseed, .ref kline, .ref kwritten, .int (nI klineMany), .int khasWritten, .ref knode, .int (nI knodes), .int (nI konesMany), .int (nI kwithin), .int (nI ktop)])), (ktape, .inl (ky 0, 940, .inl ktapeF))] H := hP
                          have hD : va_D A [(o, .inr (12, [.int kthrown, .ref ktape, .int (nI ktaped), .int (nI ksize), .int (nI klimit), .int (nI k4), .int (nI k4), .int (nI 4), .int knumber, .int y16, .int kfault, .int kplace, .long kword, .int ktold, .ref know, .ref kread, .ref kkept, .ref ksnaps, .ref kaside, .ref kname, .ref kreadName, .ref kkeptName, .ref kisKept, .ref konces, .int (nI ksnapMany), .int khasCells, .ref kpoured, .ref kfar, .ref ksides, .int (nI ksideMany), .int kwayDays, .int khasWay, .ref klines, .ref kmet, .int (nI kmetMany), .ref ksunk, .ref ktrying, .int (nI ksunkMany), .int ksending, .int kfleets, .ref ktext, .int (nI ktexts), .int kseed, .ref kline, .ref kwritten, .int (nI klineMany), .int khasWritten, .ref knode, .int (nI knodes), .int (nI konesMany), .int (nI kwithin), .int (nI ktop)])), (ktape, .inl (ky 0, 940, .inl ktapeF))] := hD
                          refine lv_aload_n hx hb dX12_go_187 rfl (lv_at hl 1 rfl) ?_
                          refine lv_dup hx hb dX12_go_188 rfl ?_
                          refine va_get (D := (dC, dI)) (ci := 12) (v := .int (nI k4)) (C := RX12) (T := TX12) (N := 52) hx hb hts hin12 hown hK hP 0 rfl rfl 5 (by decide) (hts (.fieldLink RX12 21 "PorridgeSeaModel" "to" "I") (List.mem_of_getElem? (i := 1) rfl)) (fun _ h9 => h9) rfl dX12_go_189 ?_
                          refine lv_iconst (v := nI 1) hx hb dX12_go_192 (by decide) ?_
                          refine lv_iadd hx hb dX12_go_193 ?_
                          refine r_ti (nI (k4 + 1)) (nI_add _ _) ?_
                          refine va_put (D := (dC, dI)) (ci := 12) (v := .int (nI (k4 + 1))) (ty := .int) (C := RX12) (T := TX12) (N := 52) hx hb hts hin12 tyX12 tyX12_ok nmX12 hown hK hP hD hS 0 rfl rfl 5 (by decide) (hts (.fieldLink RX12 21 "PorridgeSeaModel" "to" "I") (List.mem_of_getElem? (i := 1) rfl)) (fun _ h9 => h9) rfl (by decide +kernel) rfl rfl (Nat.le_of_ble_eq_true rfl) dX12_go_194 (fun H locs hP hD hS => ?_)
                          have hP : va_P (dC, dI) vwCl [(o, .inr (12, [.int kthrown, .ref ktape, .int (nI ktaped), .int (nI ksize), .int (nI klimit), .int (nI (k4 + 1)), .int (nI k4), .int (nI 4), .int knumber, .int y16, .int kfault, .int kplace, .long kword, .int ktold, .ref know, .ref kread, .ref kkept, .ref ksnaps, .ref kaside, .ref kname, .ref kreadName, .ref kkeptName, .ref kisKept, .ref konces, .int (nI ksnapMany), .int khasCells, .ref kpoured, .ref kfar, .ref ksides, .int (nI ksideMany), .int kwayDays, .int khasWay, .ref klines, .ref kmet, .int (nI kmetMany), .ref ksunk, .ref ktrying, .int (nI ksunkMany), .int ksending, .int kfleets, .ref ktext, .int (nI ktexts), .int kseed, .ref kline, .ref kwritten, .int (nI klineMany), .int khasWritten, .ref knode, .int (nI knodes), .int (nI konesMany), .int (nI kwithin), .int (nI ktop)])), (ktape, .inl (ky 0, 940, .inl ktapeF))] H := hP
                          have hD : va_D A [(o, .inr (12, [.int kthrown, .ref ktape, .int (nI ktaped), .int (nI ksize), .int (nI klimit), .int (nI (k4 + 1)), .int (nI k4), .int (nI 4), .int knumber, .int y16, .int kfault, .int kplace, .long kword, .int ktold, .ref know, .ref kread, .ref kkept, .ref ksnaps, .ref kaside, .ref kname, .ref kreadName, .ref kkeptName, .ref kisKept, .ref konces, .int (nI ksnapMany), .int khasCells, .ref kpoured, .ref kfar, .ref ksides, .int (nI ksideMany), .int kwayDays, .int khasWay, .ref klines, .ref kmet, .int (nI kmetMany), .ref ksunk, .ref ktrying, .int (nI ksunkMany), .int ksending, .int kfleets, .ref ktext, .int (nI ktexts), .int kseed, .ref kline, .ref kwritten, .int (nI klineMany), .int khasWritten, .ref knode, .int (nI knodes), .int (nI konesMany), .int (nI kwithin), .int (nI ktop)])), (ktape, .inl (ky 0, 940, .inl ktapeF))] := hD
                          rw [hQ]
                          exact W.vret hx hb hr (fun t9 ht9 hW9 => ⟨⟨((k4 + 1), k4, nI 4, knumber, y16, kword), rfl, ⟨(lf_g_go_81 bt ksize klimit kto ktapeF gq k4 n8 y16 iv_ko_1 iv_ko_2 iv_ko_3 hTM hgq j5 j6 jSk hm10 jQ jM c15 e17 t18 t19 t24 t112 c196 c197 c198 c199 c200), j5, (lf_g_go_82 bt ksize klimit kto knumber kword ktapeF gq k4 n8 y16 iv_ko_1 iv_ko_2 iv_ko_3 hTM hgq j5 j6 jSk hm10 jQ jM c15 e17 t18 t19 t24 t112 c196 c197 c198 c199 c200)⟩, by rw [ht9]; exact hP, va_K.moved hW9.alike hK, hD⟩, hS.F ht9⟩) hS.2.2 dX12_go_197
                        · refine lv_iload_n hx hb dX12_go_168 rfl (lv_at hl 0 rfl) ?_
                          refine lv_bipush (v := nI 41) hx hb dX12_go_169 (by decide) ?_
                          refine lv_icmp_ne (tgt := 178) hx hb dX12_go_171 (by decide) (fun c201 => ?_) (fun c201 => ?_)
                          · refine lv_iconst (v := nI 1) hx hb dX12_go_178 (by decide) ?_
                            refine va_put (D := (dC, dI)) (ci := 12) (v := .int (nI 1)) (ty := .int) (C := RX12) (T := TX12) (N := 52) hx hb hts hin12 tyX12 tyX12_ok nmX12 hown hK hP hD hS 0 rfl rfl 7 (by decide) (hts (.fieldLink RX12 30 "PorridgeSeaModel" "kind" "I") (List.mem_of_getElem? (i := 6) rfl)) (fun _ h9 => h9) rfl (by decide +kernel) rfl rfl (Nat.le_of_ble_eq_true rfl) dX12_go_179 (fun H locs hP hD hS => ?_)
                            have hP : va_P (dC, dI) vwCl [(o, .inr (12, [.int kthrown, .ref ktape, .int (nI ktaped), .int (nI ksize), .int (nI klimit), .int (nI k4), .int (nI k4), .int (nI 1), .int knumber, .int ksign, .int kfault, .int kplace, .long kword, .int ktold, .ref know, .ref kread, .ref kkept, .ref ksnaps, .ref kaside, .ref kname, .ref kreadName, .ref kkeptName, .ref kisKept, .ref konces, .int (nI ksnapMany), .int khasCells, .ref kpoured, .ref kfar, .ref ksides, .int (nI ksideMany), .int kwayDays, .int khasWay, .ref klines, .ref kmet, .int (nI kmetMany), .ref ksunk, .ref ktrying, .int (nI ksunkMany), .int ksending, .int kfleets, .ref ktext, .int (nI ktexts), .int kseed, .ref kline, .ref kwritten, .int (nI klineMany), .int khasWritten, .ref knode, .int (nI knodes), .int (nI konesMany), .int (nI kwithin), .int (nI ktop)])), (ktape, .inl (ky 0, 940, .inl ktapeF))] H := hP
                            have hD : va_D A [(o, .inr (12, [.int kthrown, .ref ktape, .int (nI ktaped), .int (nI ksize), .int (nI klimit), .int (nI k4), .int (nI k4), .int (nI 1), .int knumber, .int ksign, .int kfault, .int kplace, .long kword, .int ktold, .ref know, .ref kread, .ref kkept, .ref ksnaps, .ref kaside, .ref kname, .ref kreadName, .ref kkeptName, .ref kisKept, .ref konces, .int (nI ksnapMany), .int khasCells, .ref kpoured, .ref kfar, .ref ksides, .int (nI ksideMany), .int kwayDays, .int khasWay, .ref klines, .ref kmet, .int (nI kmetMany), .ref ksunk, .ref ktrying, .int (nI ksunkMany), .int ksending, .int kfleets, .ref ktext, .int (nI ktexts), .int kseed, .ref kline, .ref kwritten, .int (nI klineMany), .int khasWritten, .ref knode, .int (nI knodes), .int (nI konesMany), .int (nI kwithin), .int (nI ktop)])), (ktape, .inl (ky 0, 940, .inl ktapeF))] := hD
                            refine lv_aload_n hx hb dX12_go_182 rfl (lv_at hl 1 rfl) ?_
                            refine lv_iload_n hx hb dX12_go_183 rfl (lv_at hl 0 rfl) ?_
                            refine va_put (D := (dC, dI)) (ci := 12) (v := .int y16) (ty := .int) (C := RX12) (T := TX12) (N := 52) hx hb hts hin12 tyX12 tyX12_ok nmX12 hown hK hP hD hS 0 rfl rfl 9 (by decide) (hts (.fieldLink RX12 40 "PorridgeSeaModel" "sign" "I") (List.mem_of_getElem? (i := 7) rfl)) (fun _ h9 => h9) rfl (by decide +kernel) rfl rfl (Nat.le_of_ble_eq_true rfl) dX12_go_184 (fun H locs hP hD hS => ?_)
                            have hP : va_P (dC, dI) vwCl [(o, .inr (12, [.int kthrown, .ref ktape, .int (nI ktaped), .int (nI ksize), .int (nI klimit), .int (nI k4), .int (nI k4), .int (nI 1), .int knumber, .int y16, .int kfault, .int kplace, .long kword, .int ktold, .ref know, .ref kread, .ref kkept, .ref ksnaps, .ref kaside, .ref kname, .ref kreadName, .ref kkeptName, .ref kisKept, .ref konces, .int (nI ksnapMany), .int khasCells, .ref kpoured, .ref kfar, .ref ksides, .int (nI ksideMany), .int kwayDays, .int khasWay, .ref klines, .ref kmet, .int (nI kmetMany), .ref ksunk, .ref ktrying, .int (nI ksunkMany), .int ksending, .int kfleets, .ref ktext, .int (nI ktexts), .int kseed, .ref kline, .ref kwritten, .int (nI klineMany), .int khasWritten, .ref knode, .int (nI knodes), .int (nI konesMany), .int (nI kwithin), .int (nI ktop)])), (ktape, .inl (ky 0, 940, .inl ktapeF))] H := hP
                            have hD : va_D A [(o, .inr (12, [.int kthrown, .ref ktape, .int (nI ktaped), .int (nI ksize), .int (nI klimit), .int (nI k4), .int (nI k4), .int (nI 1), .int knumber, .int y16, .int kfault, .int kplace, .long kword, .int ktold, .ref know, .ref kread, .ref kkept, .ref ksnaps, .ref kaside, .ref kname, .ref kreadName, .ref kkeptName, .ref kisKept, .ref konces, .int (nI ksnapMany), .int khasCells, .ref kpoured, .ref kfar, .ref ksides, .int (nI ksideMany), .int kwayDays, .int khasWay, .ref klines, .ref kmet, .int (nI kmetMany), .ref ksunk, .ref ktrying, .int (nI ksunkMany), .int ksending, .int kfleets, .ref ktext, .int (nI ktexts), .int kseed, .ref kline, .ref kwritten, .int (nI klineMany), .int khasWritten, .ref knode, .int (nI knodes), .int (nI konesMany), .int (nI kwithin), .int (nI ktop)])), (ktape, .inl (ky 0, 940, .inl ktapeF))] := hD
                            refine lv_aload_n hx hb dX12_go_187 rfl (lv_at hl 1 rfl) ?_
                            refine lv_dup hx hb dX12_go_188 rfl ?_
                            refine va_get (D := (dC, dI)) (ci := 12) (v := .int (nI k4)) (C := RX12) (T := TX12) (N := 52) hx hb hts hin12 hown hK hP 0 rfl rfl 5 (by decide) (hts (.fieldLink RX12 21 "PorridgeSeaModel" "to" "I") (List.mem_of_getElem? (i := 1) rfl)) (fun _ h9 => h9) rfl dX12_go_189 ?_
                            refine lv_iconst (v := nI 1) hx hb dX12_go_192 (by decide) ?_
                            refine lv_iadd hx hb dX12_go_193 ?_
                            refine r_ti (nI (k4 + 1)) (nI_add _ _) ?_
                            refine va_put (D := (dC, dI)) (ci := 12) (v := .int (nI (k4 + 1))) (ty := .int) (C := RX12) (T := TX12) (N := 52) hx hb hts hin12 tyX12 tyX12_ok nmX12 hown hK hP hD hS 0 rfl rfl 5 (by decide) (hts (.fieldLink RX12 21 "PorridgeSeaModel" "to" "I") (List.mem_of_getElem? (i := 1) rfl)) (fun _ h9 => h9) rfl (by decide +kernel) rfl rfl (Nat.le_of_ble_eq_true rfl) dX12_go_194 (fun H locs hP hD hS => ?_)
                            have hP : va_P (dC, dI) vwCl [(o, .inr (12, [.int kthrown, .ref ktape, .int (nI ktaped), .int (nI ksize), .int (nI klimit), .int (nI (k4 + 1)), .int (nI k4), .int (nI 1), .int knumber, .int y16, .int kfault, .int kplace, .long kword, .int ktold, .ref know, .ref kread, .ref kkept, .ref ksnaps, .ref kaside, .ref kname, .ref kreadName, .ref kkeptName, .ref kisKept, .ref konces, .int (nI ksnapMany), .int khasCells, .ref kpoured, .ref kfar, .ref ksides, .int (nI ksideMany), .int kwayDays, .int khasWay, .ref klines, .ref kmet, .int (nI kmetMany), .ref ksunk, .ref ktrying, .int (nI ksunkMany), .int ksending, .int kfleets, .ref ktext, .int (nI ktexts), .int kseed, .ref kline, .ref kwritten, .int (nI klineMany), .int khasWritten, .ref knode, .int (nI knodes), .int (nI konesMany), .int (nI kwithin), .int (nI ktop)])), (ktape, .inl (ky 0, 940, .inl ktapeF))] H := hP
                            have hD : va_D A [(o, .inr (12, [.int kthrown, .ref ktape, .int (nI ktaped), .int (nI ksize), .int (nI klimit), .int (nI (k4 + 1)), .int (nI k4), .int (nI 1), .int knumber, .int y16, .int kfault, .int kplace, .long kword, .int ktold, .ref know, .ref kread, .ref kkept, .ref ksnaps, .ref kaside, .ref kname, .ref kreadName, .ref kkeptName, .ref kisKept, .ref konces, .int (nI ksnapMany), .int khasCells, .ref kpoured, .ref kfar, .ref ksides, .int (nI ksideMany), .int kwayDays, .int khasWay, .ref klines, .ref kmet, .int (nI kmetMany), .ref ksunk, .ref ktrying, .int (nI ksunkMany), .int ksending, .int kfleets, .ref ktext, .int (nI ktexts), .int kseed, .ref kline, .ref kwritten, .int (nI klineMany), .int khasWritten, .ref knode, .int (nI knodes), .int (nI konesMany), .int (nI kwithin), .int (nI ktop)])), (ktape, .inl (ky 0, 940, .inl ktapeF))] := hD
                            rw [hQ]
                            exact W.vret hx hb hr (fun t9 ht9 hW9 => ⟨⟨((k4 + 1), k4, nI 1, knumber, y16, kword), rfl, ⟨(lf_g_go_83 bt ksize klimit kto ktapeF gq k4 n8 y16 iv_ko_1 iv_ko_2 iv_ko_3 hTM hgq j5 j6 jSk hm10 jQ jM c15 e17 t18 t19 t24 t112 c196 c197 c198 c199 c200 c201), j5, (lf_g_go_84 bt ksize klimit kto knumber kword ktapeF gq k4 n8 y16 iv_ko_1 iv_ko_2 iv_ko_3 hTM hgq j5 j6 jSk hm10 jQ jM c15 e17 t18 t19 t24 t112 c196 c197 c198 c199 c200 c201)⟩, by rw [ht9]; exact hP, va_K.moved hW9.alike hK, hD⟩, hS.F ht9⟩) hS.2.2 dX12_go_197
                          · refine lv_iconst (v := nI 4) hx hb dX12_go_174 (by decide) ?_
                            refine lv_goto (tgt := 179) hx hb dX12_go_175 (by decide) ?_
                            refine va_put (D := (dC, dI)) (ci := 12) (v := .int (nI 4)) (ty := .int) (C := RX12) (T := TX12) (N := 52) hx hb hts hin12 tyX12 tyX12_ok nmX12 hown hK hP hD hS 0 rfl rfl 7 (by decide) (hts (.fieldLink RX12 30 "PorridgeSeaModel" "kind" "I") (List.mem_of_getElem? (i := 6) rfl)) (fun _ h9 => h9) rfl (by decide +kernel) rfl rfl (Nat.le_of_ble_eq_true rfl) dX12_go_179 (fun H locs hP hD hS => ?_)
                            have hP : va_P (dC, dI) vwCl [(o, .inr (12, [.int kthrown, .ref ktape, .int (nI ktaped), .int (nI ksize), .int (nI klimit), .int (nI k4), .int (nI k4), .int (nI 4), .int knumber, .int ksign, .int kfault, .int kplace, .long kword, .int ktold, .ref know, .ref kread, .ref kkept, .ref ksnaps, .ref kaside, .ref kname, .ref kreadName, .ref kkeptName, .ref kisKept, .ref konces, .int (nI ksnapMany), .int khasCells, .ref kpoured, .ref kfar, .ref ksides, .int (nI ksideMany), .int kwayDays, .int khasWay, .ref klines, .ref kmet, .int (nI kmetMany), .ref ksunk, .ref ktrying, .int (nI ksunkMany), .int ksending, .int kfleets, .ref ktext, .int (nI ktexts), .int kseed, .ref kline, .ref kwritten, .int (nI klineMany), .int khasWritten, .ref knode, .int (nI knodes), .int (nI konesMany), .int (nI kwithin), .int (nI ktop)])), (ktape, .inl (ky 0, 940, .inl ktapeF))] H := hP
                            have hD : va_D A [(o, .inr (12, [.int kthrown, .ref ktape, .int (nI ktaped), .int (nI ksize), .int (nI klimit), .int (nI k4), .int (nI k4), .int (nI 4), .int knumber, .int ksign, .int kfault, .int kplace, .long kword, .int ktold, .ref know, .ref kread, .ref kkept, .ref ksnaps, .ref kaside, .ref kname, .ref kreadName, .ref kkeptName, .ref kisKept, .ref konces, .int (nI ksnapMany), .int khasCells, .ref kpoured, .ref kfar, .ref ksides, .int (nI ksideMany), .int kwayDays, .int khasWay, .ref klines, .ref kmet, .int (nI kmetMany), .ref ksunk, .ref ktrying, .int (nI ksunkMany), .int ksending, .int kfleets, .ref ktext, .int (nI ktexts), .int kseed, .ref kline, .ref kwritten, .int (nI klineMany), .int khasWritten, .ref knode, .int (nI knodes), .int (nI konesMany), .int (nI kwithin), .int (nI ktop)])), (ktape, .inl (ky 0, 940, .inl ktapeF))] := hD
                            refine lv_aload_n hx hb dX12_go_182 rfl (lv_at hl 1 rfl) ?_
                            refine lv_iload_n hx hb dX12_go_183 rfl (lv_at hl 0 rfl) ?_
                            refine va_put (D := (dC, dI)) (ci := 12) (v := .int y16) (ty := .int) (C := RX12) (T := TX12) (N := 52) hx hb hts hin12 tyX12 tyX12_ok nmX12 hown hK hP hD hS 0 rfl rfl 9 (by decide) (hts (.fieldLink RX12 40 "PorridgeSeaModel" "sign" "I") (List.mem_of_getElem? (i := 7) rfl)) (fun _ h9 => h9) rfl (by decide +kernel) rfl rfl (Nat.le_of_ble_eq_true rfl) dX12_go_184 (fun H locs hP hD hS => ?_)
                            have hP : va_P (dC, dI) vwCl [(o, .inr (12, [.int kthrown, .ref ktape, .int (nI ktaped), .int (nI ksize), .int (nI klimit), .int (nI k4), .int (nI k4), .int (nI 4), .int knumber, .int y16, .int kfault, .int kplace, .long kword, .int ktold, .ref know, .ref kread, .ref kkept, .ref ksnaps, .ref kaside, .ref kname, .ref kreadName, .ref kkeptName, .ref kisKept, .ref konces, .int (nI ksnapMany), .int khasCells, .ref kpoured, .ref kfar, .ref ksides, .int (nI ksideMany), .int kwayDays, .int khasWay, .ref klines, .ref kmet, .int (nI kmetMany), .ref ksunk, .ref ktrying, .int (nI ksunkMany), .int ksending, .int kfleets, .ref ktext, .int (nI ktexts), .int kseed, .ref kline, .ref kwritten, .int (nI klineMany), .int khasWritten, .ref knode, .int (nI knodes), .int (nI konesMany), .int (nI kwithin), .int (nI ktop)])), (ktape, .inl (ky 0, 940, .inl ktapeF))] H := hP
                            have hD : va_D A [(o, .inr (12, [.int kthrown, .ref ktape, .int (nI ktaped), .int (nI ksize), .int (nI klimit), .int (nI k4), .int (nI k4), .int (nI 4), .int knumber, .int y16, .int kfault, .int kplace, .long kword, .int ktold, .ref know, .ref kread, .ref kkept, .ref ksnaps, .ref kaside, .ref kname, .ref kreadName, .ref kkeptName, .ref kisKept, .ref konces, .int (nI ksnapMany), .int khasCells, .ref kpoured, .ref kfar, .ref ksides, .int (nI ksideMany), .int kwayDays, .int khasWay, .ref klines, .ref kmet, .int (nI kmetMany), .ref ksunk, .ref ktrying, .int (nI ksunkMany), .int ksending, .int kfleets, .ref ktext, .int (nI ktexts), .int kseed, .ref kline, .ref kwritten, .int (nI klineMany), .int khasWritten, .ref knode, .int (nI knodes), .int (nI konesMany), .int (nI kwithin), .int (nI ktop)])), (ktape, .inl (ky 0, 940, .inl ktapeF))] := hD
                            refine lv_aload_n hx hb dX12_go_187 rfl (lv_at hl 1 rfl) ?_
                            refine lv_dup hx hb dX12_go_188 rfl ?_
                            refine va_get (D := (dC, dI)) (ci := 12) (v := .int (nI k4)) (C := RX12) (T := TX12) (N := 52) hx hb hts hin12 hown hK hP 0 rfl rfl 5 (by decide) (hts (.fieldLink RX12 21 "PorridgeSeaModel" "to" "I") (List.mem_of_getElem? (i := 1) rfl)) (fun _ h9 => h9) rfl dX12_go_189 ?_
                            refine lv_iconst (v := nI 1) hx hb dX12_go_192 (by decide) ?_
                            refine lv_iadd hx hb dX12_go_193 ?_
                            refine r_ti (nI (k4 + 1)) (nI_add _ _) ?_
                            refine va_put (D := (dC, dI)) (ci := 12) (v := .int (nI (k4 + 1))) (ty := .int) (C := RX12) (T := TX12) (N := 52) hx hb hts hin12 tyX12 tyX12_ok nmX12 hown hK hP hD hS 0 rfl rfl 5 (by decide) (hts (.fieldLink RX12 21 "PorridgeSeaModel" "to" "I") (List.mem_of_getElem? (i := 1) rfl)) (fun _ h9 => h9) rfl (by decide +kernel) rfl rfl (Nat.le_of_ble_eq_true rfl) dX12_go_194 (fun H locs hP hD hS => ?_)
                            have hP : va_P (dC, dI) vwCl [(o, .inr (12, [.int kthrown, .ref ktape, .int (nI ktaped), .int (nI ksize), .int (nI klimit), .int (nI (k4 + 1)), .int (nI k4), .int (nI 4), .int knumber, .int y16, .int kfault, .int kplace, .long kword, .int ktold, .ref know, .ref kread, .ref kkept, .ref ksnaps, .ref kaside, .ref kname, .ref kreadName, .ref kkeptName, .ref kisKept, .ref konces, .int (nI ksnapMany), .int khasCells, .ref kpoured, .ref kfar, .ref ksides, .int (nI ksideMany), .int kwayDays, .int khasWay, .ref klines, .ref kmet, .int (nI kmetMany), .ref ksunk, .ref ktrying, .int (nI ksunkMany), .int ksending, .int kfleets, .ref ktext, .int (nI ktexts), .int kseed, .ref kline, .ref kwritten, .int (nI klineMany), .int khasWritten, .ref knode, .int (nI knodes), .int (nI konesMany), .int (nI kwithin), .int (nI ktop)])), (ktape, .inl (ky 0, 940, .inl ktapeF))] H := hP
                            have hD : va_D A [(o, .inr (12, [.int kthrown, .ref ktape, .int (nI ktaped), .int (nI ksize), .int (nI klimit), .int (nI (k4 + 1)), .int (nI k4), .int (nI 4), .int knumber, .int y16, .int kfault, .int kplace, .long kword, .int ktold, .ref know, .ref kread, .ref kkept, .ref ksnaps, .ref kaside, .ref kname, .ref kreadName, .ref kkeptName, .ref kisKept, .ref konces, .int (nI ksnapMany), .int khasCells, .ref kpoured, .ref kfar, .ref ksides, .int (nI ksideMany), .int kwayDays, .int khasWay, .ref klines, .ref kmet, .int (nI kmetMany), .ref ksunk, .ref ktrying, .int (nI ksunkMany), .int ksending, .int kfleets, .ref ktext, .int (nI ktexts), .int kseed, .ref kline, .ref kwritten, .int (nI klineMany), .int khasWritten, .ref knode, .int (nI knodes), .int (nI konesMany), .int (nI kwithin), .int (nI ktop)])), (ktape, .inl (ky 0, 940, .inl ktapeF))] := hD
                            rw [hQ]
                            exact W.vret hx hb hr (fun t9 ht9 hW9 => ⟨⟨((k4 + 1), k4, nI 4, knumber, y16, kword), rfl, ⟨(lf_g_go_85 bt ksize klimit kto ktapeF gq k4 n8 y16 iv_ko_1 iv_ko_2 iv_ko_3 hTM hgq j5 j6 jSk hm10 jQ jM c15 e17 t18 t19 t24 t112 c196 c197 c198 c199 c200 c201), j5, (lf_g_go_86 bt ksize klimit kto knumber kword ktapeF gq k4 n8 y16 iv_ko_1 iv_ko_2 iv_ko_3 hTM hgq j5 j6 jSk hm10 jQ jM c15 e17 t18 t19 t24 t112 c196 c197 c198 c199 c200 c201)⟩, by rw [ht9]; exact hP, va_K.moved hW9.alike hK, hD⟩, hS.F ht9⟩) hS.2.2 dX12_go_197
          · refine lv_aload_n hx hb dX12_go_107 rfl (lv_at hl 0 rfl) ?_
            refine lv_iconst (v := nI 0) hx hb dX12_go_108 (by decide) ?_
            refine va_put (D := (dC, dI)) (ci := 12) (v := .int (nI 0)) (ty := .int) (C := RX12) (T := TX12) (N := 52) hx hb hts hin12 tyX12 tyX12_ok nmX12 hown hK hP hD hS 0 rfl rfl 7 (by decide) (hts (.fieldLink RX12 30 "PorridgeSeaModel" "kind" "I") (List.mem_of_getElem? (i := 6) rfl)) (fun _ h9 => h9) rfl (by decide +kernel) rfl rfl (Nat.le_of_ble_eq_true rfl) dX12_go_109 (fun H locs hP hD hS => ?_)
            have hP : va_P (dC, dI) vwCl [(o, .inr (12, [.int kthrown, .ref ktape, .int (nI ktaped), .int (nI ksize), .int (nI klimit), .int (nI k4), .int (nI k4), .int (nI 0), .int knumber, .int ksign, .int kfault, .int kplace, .long kword, .int ktold, .ref know, .ref kread, .ref kkept, .ref ksnaps, .ref kaside, .ref kname, .ref kreadName, .ref kkeptName, .ref kisKept, .ref konces, .int (nI ksnapMany), .int khasCells, .ref kpoured, .ref kfar, .ref ksides, .int (nI ksideMany), .int kwayDays, .int khasWay, .ref klines, .ref kmet, .int (nI kmetMany), .ref ksunk, .ref ktrying, .int (nI ksunkMany), .int ksending, .int kfleets, .ref ktext, .int (nI ktexts), .int kseed, .ref kline, .ref kwritten, .int (nI klineMany), .int khasWritten, .ref knode, .int (nI knodes), .int (nI konesMany), .int (nI kwithin), .int (nI ktop)])), (ktape, .inl (ky 0, 940, .inl ktapeF))] H := hP
            have hD : va_D A [(o, .inr (12, [.int kthrown, .ref ktape, .int (nI ktaped), .int (nI ksize), .int (nI klimit), .int (nI k4), .int (nI k4), .int (nI 0), .int knumber, .int ksign, .int kfault, .int kplace, .long kword, .int ktold, .ref know, .ref kread, .ref kkept, .ref ksnaps, .ref kaside, .ref kname, .ref kreadName, .ref kkeptName, .ref kisKept, .ref konces, .int (nI ksnapMany), .int khasCells, .ref kpoured, .ref kfar, .ref ksides, .int (nI ksideMany), .int kwayDays, .int khasWay, .ref klines, .ref kmet, .int (nI kmetMany), .ref ksunk, .ref ktrying, .int (nI ksunkMany), .int ksending, .int kfleets, .ref ktext, .int (nI ktexts), .int kseed, .ref kline, .ref kwritten, .int (nI klineMany), .int khasWritten, .ref knode, .int (nI knodes), .int (nI konesMany), .int (nI kwithin), .int (nI ktop)])), (ktape, .inl (ky 0, 940, .inl ktapeF))] := hD
            rw [hQ]
            exact W.vret hx hb hr (fun t9 ht9 hW9 => ⟨⟨(k4, k4, nI 0, knumber, ksign, kword), rfl, ⟨j6, j5, (lf_g_go_87 bt ksize klimit kto knumber ksign kword ktapeF gq k4 n8 iv_ko_1 iv_ko_2 iv_ko_3 hTM hgq j5 j6 jSk hm10 jQ jM c15)⟩, by rw [ht9]; exact hP, va_K.moved hW9.alike hK, hD⟩, hS.F ht9⟩) hS.2.2 dX12_go_112
        refine n_icmp_le (x := ksize) (y := klimit) (tgt := 96) hx hb (by omega) (by omega) dX12_go_68 (by decide) (fun c13 => ?_) (fun c13 => ?_)
        · exact hJ14  (lf_g_go_88 bt ksize klimit kto ktapeF gq k4 n8 iv_ko_1 iv_ko_2 iv_ko_3 hTM hgq j5 j6 jSk hm10 jQ c13) _ _ _ hP hD hS (lv_sub hl [0] rfl)
        · refine lv_aload_n hx hb dX12_go_71 rfl (lv_at hl 0 rfl) ?_
          refine va_get (D := (dC, dI)) (ci := 12) (v := .int (nI k4)) (C := RX12) (T := TX12) (N := 52) hx hb hts hin12 hown hK hP 0 rfl rfl 6 (by decide) (hts (.fieldLink RX12 24 "PorridgeSeaModel" "from" "I") (List.mem_of_getElem? (i := 4) rfl)) (fun _ h9 => h9) rfl dX12_go_72 ?_
          refine lv_aload_n hx hb dX12_go_75 rfl (lv_at hl 0 rfl) ?_
          refine va_get (D := (dC, dI)) (ci := 12) (v := .int (nI klimit)) (C := RX12) (T := TX12) (N := 52) hx hb hts hin12 hown hK hP 0 rfl rfl 4 (by decide) (hts (.fieldLink RX12 27 "PorridgeSeaModel" "limit" "I") (List.mem_of_getElem? (i := 5) rfl)) (fun _ h9 => h9) rfl dX12_go_76 ?_
          refine n_icmp_lt (x := k4) (y := klimit) (tgt := 96) hx hb (by omega) (by omega) dX12_go_79 (by decide) (fun c202 => ?_) (fun c202 => ?_)
          · exact hJ14  (lf_g_go_89 bt ksize klimit kto ktapeF gq k4 n8 iv_ko_1 iv_ko_2 iv_ko_3 hTM hgq j5 j6 jSk hm10 jQ c13 c202) _ _ _ hP hD hS (lv_sub hl [0] rfl)
          · refine lv_aload_n hx hb dX12_go_82 rfl (lv_at hl 0 rfl) ?_
            refine lv_aload_n hx hb dX12_go_83 rfl (lv_at hl 0 rfl) ?_
            refine va_get (D := (dC, dI)) (ci := 12) (v := .int (nI klimit)) (C := RX12) (T := TX12) (N := 52) hx hb hts hin12 hown hK hP 0 rfl rfl 4 (by decide) (hts (.fieldLink RX12 27 "PorridgeSeaModel" "limit" "I") (List.mem_of_getElem? (i := 5) rfl)) (fun _ h9 => h9) rfl dX12_go_84 ?_
            refine va_put (D := (dC, dI)) (ci := 12) (v := .int (nI klimit)) (ty := .int) (C := RX12) (T := TX12) (N := 52) hx hb hts hin12 tyX12 tyX12_ok nmX12 hown hK hP hD hS 0 rfl rfl 6 (by decide) (hts (.fieldLink RX12 24 "PorridgeSeaModel" "from" "I") (List.mem_of_getElem? (i := 4) rfl)) (fun _ h9 => h9) rfl (by decide +kernel) rfl rfl (Nat.le_of_ble_eq_true rfl) dX12_go_87 (fun H locs hP hD hS => ?_)
            have hP : va_P (dC, dI) vwCl [(o, .inr (12, [.int kthrown, .ref ktape, .int (nI ktaped), .int (nI ksize), .int (nI klimit), .int (nI k4), .int (nI klimit), .int kkind, .int knumber, .int ksign, .int kfault, .int kplace, .long kword, .int ktold, .ref know, .ref kread, .ref kkept, .ref ksnaps, .ref kaside, .ref kname, .ref kreadName, .ref kkeptName, .ref kisKept, .ref konces, .int (nI ksnapMany), .int khasCells, .ref kpoured, .ref kfar, .ref ksides, .int (nI ksideMany), .int kwayDays, .int khasWay, .ref klines, .ref kmet, .int (nI kmetMany), .ref ksunk, .ref ktrying, .int (nI ksunkMany), .int ksending, .int kfleets, .ref ktext, .int (nI ktexts), .int kseed, .ref kline, .ref kwritten, .int (nI klineMany), .int khasWritten, .ref knode, .int (nI knodes), .int (nI konesMany), .int (nI kwithin), .int (nI ktop)])), (ktape, .inl (ky 0, 940, .inl ktapeF))] H := hP
            have hD : va_D A [(o, .inr (12, [.int kthrown, .ref ktape, .int (nI ktaped), .int (nI ksize), .int (nI klimit), .int (nI k4), .int (nI klimit), .int kkind, .int knumber, .int ksign, .int kfault, .int kplace, .long kword, .int ktold, .ref know, .ref kread, .ref kkept, .ref ksnaps, .ref kaside, .ref kname, .ref kreadName, .ref kkeptName, .ref kisKept, .ref konces, .int (nI ksnapMany), .int khasCells, .ref kpoured, .ref kfar, .ref ksides, .int (nI ksideMany), .int kwayDays, .int khasWay, .ref klines, .ref kmet, .int (nI kmetMany), .ref ksunk, .ref ktrying, .int (nI ksunkMany), .int ksending, .int kfleets, .ref ktext, .int (nI ktexts), .int kseed, .ref kline, .ref kwritten, .int (nI klineMany), .int khasWritten, .ref knode, .int (nI knodes), .int (nI konesMany), .int (nI kwithin), .int (nI ktop)])), (ktape, .inl (ky 0, 940, .inl ktapeF))] := hD
            refine lv_aload_n hx hb dX12_go_90 rfl (lv_at hl 0 rfl) ?_
            refine lv_iconst (v := nI 1) hx hb dX12_go_91 (by decide) ?_
            refine va_put (D := (dC, dI)) (ci := 12) (v := .int (nI 1)) (ty := .int) (C := RX12) (T := TX12) (N := 52) hx hb hts hin12 tyX12 tyX12_ok nmX12 hown hK hP hD hS 0 rfl rfl 7 (by decide) (hts (.fieldLink RX12 30 "PorridgeSeaModel" "kind" "I") (List.mem_of_getElem? (i := 6) rfl)) (fun _ h9 => h9) rfl (by decide +kernel) rfl rfl (Nat.le_of_ble_eq_true rfl) dX12_go_92 (fun H locs hP hD hS => ?_)
            have hP : va_P (dC, dI) vwCl [(o, .inr (12, [.int kthrown, .ref ktape, .int (nI ktaped), .int (nI ksize), .int (nI klimit), .int (nI k4), .int (nI klimit), .int (nI 1), .int knumber, .int ksign, .int kfault, .int kplace, .long kword, .int ktold, .ref know, .ref kread, .ref kkept, .ref ksnaps, .ref kaside, .ref kname, .ref kreadName, .ref kkeptName, .ref kisKept, .ref konces, .int (nI ksnapMany), .int khasCells, .ref kpoured, .ref kfar, .ref ksides, .int (nI ksideMany), .int kwayDays, .int khasWay, .ref klines, .ref kmet, .int (nI kmetMany), .ref ksunk, .ref ktrying, .int (nI ksunkMany), .int ksending, .int kfleets, .ref ktext, .int (nI ktexts), .int kseed, .ref kline, .ref kwritten, .int (nI klineMany), .int khasWritten, .ref knode, .int (nI knodes), .int (nI konesMany), .int (nI kwithin), .int (nI ktop)])), (ktape, .inl (ky 0, 940, .inl ktapeF))] H := hP
            have hD : va_D A [(o, .inr (12, [.int kthrown, .ref ktape, .int (nI ktaped), .int (nI ksize), .int (nI klimit), .int (nI k4), .int (nI klimit), .int (nI 1), .int knumber, .int ksign, .int kfault, .int kplace, .long kword, .int ktold, .ref know, .ref kread, .ref kkept, .ref ksnaps, .ref kaside, .ref kname, .ref kreadName, .ref kkeptName, .ref kisKept, .ref konces, .int (nI ksnapMany), .int khasCells, .ref kpoured, .ref kfar, .ref ksides, .int (nI ksideMany), .int kwayDays, .int khasWay, .ref klines, .ref kmet, .int (nI kmetMany), .ref ksunk, .ref ktrying, .int (nI ksunkMany), .int ksending, .int kfleets, .ref ktext, .int (nI ktexts), .int kseed, .ref kline, .ref kwritten, .int (nI klineMany), .int khasWritten, .ref knode, .int (nI knodes), .int (nI konesMany), .int (nI kwithin), .int (nI ktop)])), (ktape, .inl (ky 0, 940, .inl ktapeF))] := hD
            rw [hQ]
            exact W.vret hx hb hr (fun t9 ht9 hW9 => ⟨⟨(k4, klimit, nI 1, knumber, ksign, kword), rfl, ⟨j6, (lf_g_go_90 bt ksize klimit kto ktapeF gq k4 n8 iv_ko_1 iv_ko_2 iv_ko_3 hTM hgq j5 j6 jSk hm10 jQ c13 c202), (lf_g_go_91 bt ksize klimit kto knumber ksign kword ktapeF gq k4 n8 iv_ko_1 iv_ko_2 iv_ko_3 hTM hgq j5 j6 jSk hm10 jQ c13 c202)⟩, by rw [ht9]; exact hP, va_K.moved hW9.alike hK, hD⟩, hS.F ht9⟩) hS.2.2 dX12_go_95
      refine n_icmp_ge (x := k4) (y := ksize) (tgt := 52) hx hb (by omega) (by omega) dX12_go_8 (by decide) (fun c11 => ?_) (fun c11 => ?_)
      · exact hJ12  (lf_g_go_92 bt ksize kto ktapeF gq k4 n8 iv_ko_1 iv_ko_3 hTM hgq j5 j6 jSk hm10 c11) _ _ _ hP hD hS (lv_sub hl [0] rfl)
      · refine lv_aload_n hx hb dX12_go_11 rfl (lv_at hl 0 rfl) ?_
        refine va_get (D := (dC, dI)) (ci := 12) (v := .ref ktape) (C := RX12) (T := TX12) (N := 52) hx hb hts hin12 hown hK hP 0 rfl rfl 1 (by decide) (hts (.fieldLink RX12 7 "PorridgeSeaModel" "tape" "[I") (List.mem_of_getElem? (i := 3) rfl)) (fun _ h9 => h9) rfl dX12_go_12 ?_
        refine lv_aload_n hx hb dX12_go_15 rfl (lv_at hl 0 rfl) ?_
        refine va_get (D := (dC, dI)) (ci := 12) (v := .int (nI k4)) (C := RX12) (T := TX12) (N := 52) hx hb hts hin12 hown hK hP 0 rfl rfl 5 (by decide) (hts (.fieldLink RX12 21 "PorridgeSeaModel" "to" "I") (List.mem_of_getElem? (i := 1) rfl)) (fun _ h9 => h9) rfl dX12_go_16 ?_
        obtain ⟨y203, e204⟩ : ∃ z9, z9 = ktapeF k4 := ⟨_, rfl⟩
        refine r_iald hx hb hK hP 1 rfl k4 (lf_g_go_93 bt ksize kto ktapeF gq k4 n8 y203 iv_ko_1 iv_ko_3 hTM hgq j5 j6 jSk hm10 c11 e204) (by decide) y203 e204.symm dX12_go_19 ?_
        obtain ⟨t205, t206⟩ : bt k4 < 256 ∧ (y203 = nI (bt k4)) := by rw [e204]; exact hTM k4 (lf_g_go_94 bt ksize kto ktapeF gq k4 n8 y203 iv_ko_1 iv_ko_3 hTM hgq j5 j6 jSk hm10 c11 e204)
        refine lv_bipush (v := nI 32) hx hb dX12_go_20 (by decide) ?_
        refine lv_icmp_eq (tgt := 39) hx hb dX12_go_22 (by decide) (fun c207 => ?_) (fun c207 => ?_)
        · refine lv_aload_n hx hb dX12_go_39 rfl (lv_at hl 0 rfl) ?_
          refine lv_dup hx hb dX12_go_40 rfl ?_
          refine va_get (D := (dC, dI)) (ci := 12) (v := .int (nI k4)) (C := RX12) (T := TX12) (N := 52) hx hb hts hin12 hown hK hP 0 rfl rfl 5 (by decide) (hts (.fieldLink RX12 21 "PorridgeSeaModel" "to" "I") (List.mem_of_getElem? (i := 1) rfl)) (fun _ h9 => h9) rfl dX12_go_41 ?_
          refine lv_iconst (v := nI 1) hx hb dX12_go_44 (by decide) ?_
          refine lv_iadd hx hb dX12_go_45 ?_
          refine r_ti (nI (k4 + 1)) (nI_add _ _) ?_
          refine va_put (D := (dC, dI)) (ci := 12) (v := .int (nI (k4 + 1))) (ty := .int) (C := RX12) (T := TX12) (N := 52) hx hb hts hin12 tyX12 tyX12_ok nmX12 hown hK hP hD hS 0 rfl rfl 5 (by decide) (hts (.fieldLink RX12 21 "PorridgeSeaModel" "to" "I") (List.mem_of_getElem? (i := 1) rfl)) (fun _ h9 => h9) rfl (by decide +kernel) rfl rfl (Nat.le_of_ble_eq_true rfl) dX12_go_46 (fun H locs hP hD hS => ?_)
          have hP : va_P (dC, dI) vwCl [(o, .inr (12, [.int kthrown, .ref ktape, .int (nI ktaped), .int (nI ksize), .int (nI klimit), .int (nI (k4 + 1)), .int (nI kfrom), .int kkind, .int knumber, .int ksign, .int kfault, .int kplace, .long kword, .int ktold, .ref know, .ref kread, .ref kkept, .ref ksnaps, .ref kaside, .ref kname, .ref kreadName, .ref kkeptName, .ref kisKept, .ref konces, .int (nI ksnapMany), .int khasCells, .ref kpoured, .ref kfar, .ref ksides, .int (nI ksideMany), .int kwayDays, .int khasWay, .ref klines, .ref kmet, .int (nI kmetMany), .ref ksunk, .ref ktrying, .int (nI ksunkMany), .int ksending, .int kfleets, .ref ktext, .int (nI ktexts), .int kseed, .ref kline, .ref kwritten, .int (nI klineMany), .int khasWritten, .ref knode, .int (nI knodes), .int (nI konesMany), .int (nI kwithin), .int (nI ktop)])), (ktape, .inl (ky 0, 940, .inl ktapeF))] H := hP
          have hD : va_D A [(o, .inr (12, [.int kthrown, .ref ktape, .int (nI ktaped), .int (nI ksize), .int (nI klimit), .int (nI (k4 + 1)), .int (nI kfrom), .int kkind, .int knumber, .int ksign, .int kfault, .int kplace, .long kword, .int ktold, .ref know, .ref kread, .ref kkept, .ref ksnaps, .ref kaside, .ref kname, .ref kreadName, .ref kkeptName, .ref kisKept, .ref konces, .int (nI ksnapMany), .int khasCells, .ref kpoured, .ref kfar, .ref ksides, .int (nI ksideMany), .int kwayDays, .int khasWay, .ref klines, .ref kmet, .int (nI kmetMany), .ref ksunk, .ref ktrying, .int (nI ksunkMany), .int ksending, .int kfleets, .ref ktext, .int (nI ktexts), .int kseed, .ref kline, .ref kwritten, .int (nI klineMany), .int khasWritten, .ref knode, .int (nI knodes), .int (nI konesMany), .int (nI kwithin), .int (nI ktop)])), (ktape, .inl (ky 0, 940, .inl ktapeF))] := hD
          refine lv_goto (tgt := 0) hx hb dX12_go_49 (by decide) ?_
          exact ih9 (k4 + 1) (lf_g_go_95 bt ksize kto ktapeF gq k4 n8 y203 iv_ko_1 iv_ko_3 hTM hgq j5 j6 jSk hm10 c11 e204 t205 t206 c207) (lf_g_go_96 bt ksize kto ktapeF gq k4 n8 y203 iv_ko_1 iv_ko_3 hTM hgq j5 j6 jSk hm10 c11 e204 t205 t206 c207) (lf_g_go_97 bt ksize kto ktapeF gq k4 n8 y203 iv_ko_1 iv_ko_3 hTM hgq j5 j6 jSk hm10 c11 e204 t205 t206 c207) (lf_g_go_98 bt ksize kto ktapeF gq k4 n8 y203 iv_ko_1 iv_ko_3 hTM hgq j5 j6 jSk hm10 c11 e204 t205 t206 c207) _ _ _ hP hD hS (lv_sub hl [0] rfl)
        · refine lv_aload_n hx hb dX12_go_25 rfl (lv_at hl 0 rfl) ?_
          refine va_get (D := (dC, dI)) (ci := 12) (v := .ref ktape) (C := RX12) (T := TX12) (N := 52) hx hb hts hin12 hown hK hP 0 rfl rfl 1 (by decide) (hts (.fieldLink RX12 7 "PorridgeSeaModel" "tape" "[I") (List.mem_of_getElem? (i := 3) rfl)) (fun _ h9 => h9) rfl dX12_go_26 ?_
          refine lv_aload_n hx hb dX12_go_29 rfl (lv_at hl 0 rfl) ?_
          refine va_get (D := (dC, dI)) (ci := 12) (v := .int (nI k4)) (C := RX12) (T := TX12) (N := 52) hx hb hts hin12 hown hK hP 0 rfl rfl 5 (by decide) (hts (.fieldLink RX12 21 "PorridgeSeaModel" "to" "I") (List.mem_of_getElem? (i := 1) rfl)) (fun _ h9 => h9) rfl dX12_go_30 ?_
          obtain ⟨y208, e209⟩ : ∃ z9, z9 = ktapeF k4 := ⟨_, rfl⟩
          refine r_iald hx hb hK hP 1 rfl k4 (lf_g_go_99 bt ksize kto ktapeF gq k4 n8 y203 y208 iv_ko_1 iv_ko_3 hTM hgq j5 j6 jSk hm10 c11 e204 t205 t206 c207 e209) (by decide) y208 e209.symm dX12_go_33 ?_
          obtain ⟨t210, t211⟩ : bt k4 < 256 ∧ (y208 = nI (bt k4)) := by rw [e209]; exact hTM k4 (lf_g_go_100 bt ksize kto ktapeF gq k4 n8 y203 y208 iv_ko_1 iv_ko_3 hTM hgq j5 j6 jSk hm10 c11 e204 t205 t206 c207 e209)
          refine lv_bipush (v := nI 10) hx hb dX12_go_34 (by decide) ?_
          refine lv_icmp_ne (tgt := 52) hx hb dX12_go_36 (by decide) (fun c212 => ?_) (fun c212 => ?_)
          · exact hJ12  (lf_g_go_101 bt ksize kto ktapeF gq k4 n8 y203 y208 iv_ko_1 iv_ko_3 hTM hgq j5 j6 jSk hm10 c11 e204 t205 t206 c207 e209 t210 t211 c212) _ _ _ hP hD hS (lv_sub hl [0] rfl)
          · refine lv_aload_n hx hb dX12_go_39 rfl (lv_at hl 0 rfl) ?_
            refine lv_dup hx hb dX12_go_40 rfl ?_
            refine va_get (D := (dC, dI)) (ci := 12) (v := .int (nI k4)) (C := RX12) (T := TX12) (N := 52) hx hb hts hin12 hown hK hP 0 rfl rfl 5 (by decide) (hts (.fieldLink RX12 21 "PorridgeSeaModel" "to" "I") (List.mem_of_getElem? (i := 1) rfl)) (fun _ h9 => h9) rfl dX12_go_41 ?_
            refine lv_iconst (v := nI 1) hx hb dX12_go_44 (by decide) ?_
            refine lv_iadd hx hb dX12_go_45 ?_
            refine r_ti (nI (k4 + 1)) (nI_add _ _) ?_
            refine va_put (D := (dC, dI)) (ci := 12) (v := .int (nI (k4 + 1))) (ty := .int) (C := RX12) (T := TX12) (N := 52) hx hb hts hin12 tyX12 tyX12_ok nmX12 hown hK hP hD hS 0 rfl rfl 5 (by decide) (hts (.fieldLink RX12 21 "PorridgeSeaModel" "to" "I") (List.mem_of_getElem? (i := 1) rfl)) (fun _ h9 => h9) rfl (by decide +kernel) rfl rfl (Nat.le_of_ble_eq_true rfl) dX12_go_46 (fun H locs hP hD hS => ?_)
            have hP : va_P (dC, dI) vwCl [(o, .inr (12, [.int kthrown, .ref ktape, .int (nI ktaped), .int (nI ksize), .int (nI klimit), .int (nI (k4 + 1)), .int (nI kfrom), .int kkind, .int knumber, .int ksign, .int kfault, .int kplace, .long kword, .int ktold, .ref know, .ref kread, .ref kkept, .ref ksnaps, .ref kaside, .ref kname, .ref kreadName, .ref kkeptName, .ref kisKept, .ref konces, .int (nI ksnapMany), .int khasCells, .ref kpoured, .ref kfar, .ref ksides, .int (nI ksideMany), .int kwayDays, .int khasWay, .ref klines, .ref kmet, .int (nI kmetMany), .ref ksunk, .ref ktrying, .int (nI ksunkMany), .int ksending, .int kfleets, .ref ktext, .int (nI ktexts), .int kseed, .ref kline, .ref kwritten, .int (nI klineMany), .int khasWritten, .ref knode, .int (nI knodes), .int (nI konesMany), .int (nI kwithin), .int (nI ktop)])), (ktape, .inl (ky 0, 940, .inl ktapeF))] H := hP
            have hD : va_D A [(o, .inr (12, [.int kthrown, .ref ktape, .int (nI ktaped), .int (nI ksize), .int (nI klimit), .int (nI (k4 + 1)), .int (nI kfrom), .int kkind, .int knumber, .int ksign, .int kfault, .int kplace, .long kword, .int ktold, .ref know, .ref kread, .ref kkept, .ref ksnaps, .ref kaside, .ref kname, .ref kreadName, .ref kkeptName, .ref kisKept, .ref konces, .int (nI ksnapMany), .int khasCells, .ref kpoured, .ref kfar, .ref ksides, .int (nI ksideMany), .int kwayDays, .int khasWay, .ref klines, .ref kmet, .int (nI kmetMany), .ref ksunk, .ref ktrying, .int (nI ksunkMany), .int ksending, .int kfleets, .ref ktext, .int (nI ktexts), .int kseed, .ref kline, .ref kwritten, .int (nI klineMany), .int khasWritten, .ref knode, .int (nI knodes), .int (nI konesMany), .int (nI kwithin), .int (nI ktop)])), (ktape, .inl (ky 0, 940, .inl ktapeF))] := hD
            refine lv_goto (tgt := 0) hx hb dX12_go_49 (by decide) ?_
            exact ih9 (k4 + 1) (lf_g_go_102 bt ksize kto ktapeF gq k4 n8 y203 y208 iv_ko_1 iv_ko_3 hTM hgq j5 j6 jSk hm10 c11 e204 t205 t206 c207 e209 t210 t211 c212) (lf_g_go_103 bt ksize kto ktapeF gq k4 n8 y203 y208 iv_ko_1 iv_ko_3 hTM hgq j5 j6 jSk hm10 c11 e204 t205 t206 c207 e209 t210 t211 c212) (lf_g_go_104 bt ksize kto ktapeF gq k4 n8 y203 y208 iv_ko_1 iv_ko_3 hTM hgq j5 j6 jSk hm10 c11 e204 t205 t206 c207 e209 t210 t211 c212) (lf_g_go_105 bt ksize kto ktapeF gq k4 n8 y203 y208 iv_ko_1 iv_ko_3 hTM hgq j5 j6 jSk hm10 c11 e204 t205 t206 c207 e209 t210 t211 c212) _ _ _ hP hD hS (lv_sub hl [0] rfl)
  exact hL7 ((940 - kto) + 1) kto (lf_g_go_106 ksize kto gq iv_ko_1 iv_ko_3 hgq) iv_ko_3 (lf_g_go_107 bt ksize kto ktapeF gq iv_ko_1 iv_ko_3 hTM hgq) (Nat.lt_succ_self _) _ _ _ hP hD hS (lv_sub hl [0] rfl)
