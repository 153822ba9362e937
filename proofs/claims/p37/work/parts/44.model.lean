theorem upd_ne {f : Nat → Int32} {i j : Nat} {v : Int32} (h : j ≠ i) : upd f i v j = f j := by
  unfold upd
  rw [if_neg h]
theorem upd_eq {f : Nat → Int32} {i : Nat} {v : Int32} : upd f i v i = v := by
  unfold upd
  rw [if_pos rfl]
theorem ten_d : ∀ a, a < 100 → ∀ b, b < 10 → (nI 10 * nI a + nI (48 + b) - nI 48).toInt = 10 * (a : Int) + b := by decide +kernel
theorem ten_step (x d : Int32) : (x.toInt < 0 ∨ 99 < x.toInt ∨ d.toInt < 48 ∨ 57 < d.toInt) ∨ (nI 10 * x + d - nI 48).toInt = 10 * x.toInt + d.toInt - 48 := by
  by_cases h : x.toInt < 0 ∨ 99 < x.toInt ∨ d.toInt < 48 ∨ 57 < d.toInt
  · exact Or.inl h
  · refine Or.inr ?_
    obtain ⟨a, ha, rfl⟩ := nat_of x 100 (by decide) ⟨by omega, by omega⟩
    obtain ⟨n, hn, rfl⟩ := nat_of d 58 (by decide) ⟨by omega, by omega⟩
    have k1 := ia_n a (by omega)
    have k2 := ia_n n (by omega)
    obtain ⟨b, rfl⟩ : ∃ b, n = 48 + b := ⟨n - 48, by omega⟩
    have h3 := ten_d a ha b (by omega)
    rw [h3, k1, k2]
    omega
set_option maxRecDepth 20000 in
theorem lf_x_tapeAtE_1 (ksize : Nat) (kto : Nat) (ktapeF : Nat → Int32) (p9 : Nat) (iv_ko_1 : ksize ≤ 940) (iv_ko_3 : kto ≤ ksize) (hp : p9 ≤ 940) (c1 : ksize ≤ p9) : (p9 < ksize ∧ (nI 0) = ktapeF p9) ∨ (ksize ≤ p9 ∧ (nI 0) = nI 0) := by
  try have k_0 := ia_n 0 (by first | decide | omega)
  try simp only [ia_lt, ia_le, ia_eq, ia_m1, ia_0, ia_1, ne_eq, true_and, and_true, false_and, and_false, or_false, false_or, or_true, true_or, not_true_eq_false, not_false_eq_true] at *
  all_goals omega
set_option maxRecDepth 20000 in
theorem lf_x_tapeAtE_2 (ksize : Nat) (kto : Nat) (ktapeF : Nat → Int32) (p9 : Nat) (y2 : Int32) (iv_ko_1 : ksize ≤ 940) (iv_ko_3 : kto ≤ ksize) (hp : p9 ≤ 940) (c1 : p9 < ksize) (e3 : y2 = ktapeF p9) : (p9 < ksize ∧ y2 = ktapeF p9) ∨ (ksize ≤ p9 ∧ y2 = nI 0) := by
  have b_y2 := ia_b y2
  try have k_0 := ia_n 0 (by first | decide | omega)
  try simp only [ia_lt, ia_le, ia_eq, ia_m1, ia_0, ia_1, ne_eq, true_and, and_true, false_and, and_false, or_false, false_or, or_true, true_or, not_true_eq_false, not_false_eq_true] at *
  all_goals omega
set_option maxHeartbeats 4000000 in
set_option maxRecDepth 100000 in
theorem c_x_tapeAtE (l : Launch) (dC : Nat → ClassId) (dI : Nat → Nat → Nat) (ky : Nat → ClassId) (o : Nat) (kthrown : Int32) (ktape : Nat) (ktaped : Nat) (ksize : Nat) (klimit : Nat) (kto : Nat) (kfrom : Nat) (kkind : Int32) (knumber : Int32) (ksign : Int32) (kfault : Int32) (kplace : Int32) (kword : Int64) (ktold : Int32) (know : Nat) (kread : Nat) (kkept : Nat) (ksnaps : Nat) (kaside : Nat) (kname : Nat) (kreadName : Nat) (kkeptName : Nat) (kisKept : Nat) (konces : Nat) (ksnapMany : Nat) (khasCells : Int32) (kpoured : Nat) (kfar : Nat) (ksides : Nat) (ksideMany : Nat) (kwayDays : Int32) (khasWay : Int32) (klines : Nat) (kmet : Nat) (kmetMany : Nat) (ksunk : Nat) (ktrying : Nat) (ksunkMany : Nat) (ksending : Int32) (kfleets : Int32) (ktext : Nat) (ktexts : Nat) (kseed : Int32) (kline : Nat) (kwritten : Nat) (klineMany : Nat) (khasWritten : Int32) (knode : Nat) (knodes : Nat) (konesMany : Nat) (kwithin : Nat) (ktop : Nat) (ktapeF : Nat → Int32) (p9 : Nat) (iv_ko_0 : ktaped ≤ 940) (iv_ko_1 : ksize ≤ 940) (iv_ko_2 : klimit ≤ 900) (iv_ko_3 : kto ≤ ksize) (iv_ko_4 : kfrom ≤ 940) (iv_ko_5 : ksnapMany ≤ 8) (iv_ko_6 : ksideMany ≤ 36) (iv_ko_7 : kmetMany ≤ 3) (iv_ko_8 : ksunkMany ≤ 36) (iv_ko_9 : ktexts ≤ 64) (iv_ko_10 : klineMany ≤ 40) (iv_ko_11 : knodes ≤ 60) (iv_ko_12 : konesMany ≤ 20) (iv_ko_13 : kwithin ≤ 8) (iv_ko_14 : ktop ≤ 59) (hp : p9 ≤ 940) : Met l yX12_tapeAt wsX12_tapeAt ({ frames := 0, cells := 0, slots := 0, locals := 0 }) (PcP dC dI ky [.ref o, .int (nI p9)] [(o, .inr (12, [.int kthrown, .ref ktape, .int (nI ktaped), .int (nI ksize), .int (nI klimit), .int (nI kto), .int (nI kfrom), .int kkind, .int knumber, .int ksign, .int kfault, .int kplace, .long kword, .int ktold, .ref know, .ref kread, .ref kkept, .ref ksnaps, .ref kaside, .ref kname, .ref kreadName, .ref kkeptName, .ref kisKept, .ref konces, .int (nI ksnapMany), .int khasCells, .ref kpoured, .ref kfar, .ref ksides, .int (nI ksideMany), .int kwayDays, .int khasWay, .ref klines, .ref kmet, .int (nI kmetMany), .ref ksunk, .ref ktrying, .int (nI ksunkMany), .int ksending, .int kfleets, .ref ktext, .int (nI ktexts), .int kseed, .ref kline, .ref kwritten, .int (nI klineMany), .int khasWritten, .ref knode, .int (nI knodes), .int (nI konesMany), .int (nI kwithin), .int (nI ktop)])), (ktape, .inl (ky 0, 940, .inl ktapeF))]) (vp_Si (fun r : Int32 => (p9 < ksize ∧ r = ktapeF p9) ∨ (ksize ≤ p9 ∧ r = nI 0))) 0 0 (fun _ => False) := by
  refine Met.ofW (cc := cX12_tapeAt) (maxL := 2) (ret := (some .int)) (by decide) rfl ?_
  intro p e s m args below meth c s₁ B hml hv
  obtain ⟨rfl, hP, hK⟩ := hv
  have hx := B.exec
  have hb := B.bytes
  have hr := B.returns
  have hts := atoms_spec (ws := wsX12_tapeAt) B.pre
  have hown : s.vm.findClass RX12 = some m.cls := findClass_of_methodNamed B.named
  have hlocks := B.notSynchronized
  have hin12 : ∀ w ∈ u_ws RX12 TX12 52, w ∈ wsX12_tapeAt := by decide +kernel
  have hl := lv_entry ([.ref o, .int (nI p9)]) (n := 2) (Nat.le_of_ble_eq_true rfl)
  rw [lg_entry_eq]
  generalize (lg_sl ([.ref o, .int (nI p9)]) ++ List.replicate (2 - (lg_sl ([.ref o, .int (nI p9)])).length) Slot.unset).toArray = ls at hl ⊢
  have hl : lv_has ls 2 [(0, .ref o), (1, .int (nI p9))] := hl
  refine q_name (fun Q hQ => ?_)
  generalize ([.ref o, .int (nI p9)] : List Value).toArray = args at hts hQ ⊢
  refine lv_iload_n hx hb dX12_tapeAt_0 rfl (lv_at hl 1 rfl) ?_
  refine lv_aload_n hx hb dX12_tapeAt_1 rfl (lv_at hl 0 rfl) ?_
  refine va_get (D := (dC, dI)) (ci := 12) (v := .int (nI ksize)) (C := RX12) (T := TX12) (N := 52) hx hb hts hin12 hown hK hP 0 rfl rfl 3 (by decide) (hts (.fieldLink RX12 18 "PorridgeSeaModel" "size" "I") (List.mem_of_getElem? (i := 1) rfl)) (fun _ h9 => h9) rfl dX12_tapeAt_2 ?_
  refine n_icmp_ge (x := p9) (y := ksize) (tgt := 17) hx hb (by omega) (by omega) dX12_tapeAt_5 (by decide) (fun c1 => ?_) (fun c1 => ?_)
  · refine lv_iconst (v := nI 0) hx hb dX12_tapeAt_17 (by decide) ?_
    rw [hQ]
    exact W.iret (v := nI 0) hx hb hr (fun t9 ht9 hW9 => ⟨nI 0, rfl, (lf_x_tapeAtE_1 ksize kto ktapeF p9 iv_ko_1 iv_ko_3 hp c1), ht9⟩) (fun _ h => absurd h List.not_mem_nil) dX12_tapeAt_18
  · refine lv_aload_n hx hb dX12_tapeAt_8 rfl (lv_at hl 0 rfl) ?_
    refine va_get (D := (dC, dI)) (ci := 12) (v := .ref ktape) (C := RX12) (T := TX12) (N := 52) hx hb hts hin12 hown hK hP 0 rfl rfl 1 (by decide) (hts (.fieldLink RX12 7 "PorridgeSeaModel" "tape" "[I") (List.mem_of_getElem? (i := 2) rfl)) (fun _ h9 => h9) rfl dX12_tapeAt_9 ?_
    refine lv_iload_n hx hb dX12_tapeAt_12 rfl (lv_at hl 1 rfl) ?_
    obtain ⟨y2, e3⟩ : ∃ z9, z9 = ktapeF p9 := ⟨_, rfl⟩
    refine r_iald hx hb hK hP 1 rfl p9 (by omega) (by decide) y2 e3.symm dX12_tapeAt_13 ?_
    refine lv_goto (tgt := 18) hx hb dX12_tapeAt_14 (by decide) ?_
    rw [hQ]
    exact W.iret (v := y2) hx hb hr (fun t9 ht9 hW9 => ⟨y2, rfl, (lf_x_tapeAtE_2 ksize kto ktapeF p9 y2 iv_ko_1 iv_ko_3 hp c1 e3), ht9⟩) (fun _ h => absurd h List.not_mem_nil) dX12_tapeAt_18
set_option maxRecDepth 20000 in
theorem lf_x_isDigitB_1   : (nI 0) = nI 0 ∨ (nI 0) = nI 1 := by
  try have k_0 := ia_n 0 (by first | decide | omega)
  try have k_1 := ia_n 1 (by first | decide | omega)
  try simp only [ia_lt, ia_le, ia_eq, ia_m1, ia_0, ia_1, ne_eq, true_and, and_true, false_and, and_false, or_false, false_or, or_true, true_or, not_true_eq_false, not_false_eq_true] at *
  all_goals omega
set_option maxRecDepth 20000 in
theorem lf_x_isDigitB_2   : (nI 0) = nI 0 ∨ (nI 0) = nI 1 := by
  try have k_0 := ia_n 0 (by first | decide | omega)
  try have k_1 := ia_n 1 (by first | decide | omega)
  try simp only [ia_lt, ia_le, ia_eq, ia_m1, ia_0, ia_1, ne_eq, true_and, and_true, false_and, and_false, or_false, false_or, or_true, true_or, not_true_eq_false, not_false_eq_true] at *
  all_goals omega
set_option maxRecDepth 20000 in
theorem lf_x_isDigitB_3   : (nI 1) = nI 0 ∨ (nI 1) = nI 1 := by
  try have k_0 := ia_n 1 (by first | decide | omega)
  try have k_1 := ia_n 0 (by first | decide | omega)
  try simp only [ia_lt, ia_le, ia_eq, ia_m1, ia_0, ia_1, ne_eq, true_and, and_true, false_and, and_false, or_false, false_or, or_true, true_or, not_true_eq_false, not_false_eq_true] at *
  all_goals omega
set_option maxHeartbeats 4000000 in
set_option maxRecDepth 100000 in
theorem c_x_isDigitB (l : Launch) (dC : Nat → ClassId) (dI : Nat → Nat → Nat) (ky : Nat → ClassId) (x : Int32)  : Met l yX12_isDigit wsX12_isDigit ({ frames := 0, cells := 0, slots := 0, locals := 0 }) (PcP dC dI ky [.int x] []) (vp_Si (fun r : Int32 => r = nI 0 ∨ r = nI 1)) 0 0 (fun _ => False) := by
  refine Met.ofW (cc := cX12_isDigit) (maxL := 1) (ret := (some .boolean)) (by decide) rfl ?_
  intro p e s m args below meth c s₁ B hml hv
  obtain ⟨rfl, hP, hK⟩ := hv
  have hx := B.exec
  have hb := B.bytes
  have hr := B.returns
  have hts := atoms_spec (ws := wsX12_isDigit) B.pre
  have hown : s.vm.findClass RX12 = some m.cls := findClass_of_methodNamed B.named
  have hlocks := B.notSynchronized
  have hl := lv_entry ([.int x]) (n := 1) (Nat.le_of_ble_eq_true rfl)
  rw [lg_entry_eq]
  generalize (lg_sl ([.int x]) ++ List.replicate (1 - (lg_sl ([.int x])).length) Slot.unset).toArray = ls at hl ⊢
  have hl : lv_has ls 1 [(0, .int x)] := hl
  refine q_name (fun Q hQ => ?_)
  generalize ([.int x] : List Value).toArray = args at hts hQ ⊢
  refine lv_iload_n hx hb dX12_isDigit_0 rfl (lv_at hl 0 rfl) ?_
  refine lv_bipush (v := nI 48) hx hb dX12_isDigit_1 (by decide) ?_
  refine lv_icmp_lt (tgt := 16) hx hb dX12_isDigit_3 (by decide) (fun c1 => ?_) (fun c1 => ?_)
  · refine lv_iconst (v := nI 0) hx hb dX12_isDigit_16 (by decide) ?_
    rw [hQ]
    exact W.zret (v := nI 0) hx hb hr (by decide) (fun t9 ht9 hW9 => ⟨nI 0, rfl, (lf_x_isDigitB_1), ht9⟩) (fun _ h => absurd h List.not_mem_nil) dX12_isDigit_17
  · refine lv_iload_n hx hb dX12_isDigit_6 rfl (lv_at hl 0 rfl) ?_
    refine lv_bipush (v := nI 57) hx hb dX12_isDigit_7 (by decide) ?_
    refine lv_icmp_gt (tgt := 16) hx hb dX12_isDigit_9 (by decide) (fun c2 => ?_) (fun c2 => ?_)
    · refine lv_iconst (v := nI 0) hx hb dX12_isDigit_16 (by decide) ?_
      rw [hQ]
      exact W.zret (v := nI 0) hx hb hr (by decide) (fun t9 ht9 hW9 => ⟨nI 0, rfl, (lf_x_isDigitB_2), ht9⟩) (fun _ h => absurd h List.not_mem_nil) dX12_isDigit_17
    · refine lv_iconst (v := nI 1) hx hb dX12_isDigit_12 (by decide) ?_
      refine lv_goto (tgt := 17) hx hb dX12_isDigit_13 (by decide) ?_
      rw [hQ]
      exact W.zret (v := nI 1) hx hb hr (by decide) (fun t9 ht9 hW9 => ⟨nI 1, rfl, (lf_x_isDigitB_3), ht9⟩) (fun _ h => absurd h List.not_mem_nil) dX12_isDigit_17
set_option maxRecDepth 20000 in
theorem lf_x_isLetterB_1   : (nI 0) = nI 0 ∨ (nI 0) = nI 1 := by
  try have k_0 := ia_n 0 (by first | decide | omega)
  try have k_1 := ia_n 1 (by first | decide | omega)
  try simp only [ia_lt, ia_le, ia_eq, ia_m1, ia_0, ia_1, ne_eq, true_and, and_true, false_and, and_false, or_false, false_or, or_true, true_or, not_true_eq_false, not_false_eq_true] at *
  all_goals omega
set_option maxRecDepth 20000 in
theorem lf_x_isLetterB_2   : (nI 0) = nI 0 ∨ (nI 0) = nI 1 := by
  try have k_0 := ia_n 0 (by first | decide | omega)
  try have k_1 := ia_n 1 (by first | decide | omega)
  try simp only [ia_lt, ia_le, ia_eq, ia_m1, ia_0, ia_1, ne_eq, true_and, and_true, false_and, and_false, or_false, false_or, or_true, true_or, not_true_eq_false, not_false_eq_true] at *
  all_goals omega
set_option maxRecDepth 20000 in
theorem lf_x_isLetterB_3   : (nI 1) = nI 0 ∨ (nI 1) = nI 1 := by
  try have k_0 := ia_n 1 (by first | decide | omega)
  try have k_1 := ia_n 0 (by first | decide | omega)
  try simp only [ia_lt, ia_le, ia_eq, ia_m1, ia_0, ia_1, ne_eq, true_and, and_true, false_and, and_false, or_false, false_or, or_true, true_or, not_true_eq_false, not_false_eq_true] at *
  all_goals omega
set_option maxHeartbeats 4000000 in
set_option maxRecDepth 100000 in
theorem c_x_isLetterB (l : Launch) (dC : Nat → ClassId) (dI : Nat → Nat → Nat) (ky : Nat → ClassId) (x : Int32)  : Met l yX12_isLetter wsX12_isLetter ({ frames := 0, cells := 0, slots := 0, locals := 0 }) (PcP dC dI ky [.int x] []) (vp_Si (fun r : Int32 => r = nI 0 ∨ r = nI 1)) 0 0 (fun _ => False) := by
  refine Met.ofW (cc := cX12_isLetter) (maxL := 1) (ret := (some .boolean)) (by decide) rfl ?_
  intro p e s m args below meth c s₁ B hml hv
  obtain ⟨rfl, hP, hK⟩ := hv
  have hx := B.exec
  have hb := B.bytes
  have hr := B.returns
  have hts := atoms_spec (ws := wsX12_isLetter) B.pre
  have hown : s.vm.findClass RX12 = some m.cls := findClass_of_methodNamed B.named
  have hlocks := B.notSynchronized
  have hl := lv_entry ([.int x]) (n := 1) (Nat.le_of_ble_eq_true rfl)
  rw [lg_entry_eq]
  generalize (lg_sl ([.int x]) ++ List.replicate (1 - (lg_sl ([.int x])).length) Slot.unset).toArray = ls at hl ⊢
  have hl : lv_has ls 1 [(0, .int x)] := hl
  refine q_name (fun Q hQ => ?_)
  generalize ([.int x] : List Value).toArray = args at hts hQ ⊢
  refine lv_iload_n hx hb dX12_isLetter_0 rfl (lv_at hl 0 rfl) ?_
  refine lv_bipush (v := nI 97) hx hb dX12_isLetter_1 (by decide) ?_
  refine lv_icmp_lt (tgt := 16) hx hb dX12_isLetter_3 (by decide) (fun c1 => ?_) (fun c1 => ?_)
  · refine lv_iconst (v := nI 0) hx hb dX12_isLetter_16 (by decide) ?_
    rw [hQ]
    exact W.zret (v := nI 0) hx hb hr (by decide) (fun t9 ht9 hW9 => ⟨nI 0, rfl, (lf_x_isLetterB_1), ht9⟩) (fun _ h => absurd h List.not_mem_nil) dX12_isLetter_17
  · refine lv_iload_n hx hb dX12_isLetter_6 rfl (lv_at hl 0 rfl) ?_
    refine lv_bipush (v := nI 122) hx hb dX12_isLetter_7 (by decide) ?_
    refine lv_icmp_gt (tgt := 16) hx hb dX12_isLetter_9 (by decide) (fun c2 => ?_) (fun c2 => ?_)
    · refine lv_iconst (v := nI 0) hx hb dX12_isLetter_16 (by decide) ?_
      rw [hQ]
      exact W.zret (v := nI 0) hx hb hr (by decide) (fun t9 ht9 hW9 => ⟨nI 0, rfl, (lf_x_isLetterB_2), ht9⟩) (fun _ h => absurd h List.not_mem_nil) dX12_isLetter_17
    · refine lv_iconst (v := nI 1) hx hb dX12_isLetter_12 (by decide) ?_
      refine lv_goto (tgt := 17) hx hb dX12_isLetter_13 (by decide) ?_
      rw [hQ]
      exact W.zret (v := nI 1) hx hb hr (by decide) (fun t9 ht9 hW9 => ⟨nI 1, rfl, (lf_x_isLetterB_3), ht9⟩) (fun _ h => absurd h List.not_mem_nil) dX12_isLetter_17
set_option maxRecDepth 20000 in
theorem lf_x_isDigitE_1 (x : Int32) (c1 : x < nI 48) : ((nI 0) = nI 1 ∧ (48 ≤ x.toInt ∧ x.toInt ≤ 57)) ∨ ((nI 0) = nI 0 ∧ (¬ (48 ≤ x.toInt ∧ x.toInt ≤ 57))) := by
  have b_x := ia_b x
  try have k_0 := ia_n 48 (by first | decide | omega)
  try have k_1 := ia_n 0 (by first | decide | omega)
  try have k_2 := ia_n 1 (by first | decide | omega)
  try simp only [ia_lt, ia_le, ia_eq, ia_m1, ia_0, ia_1, ne_eq, true_and, and_true, false_and, and_false, or_false, false_or, or_true, true_or, not_true_eq_false, not_false_eq_true] at *
  all_goals omega
set_option maxRecDepth 20000 in
theorem lf_x_isDigitE_2 (x : Int32) (c1 : ¬ x < nI 48) (c2 : nI 57 < x) : ((nI 0) = nI 1 ∧ (48 ≤ x.toInt ∧ x.toInt ≤ 57)) ∨ ((nI 0) = nI 0 ∧ (¬ (48 ≤ x.toInt ∧ x.toInt ≤ 57))) := by
  have b_x := ia_b x
  try have k_0 := ia_n 48 (by first | decide | omega)
  try have k_1 := ia_n 57 (by first | decide | omega)
  try have k_2 := ia_n 0 (by first | decide | omega)
  try have k_3 := ia_n 1 (by first | decide | omega)
  try simp only [ia_lt, ia_le, ia_eq, ia_m1, ia_0, ia_1, ne_eq, true_and, and_true, false_and, and_false, or_false, false_or, or_true, true_or, not_true_eq_false, not_false_eq_true] at *
  all_goals omega
set_option maxRecDepth 20000 in
theorem lf_x_isDigitE_3 (x : Int32) (c1 : ¬ x < nI 48) (c2 : ¬ nI 57 < x) : ((nI 1) = nI 1 ∧ (48 ≤ x.toInt ∧ x.toInt ≤ 57)) ∨ ((nI 1) = nI 0 ∧ (¬ (48 ≤ x.toInt ∧ x.toInt ≤ 57))) := by
  have b_x := ia_b x
  try have k_0 := ia_n 48 (by first | decide | omega)
  try have k_1 := ia_n 57 (by first | decide | omega)
  try have k_2 := ia_n 1 (by first | decide | omega)
  try have k_3 := ia_n 0 (by first | decide | omega)
  try simp only [ia_lt, ia_le, ia_eq, ia_m1, ia_0, ia_1, ne_eq, true_and, and_true, false_and, and_false, or_false, false_or, or_true, true_or, not_true_eq_false, not_false_eq_true] at *
  all_goals omega
set_option maxHeartbeats 4000000 in
set_option maxRecDepth 100000 in
theorem c_x_isDigitE (l : Launch) (dC : Nat → ClassId) (dI : Nat → Nat → Nat) (ky : Nat → ClassId) (x : Int32)  : Met l yX12_isDigit wsX12_isDigit ({ frames := 0, cells := 0, slots := 0, locals := 0 }) (PcP dC dI ky [.int x] []) (vp_Si (fun r : Int32 => (r = nI 1 ∧ (48 ≤ x.toInt ∧ x.toInt ≤ 57)) ∨ (r = nI 0 ∧ (¬ (48 ≤ x.toInt ∧ x.toInt ≤ 57))))) 0 0 (fun _ => False) := by
  refine Met.ofW (cc := cX12_isDigit) (maxL := 1) (ret := (some .boolean)) (by decide) rfl ?_
  intro p e s m args below meth c s₁ B hml hv
  obtain ⟨rfl, hP, hK⟩ := hv
  have hx := B.exec
  have hb := B.bytes
  have hr := B.returns
  have hts := atoms_spec (ws := wsX12_isDigit) B.pre
  have hown : s.vm.findClass RX12 = some m.cls := findClass_of_methodNamed B.named
  have hlocks := B.notSynchronized
  have hl := lv_entry ([.int x]) (n := 1) (Nat.le_of_ble_eq_true rfl)
  rw [lg_entry_eq]
  generalize (lg_sl ([.int x]) ++ List.replicate (1 - (lg_sl ([.int x])).length) Slot.unset).toArray = ls at hl ⊢
  have hl : lv_has ls 1 [(0, .int x)] := hl
  refine q_name (fun Q hQ => ?_)
  generalize ([.int x] : List Value).toArray = args at hts hQ ⊢
  refine lv_iload_n hx hb dX12_isDigit_0 rfl (lv_at hl 0 rfl) ?_
  refine lv_bipush (v := nI 48) hx hb dX12_isDigit_1 (by decide) ?_
  refine lv_icmp_lt (tgt := 16) hx hb dX12_isDigit_3 (by decide) (fun c1 => ?_) (fun c1 => ?_)
  · refine lv_iconst (v := nI 0) hx hb dX12_isDigit_16 (by decide) ?_
    rw [hQ]
    exact W.zret (v := nI 0) hx hb hr (by decide) (fun t9 ht9 hW9 => ⟨nI 0, rfl, (lf_x_isDigitE_1 x c1), ht9⟩) (fun _ h => absurd h List.not_mem_nil) dX12_isDigit_17
  · refine lv_iload_n hx hb dX12_isDigit_6 rfl (lv_at hl 0 rfl) ?_
    refine lv_bipush (v := nI 57) hx hb dX12_isDigit_7 (by decide) ?_
    refine lv_icmp_gt (tgt := 16) hx hb dX12_isDigit_9 (by decide) (fun c2 => ?_) (fun c2 => ?_)
    · refine lv_iconst (v := nI 0) hx hb dX12_isDigit_16 (by decide) ?_
      rw [hQ]
      exact W.zret (v := nI 0) hx hb hr (by decide) (fun t9 ht9 hW9 => ⟨nI 0, rfl, (lf_x_isDigitE_2 x c1 c2), ht9⟩) (fun _ h => absurd h List.not_mem_nil) dX12_isDigit_17
    · refine lv_iconst (v := nI 1) hx hb dX12_isDigit_12 (by decide) ?_
      refine lv_goto (tgt := 17) hx hb dX12_isDigit_13 (by decide) ?_
      rw [hQ]
      exact W.zret (v := nI 1) hx hb hr (by decide) (fun t9 ht9 hW9 => ⟨nI 1, rfl, (lf_x_isDigitE_3 x c1 c2), ht9⟩) (fun _ h => absurd h List.not_mem_nil) dX12_isDigit_17
set_option maxRecDepth 20000 in
theorem lf_x_isLetterE_1 (x : Int32) (c1 : x < nI 97) : ((nI 0) = nI 1 ∧ (97 ≤ x.toInt ∧ x.toInt ≤ 122)) ∨ ((nI 0) = nI 0 ∧ (¬ (97 ≤ x.toInt ∧ x.toInt ≤ 122))) := by
  have b_x := ia_b x
  try have k_0 := ia_n 97 (by first | decide | omega)
  try have k_1 := ia_n 0 (by first | decide | omega)
  try have k_2 := ia_n 1 (by first | decide | omega)
  try simp only [ia_lt, ia_le, ia_eq, ia_m1, ia_0, ia_1, ne_eq, true_and, and_true, false_and, and_false, or_false, false_or, or_true, true_or, not_true_eq_false, not_false_eq_true] at *
  all_goals omega
set_option maxRecDepth 20000 in
theorem lf_x_isLetterE_2 (x : Int32) (c1 : ¬ x < nI 97) (c2 : nI 122 < x) : ((nI 0) = nI 1 ∧ (97 ≤ x.toInt ∧ x.toInt ≤ 122)) ∨ ((nI 0) = nI 0 ∧ (¬ (97 ≤ x.toInt ∧ x.toInt ≤ 122))) := by
  have b_x := ia_b x
  try have k_0 := ia_n 97 (by first | decide | omega)
  try have k_1 := ia_n 122 (by first | decide | omega)
  try have k_2 := ia_n 0 (by first | decide | omega)
  try have k_3 := ia_n 1 (by first | decide | omega)
  try simp only [ia_lt, ia_le, ia_eq, ia_m1, ia_0, ia_1, ne_eq, true_and, and_true, false_and, and_false, or_false, false_or, or_true, true_or, not_true_eq_false, not_false_eq_true] at *
  all_goals omega
set_option maxRecDepth 20000 in
theorem lf_x_isLetterE_3 (x : Int32) (c1 : ¬ x < nI 97) (c2 : ¬ nI 122 < x) : ((nI 1) = nI 1 ∧ (97 ≤ x.toInt ∧ x.toInt ≤ 122)) ∨ ((nI 1) = nI 0 ∧ (¬ (97 ≤ x.toInt ∧ x.toInt ≤ 122))) := by
  have b_x := ia_b x
  try have k_0 := ia_n 97 (by first | decide | omega)
  try have k_1 := ia_n 122 (by first | decide | omega)
  try have k_2 := ia_n 1 (by first | decide | omega)
  try have k_3 := ia_n 0 (by first | decide | omega)
  try simp only [ia_lt, ia_le, ia_eq, ia_m1, ia_0, ia_1, ne_eq, true_and, and_true, false_and, and_false, or_false, false_or, or_true, true_or, not_true_eq_false, not_false_eq_true] at *
  all_goals omega
set_option maxHeartbeats 4000000 in
set_option maxRecDepth 100000 in
theorem c_x_isLetterE (l : Launch) (dC : Nat → ClassId) (dI : Nat → Nat → Nat) (ky : Nat → ClassId) (x : Int32)  : Met l yX12_isLetter wsX12_isLetter ({ frames := 0, cells := 0, slots := 0, locals := 0 }) (PcP dC dI ky [.int x] []) (vp_Si (fun r : Int32 => (r = nI 1 ∧ (97 ≤ x.toInt ∧ x.toInt ≤ 122)) ∨ (r = nI 0 ∧ (¬ (97 ≤ x.toInt ∧ x.toInt ≤ 122))))) 0 0 (fun _ => False) := by
  refine Met.ofW (cc := cX12_isLetter) (maxL := 1) (ret := (some .boolean)) (by decide) rfl ?_
  intro p e s m args below meth c s₁ B hml hv
  obtain ⟨rfl, hP, hK⟩ := hv
  have hx := B.exec
  have hb := B.bytes
  have hr := B.returns
  have hts := atoms_spec (ws := wsX12_isLetter) B.pre
  have hown : s.vm.findClass RX12 = some m.cls := findClass_of_methodNamed B.named
  have hlocks := B.notSynchronized
  have hl := lv_entry ([.int x]) (n := 1) (Nat.le_of_ble_eq_true rfl)
  rw [lg_entry_eq]
  generalize (lg_sl ([.int x]) ++ List.replicate (1 - (lg_sl ([.int x])).length) Slot.unset).toArray = ls at hl ⊢
  have hl : lv_has ls 1 [(0, .int x)] := hl
  refine q_name (fun Q hQ => ?_)
  generalize ([.int x] : List Value).toArray = args at hts hQ ⊢
  refine lv_iload_n hx hb dX12_isLetter_0 rfl (lv_at hl 0 rfl) ?_
  refine lv_bipush (v := nI 97) hx hb dX12_isLetter_1 (by decide) ?_
  refine lv_icmp_lt (tgt := 16) hx hb dX12_isLetter_3 (by decide) (fun c1 => ?_) (fun c1 => ?_)
  · refine lv_iconst (v := nI 0) hx hb dX12_isLetter_16 (by decide) ?_
    rw [hQ]
    exact W.zret (v := nI 0) hx hb hr (by decide) (fun t9 ht9 hW9 => ⟨nI 0, rfl, (lf_x_isLetterE_1 x c1), ht9⟩) (fun _ h => absurd h List.not_mem_nil) dX12_isLetter_17
  · refine lv_iload_n hx hb dX12_isLetter_6 rfl (lv_at hl 0 rfl) ?_
    refine lv_bipush (v := nI 122) hx hb dX12_isLetter_7 (by decide) ?_
    refine lv_icmp_gt (tgt := 16) hx hb dX12_isLetter_9 (by decide) (fun c2 => ?_) (fun c2 => ?_)
    · refine lv_iconst (v := nI 0) hx hb dX12_isLetter_16 (by decide) ?_
      rw [hQ]
      exact W.zret (v := nI 0) hx hb hr (by decide) (fun t9 ht9 hW9 => ⟨nI 0, rfl, (lf_x_isLetterE_2 x c1 c2), ht9⟩) (fun _ h => absurd h List.not_mem_nil) dX12_isLetter_17
    · refine lv_iconst (v := nI 1) hx hb dX12_isLetter_12 (by decide) ?_
      refine lv_goto (tgt := 17) hx hb dX12_isLetter_13 (by decide) ?_
      rw [hQ]
      exact W.zret (v := nI 1) hx hb hr (by decide) (fun t9 ht9 hW9 => ⟨nI 1, rfl, (lf_x_isLetterE_3 x c1 c2), ht9⟩) (fun _ h => absurd h List.not_mem_nil) dX12_isLetter_17
set_option maxRecDepth 20000 in
theorem lf_x_goP_1 (ksize : Nat) (kto : Nat) (ktapeF : Nat → Int32) (k5 : Nat) (n10 : Nat) (y18 : Int32) (iv_ko_1 : ksize ≤ 940) (iv_ko_3 : kto ≤ ksize) (j6 : k5 ≤ 940) (j7 : k5 ≤ ksize) (j8 : kto ≤ k5) (hm12 : 940 - k5 < n10 + 1) (c17 : k5 < ksize) (e19 : y18 = ktapeF k5) : k5 < 940 := by
  have b_y18 := ia_b y18
  try simp only [ia_lt, ia_le, ia_eq, ia_m1, ia_0, ia_1, ne_eq, true_and, and_true, false_and, and_false, or_false, false_or, or_true, true_or, not_true_eq_false, not_false_eq_true] at *
  all_goals omega
set_option maxRecDepth 20000 in
theorem lf_x_goP_2 (ksize : Nat) (kto : Nat) (ktapeF : Nat → Int32) (k5 : Nat) (n10 : Nat) (y18 : Int32) (r24 : Int32) (x46 : Int32) (k47 : Nat) (x48 : Int32) (n57 : Nat) (iv_ko_1 : ksize ≤ 940) (iv_ko_3 : kto ≤ ksize) (j6 : k5 ≤ 940) (j7 : k5 ≤ ksize) (j8 : kto ≤ k5) (hm12 : 940 - k5 < n10 + 1) (c17 : k5 < ksize) (e19 : y18 = ktapeF k5) (p25 : r24 = nI 0 ∨ r24 = nI 1) (j50 : x46 = nI 0 ∨ x46 = nI 1) (j51 : k47 ≤ 941) (j52 : k47 ≤ ksize) (j53 : kto ≤ k47) (j54 : k5 ≤ k47) (j55 : (x46 = nI 0 ∨ r24 = nI 1) ∨ (0 ≤ x48.toInt ∧ x48.toInt ≤ 999 ∧ (k5 + 3 ≤ k47 ∨ x48.toInt ≤ 99) ∧ (k5 + 2 ≤ k47 ∨ x48.toInt ≤ 9) ∧ (k5 + 1 ≤ k47 ∨ x48.toInt ≤ 0))) (hm59 : 940 - k47 < n57 + 1) : k47 ≤ 940 := by
  have b_y18 := ia_b y18
  have b_r24 := ia_b r24
  have b_x46 := ia_b x46
  have b_x48 := ia_b x48
  try have k_0 := ia_n 0 (by first | decide | omega)
  try have k_1 := ia_n 1 (by first | decide | omega)
  try simp only [ia_lt, ia_le, ia_eq, ia_m1, ia_0, ia_1, ne_eq, true_and, and_true, false_and, and_false, or_false, false_or, or_true, true_or, not_true_eq_false, not_false_eq_true] at *
  all_goals omega
set_option maxRecDepth 20000 in
theorem lf_x_goP_3 (ksize : Nat) (kto : Nat) (ktapeF : Nat → Int32) (k5 : Nat) (n10 : Nat) (y18 : Int32) (r24 : Int32) (x46 : Int32) (k47 : Nat) (x48 : Int32) (n57 : Nat) (r60 : Int32) (y68 : Int32) (iv_ko_1 : ksize ≤ 940) (iv_ko_3 : kto ≤ ksize) (j6 : k5 ≤ 940) (j7 : k5 ≤ ksize) (j8 : kto ≤ k5) (hm12 : 940 - k5 < n10 + 1) (c17 : k5 < ksize) (e19 : y18 = ktapeF k5) (p25 : r24 = nI 0 ∨ r24 = nI 1) (j50 : x46 = nI 0 ∨ x46 = nI 1) (j51 : k47 ≤ 941) (j52 : k47 ≤ ksize) (j53 : kto ≤ k47) (j54 : k5 ≤ k47) (j55 : (x46 = nI 0 ∨ r24 = nI 1) ∨ (0 ≤ x48.toInt ∧ x48.toInt ≤ 999 ∧ (k5 + 3 ≤ k47 ∨ x48.toInt ≤ 99) ∧ (k5 + 2 ≤ k47 ∨ x48.toInt ≤ 9) ∧ (k5 + 1 ≤ k47 ∨ x48.toInt ≤ 0))) (hm59 : 940 - k47 < n57 + 1) (p61 : (k47 < ksize ∧ r60 = ktapeF k47) ∨ (ksize ≤ k47 ∧ r60 = nI 0)) (t64 : 97 ≤ r60.toInt) (t65 : r60.toInt ≤ 122) (e69 : y68 = ktapeF k47) : k47 < 940 := by
  have b_y18 := ia_b y18
  have b_r24 := ia_b r24
  have b_x46 := ia_b x46
  have b_x48 := ia_b x48
  have b_r60 := ia_b r60
  have b_y68 := ia_b y68
  try have k_0 := ia_n 0 (by first | decide | omega)
  try have k_1 := ia_n 1 (by first | decide | omega)
  try simp only [ia_lt, ia_le, ia_eq, ia_m1, ia_0, ia_1, ne_eq, true_and, and_true, false_and, and_false, or_false, false_or, or_true, true_or, not_true_eq_false, not_false_eq_true] at *
  all_goals omega
set_option maxRecDepth 20000 in
theorem lf_x_goP_4 (ksize : Nat) (kto : Nat) (ktapeF : Nat → Int32) (k5 : Nat) (n10 : Nat) (y18 : Int32) (r24 : Int32) (x46 : Int32) (k47 : Nat) (x48 : Int32) (n57 : Nat) (r60 : Int32) (y68 : Int32) (iv_ko_1 : ksize ≤ 940) (iv_ko_3 : kto ≤ ksize) (j6 : k5 ≤ 940) (j7 : k5 ≤ ksize) (j8 : kto ≤ k5) (hm12 : 940 - k5 < n10 + 1) (c17 : k5 < ksize) (e19 : y18 = ktapeF k5) (p25 : r24 = nI 0 ∨ r24 = nI 1) (j50 : x46 = nI 0 ∨ x46 = nI 1) (j51 : k47 ≤ 941) (j52 : k47 ≤ ksize) (j53 : kto ≤ k47) (j54 : k5 ≤ k47) (j55 : (x46 = nI 0 ∨ r24 = nI 1) ∨ (0 ≤ x48.toInt ∧ x48.toInt ≤ 999 ∧ (k5 + 3 ≤ k47 ∨ x48.toInt ≤ 99) ∧ (k5 + 2 ≤ k47 ∨ x48.toInt ≤ 9) ∧ (k5 + 1 ≤ k47 ∨ x48.toInt ≤ 0))) (hm59 : 940 - k47 < n57 + 1) (p61 : (k47 < ksize ∧ r60 = ktapeF k47) ∨ (ksize ≤ k47 ∧ r60 = nI 0)) (t64 : 97 ≤ r60.toInt) (t65 : r60.toInt ≤ 122) (e69 : y68 = ktapeF k47) (c70 : x46 = 0) : k5 ≤ k47 := by
  have b_y18 := ia_b y18
  have b_r24 := ia_b r24
  have b_x46 := ia_b x46
  have b_x48 := ia_b x48
  have b_r60 := ia_b r60
  have b_y68 := ia_b y68
  try have k_0 := ia_n 0 (by first | decide | omega)
  try have k_1 := ia_n 1 (by first | decide | omega)
  try simp only [ia_lt, ia_le, ia_eq, ia_m1, ia_0, ia_1, ne_eq, true_and, and_true, false_and, and_false, or_false, false_or, or_true, true_or, not_true_eq_false, not_false_eq_true] at *
  all_goals omega
set_option maxRecDepth 20000 in
theorem lf_x_goP_5 (ksize : Nat) (kto : Nat) (ktapeF : Nat → Int32) (k5 : Nat) (n10 : Nat) (y18 : Int32) (r24 : Int32) (x46 : Int32) (k47 : Nat) (x48 : Int32) (n57 : Nat) (r60 : Int32) (y68 : Int32) (iv_ko_1 : ksize ≤ 940) (iv_ko_3 : kto ≤ ksize) (j6 : k5 ≤ 940) (j7 : k5 ≤ ksize) (j8 : kto ≤ k5) (hm12 : 940 - k5 < n10 + 1) (c17 : k5 < ksize) (e19 : y18 = ktapeF k5) (p25 : r24 = nI 0 ∨ r24 = nI 1) (j50 : x46 = nI 0 ∨ x46 = nI 1) (j51 : k47 ≤ 941) (j52 : k47 ≤ ksize) (j53 : kto ≤ k47) (j54 : k5 ≤ k47) (j55 : (x46 = nI 0 ∨ r24 = nI 1) ∨ (0 ≤ x48.toInt ∧ x48.toInt ≤ 999 ∧ (k5 + 3 ≤ k47 ∨ x48.toInt ≤ 99) ∧ (k5 + 2 ≤ k47 ∨ x48.toInt ≤ 9) ∧ (k5 + 1 ≤ k47 ∨ x48.toInt ≤ 0))) (hm59 : 940 - k47 < n57 + 1) (p61 : (k47 < ksize ∧ r60 = ktapeF k47) ∨ (ksize ≤ k47 ∧ r60 = nI 0)) (t64 : 97 ≤ r60.toInt) (t65 : r60.toInt ≤ 122) (e69 : y68 = ktapeF k47) (c70 : x46 = 0) : k5 ≤ k47 := by
  have b_y18 := ia_b y18
  have b_r24 := ia_b r24
  have b_x46 := ia_b x46
  have b_x48 := ia_b x48
  have b_r60 := ia_b r60
  have b_y68 := ia_b y68
  try have k_0 := ia_n 0 (by first | decide | omega)
  try have k_1 := ia_n 1 (by first | decide | omega)
  try simp only [ia_lt, ia_le, ia_eq, ia_m1, ia_0, ia_1, ne_eq, true_and, and_true, false_and, and_false, or_false, false_or, or_true, true_or, not_true_eq_false, not_false_eq_true] at *
  all_goals omega
set_option maxRecDepth 20000 in
theorem lf_x_goP_6   : (nI 0) = nI 0 ∨ (nI 0) = nI 1 := by
  try have k_0 := ia_n 0 (by first | decide | omega)
  try have k_1 := ia_n 1 (by first | decide | omega)
  try simp only [ia_lt, ia_le, ia_eq, ia_m1, ia_0, ia_1, ne_eq, true_and, and_true, false_and, and_false, or_false, false_or, or_true, true_or, not_true_eq_false, not_false_eq_true] at *
  all_goals omega
set_option maxRecDepth 20000 in
theorem lf_x_goP_7 (ksize : Nat) (kto : Nat) (ktapeF : Nat → Int32) (k5 : Nat) (n10 : Nat) (y18 : Int32) (r24 : Int32) (x46 : Int32) (k47 : Nat) (x48 : Int32) (n57 : Nat) (r60 : Int32) (y68 : Int32) (iv_ko_1 : ksize ≤ 940) (iv_ko_3 : kto ≤ ksize) (j6 : k5 ≤ 940) (j7 : k5 ≤ ksize) (j8 : kto ≤ k5) (hm12 : 940 - k5 < n10 + 1) (c17 : k5 < ksize) (e19 : y18 = ktapeF k5) (p25 : r24 = nI 0 ∨ r24 = nI 1) (j50 : x46 = nI 0 ∨ x46 = nI 1) (j51 : k47 ≤ 941) (j52 : k47 ≤ ksize) (j53 : kto ≤ k47) (j54 : k5 ≤ k47) (j55 : (x46 = nI 0 ∨ r24 = nI 1) ∨ (0 ≤ x48.toInt ∧ x48.toInt ≤ 999 ∧ (k5 + 3 ≤ k47 ∨ x48.toInt ≤ 99) ∧ (k5 + 2 ≤ k47 ∨ x48.toInt ≤ 9) ∧ (k5 + 1 ≤ k47 ∨ x48.toInt ≤ 0))) (hm59 : 940 - k47 < n57 + 1) (p61 : (k47 < ksize ∧ r60 = ktapeF k47) ∨ (ksize ≤ k47 ∧ r60 = nI 0)) (t64 : 97 ≤ r60.toInt) (t65 : r60.toInt ≤ 122) (e69 : y68 = ktapeF k47) (c70 : x46 = 0) (c74 : 3 ≤ (k47 - k5)) : (k47 + 1) ≤ 941 := by
  have b_y18 := ia_b y18
  have b_r24 := ia_b r24
  have b_x46 := ia_b x46
  have b_x48 := ia_b x48
  have b_r60 := ia_b r60
  have b_y68 := ia_b y68
  try have k_0 := ia_n 0 (by first | decide | omega)
  try have k_1 := ia_n 1 (by first | decide | omega)
  try simp only [ia_lt, ia_le, ia_eq, ia_m1, ia_0, ia_1, ne_eq, true_and, and_true, false_and, and_false, or_false, false_or, or_true, true_or, not_true_eq_false, not_false_eq_true] at *
  all_goals omega
set_option maxRecDepth 20000 in
theorem lf_x_goP_8 (ksize : Nat) (kto : Nat) (ktapeF : Nat → Int32) (k5 : Nat) (n10 : Nat) (y18 : Int32) (r24 : Int32) (x46 : Int32) (k47 : Nat) (x48 : Int32) (n57 : Nat) (r60 : Int32) (y68 : Int32) (iv_ko_1 : ksize ≤ 940) (iv_ko_3 : kto ≤ ksize) (j6 : k5 ≤ 940) (j7 : k5 ≤ ksize) (j8 : kto ≤ k5) (hm12 : 940 - k5 < n10 + 1) (c17 : k5 < ksize) (e19 : y18 = ktapeF k5) (p25 : r24 = nI 0 ∨ r24 = nI 1) (j50 : x46 = nI 0 ∨ x46 = nI 1) (j51 : k47 ≤ 941) (j52 : k47 ≤ ksize) (j53 : kto ≤ k47) (j54 : k5 ≤ k47) (j55 : (x46 = nI 0 ∨ r24 = nI 1) ∨ (0 ≤ x48.toInt ∧ x48.toInt ≤ 999 ∧ (k5 + 3 ≤ k47 ∨ x48.toInt ≤ 99) ∧ (k5 + 2 ≤ k47 ∨ x48.toInt ≤ 9) ∧ (k5 + 1 ≤ k47 ∨ x48.toInt ≤ 0))) (hm59 : 940 - k47 < n57 + 1) (p61 : (k47 < ksize ∧ r60 = ktapeF k47) ∨ (ksize ≤ k47 ∧ r60 = nI 0)) (t64 : 97 ≤ r60.toInt) (t65 : r60.toInt ≤ 122) (e69 : y68 = ktapeF k47) (c70 : x46 = 0) (c74 : 3 ≤ (k47 - k5)) : (k47 + 1) ≤ ksize := by
  have b_y18 := ia_b y18
  have b_r24 := ia_b r24
  have b_x46 := ia_b x46
  have b_x48 := ia_b x48
  have b_r60 := ia_b r60
  have b_y68 := ia_b y68
  try have k_0 := ia_n 0 (by first | decide | omega)
  try have k_1 := ia_n 1 (by first | decide | omega)
  try simp only [ia_lt, ia_le, ia_eq, ia_m1, ia_0, ia_1, ne_eq, true_and, and_true, false_and, and_false, or_false, false_or, or_true, true_or, not_true_eq_false, not_false_eq_true] at *
  all_goals omega
set_option maxRecDepth 20000 in
theorem lf_x_goP_9 (ksize : Nat) (kto : Nat) (ktapeF : Nat → Int32) (k5 : Nat) (n10 : Nat) (y18 : Int32) (r24 : Int32) (x46 : Int32) (k47 : Nat) (x48 : Int32) (n57 : Nat) (r60 : Int32) (y68 : Int32) (iv_ko_1 : ksize ≤ 940) (iv_ko_3 : kto ≤ ksize) (j6 : k5 ≤ 940) (j7 : k5 ≤ ksize) (j8 : kto ≤ k5) (hm12 : 940 - k5 < n10 + 1) (c17 : k5 < ksize) (e19 : y18 = ktapeF k5) (p25 : r24 = nI 0 ∨ r24 = nI 1) (j50 : x46 = nI 0 ∨ x46 = nI 1) (j51 : k47 ≤ 941) (j52 : k47 ≤ ksize) (j53 : kto ≤ k47) (j54 : k5 ≤ k47) (j55 : (x46 = nI 0 ∨ r24 = nI 1) ∨ (0 ≤ x48.toInt ∧ x48.toInt ≤ 999 ∧ (k5 + 3 ≤ k47 ∨ x48.toInt ≤ 99) ∧ (k5 + 2 ≤ k47 ∨ x48.toInt ≤ 9) ∧ (k5 + 1 ≤ k47 ∨ x48.toInt ≤ 0))) (hm59 : 940 - k47 < n57 + 1) (p61 : (k47 < ksize ∧ r60 = ktapeF k47) ∨ (ksize ≤ k47 ∧ r60 = nI 0)) (t64 : 97 ≤ r60.toInt) (t65 : r60.toInt ≤ 122) (e69 : y68 = ktapeF k47) (c70 : x46 = 0) (c74 : 3 ≤ (k47 - k5)) : kto ≤ (k47 + 1) := by
  have b_y18 := ia_b y18
  have b_r24 := ia_b r24
  have b_x46 := ia_b x46
  have b_x48 := ia_b x48
  have b_r60 := ia_b r60
  have b_y68 := ia_b y68
  try have k_0 := ia_n 0 (by first | decide | omega)
  try have k_1 := ia_n 1 (by first | decide | omega)
  try simp only [ia_lt, ia_le, ia_eq, ia_m1, ia_0, ia_1, ne_eq, true_and, and_true, false_and, and_false, or_false, false_or, or_true, true_or, not_true_eq_false, not_false_eq_true] at *
  all_goals omega
set_option maxRecDepth 20000 in
theorem lf_x_goP_10 (ksize : Nat) (kto : Nat) (ktapeF : Nat → Int32) (k5 : Nat) (n10 : Nat) (y18 : Int32) (r24 : Int32) (x46 : Int32) (k47 : Nat) (x48 : Int32) (n57 : Nat) (r60 : Int32) (y68 : Int32) (iv_ko_1 : ksize ≤ 940) (iv_ko_3 : kto ≤ ksize) (j6 : k5 ≤ 940) (j7 : k5 ≤ ksize) (j8 : kto ≤ k5) (hm12 : 940 - k5 < n10 + 1) (c17 : k5 < ksize) (e19 : y18 = ktapeF k5) (p25 : r24 = nI 0 ∨ r24 = nI 1) (j50 : x46 = nI 0 ∨ x46 = nI 1) (j51 : k47 ≤ 941) (j52 : k47 ≤ ksize) (j53 : kto ≤ k47) (j54 : k5 ≤ k47) (j55 : (x46 = nI 0 ∨ r24 = nI 1) ∨ (0 ≤ x48.toInt ∧ x48.toInt ≤ 999 ∧ (k5 + 3 ≤ k47 ∨ x48.toInt ≤ 99) ∧ (k5 + 2 ≤ k47 ∨ x48.toInt ≤ 9) ∧ (k5 + 1 ≤ k47 ∨ x48.toInt ≤ 0))) (hm59 : 940 - k47 < n57 + 1) (p61 : (k47 < ksize ∧ r60 = ktapeF k47) ∨ (ksize ≤ k47 ∧ r60 = nI 0)) (t64 : 97 ≤ r60.toInt) (t65 : r60.toInt ≤ 122) (e69 : y68 = ktapeF k47) (c70 : x46 = 0) (c74 : 3 ≤ (k47 - k5)) : k5 ≤ (k47 + 1) := by
  have b_y18 := ia_b y18
  have b_r24 := ia_b r24
  have b_x46 := ia_b x46
  have b_x48 := ia_b x48
  have b_r60 := ia_b r60
  have b_y68 := ia_b y68
  try have k_0 := ia_n 0 (by first | decide | omega)
  try have k_1 := ia_n 1 (by first | decide | omega)
  try simp only [ia_lt, ia_le, ia_eq, ia_m1, ia_0, ia_1, ne_eq, true_and, and_true, false_and, and_false, or_false, false_or, or_true, true_or, not_true_eq_false, not_false_eq_true] at *
  all_goals omega
set_option maxRecDepth 20000 in
theorem lf_x_goP_11 (ksize : Nat) (kto : Nat) (ktapeF : Nat → Int32) (k5 : Nat) (n10 : Nat) (y18 : Int32) (r24 : Int32) (x46 : Int32) (k47 : Nat) (x48 : Int32) (n57 : Nat) (r60 : Int32) (y68 : Int32) (iv_ko_1 : ksize ≤ 940) (iv_ko_3 : kto ≤ ksize) (j6 : k5 ≤ 940) (j7 : k5 ≤ ksize) (j8 : kto ≤ k5) (hm12 : 940 - k5 < n10 + 1) (c17 : k5 < ksize) (e19 : y18 = ktapeF k5) (p25 : r24 = nI 0 ∨ r24 = nI 1) (j50 : x46 = nI 0 ∨ x46 = nI 1) (j51 : k47 ≤ 941) (j52 : k47 ≤ ksize) (j53 : kto ≤ k47) (j54 : k5 ≤ k47) (j55 : (x46 = nI 0 ∨ r24 = nI 1) ∨ (0 ≤ x48.toInt ∧ x48.toInt ≤ 999 ∧ (k5 + 3 ≤ k47 ∨ x48.toInt ≤ 99) ∧ (k5 + 2 ≤ k47 ∨ x48.toInt ≤ 9) ∧ (k5 + 1 ≤ k47 ∨ x48.toInt ≤ 0))) (hm59 : 940 - k47 < n57 + 1) (p61 : (k47 < ksize ∧ r60 = ktapeF k47) ∨ (ksize ≤ k47 ∧ r60 = nI 0)) (t64 : 97 ≤ r60.toInt) (t65 : r60.toInt ≤ 122) (e69 : y68 = ktapeF k47) (c70 : x46 = 0) (c74 : 3 ≤ (k47 - k5)) : ((nI 0) = nI 0 ∨ r24 = nI 1) ∨ (0 ≤ x48.toInt ∧ x48.toInt ≤ 999 ∧ (k5 + 3 ≤ (k47 + 1) ∨ x48.toInt ≤ 99) ∧ (k5 + 2 ≤ (k47 + 1) ∨ x48.toInt ≤ 9) ∧ (k5 + 1 ≤ (k47 + 1) ∨ x48.toInt ≤ 0)) := by
  have b_y18 := ia_b y18
  have b_r24 := ia_b r24
  have b_x46 := ia_b x46
  have b_x48 := ia_b x48
  have b_r60 := ia_b r60
  have b_y68 := ia_b y68
  try have k_0 := ia_n 0 (by first | decide | omega)
  try have k_1 := ia_n 1 (by first | decide | omega)
  try simp only [ia_lt, ia_le, ia_eq, ia_m1, ia_0, ia_1, ne_eq, true_and, and_true, false_and, and_false, or_false, false_or, or_true, true_or, not_true_eq_false, not_false_eq_true] at *
  all_goals omega
set_option maxRecDepth 20000 in
theorem lf_x_goP_12 (ksize : Nat) (kto : Nat) (ktapeF : Nat → Int32) (k5 : Nat) (n10 : Nat) (y18 : Int32) (r24 : Int32) (x46 : Int32) (k47 : Nat) (x48 : Int32) (n57 : Nat) (r60 : Int32) (y68 : Int32) (iv_ko_1 : ksize ≤ 940) (iv_ko_3 : kto ≤ ksize) (j6 : k5 ≤ 940) (j7 : k5 ≤ ksize) (j8 : kto ≤ k5) (hm12 : 940 - k5 < n10 + 1) (c17 : k5 < ksize) (e19 : y18 = ktapeF k5) (p25 : r24 = nI 0 ∨ r24 = nI 1) (j50 : x46 = nI 0 ∨ x46 = nI 1) (j51 : k47 ≤ 941) (j52 : k47 ≤ ksize) (j53 : kto ≤ k47) (j54 : k5 ≤ k47) (j55 : (x46 = nI 0 ∨ r24 = nI 1) ∨ (0 ≤ x48.toInt ∧ x48.toInt ≤ 999 ∧ (k5 + 3 ≤ k47 ∨ x48.toInt ≤ 99) ∧ (k5 + 2 ≤ k47 ∨ x48.toInt ≤ 9) ∧ (k5 + 1 ≤ k47 ∨ x48.toInt ≤ 0))) (hm59 : 940 - k47 < n57 + 1) (p61 : (k47 < ksize ∧ r60 = ktapeF k47) ∨ (ksize ≤ k47 ∧ r60 = nI 0)) (t64 : 97 ≤ r60.toInt) (t65 : r60.toInt ≤ 122) (e69 : y68 = ktapeF k47) (c70 : x46 = 0) (c74 : 3 ≤ (k47 - k5)) : 940 - (k47 + 1) < n57 := by
  have b_y18 := ia_b y18
  have b_r24 := ia_b r24
  have b_x46 := ia_b x46
  have b_x48 := ia_b x48
  have b_r60 := ia_b r60
  have b_y68 := ia_b y68
  try have k_0 := ia_n 0 (by first | decide | omega)
  try have k_1 := ia_n 1 (by first | decide | omega)
  try simp only [ia_lt, ia_le, ia_eq, ia_m1, ia_0, ia_1, ne_eq, true_and, and_true, false_and, and_false, or_false, false_or, or_true, true_or, not_true_eq_false, not_false_eq_true] at *
  all_goals omega
set_option maxRecDepth 20000 in
theorem lf_x_goP_13   : (nI 0) = nI 0 ∨ (nI 0) = nI 1 := by
  try have k_0 := ia_n 0 (by first | decide | omega)
  try have k_1 := ia_n 1 (by first | decide | omega)
  try simp only [ia_lt, ia_le, ia_eq, ia_m1, ia_0, ia_1, ne_eq, true_and, and_true, false_and, and_false, or_false, false_or, or_true, true_or, not_true_eq_false, not_false_eq_true] at *
  all_goals omega
set_option maxRecDepth 20000 in
theorem lf_x_goP_14 (ksize : Nat) (kto : Nat) (ktapeF : Nat → Int32) (k5 : Nat) (n10 : Nat) (y18 : Int32) (r24 : Int32) (x46 : Int32) (k47 : Nat) (x48 : Int32) (n57 : Nat) (r60 : Int32) (y68 : Int32) (y75 : Int32) (y77 : Int32) (y79 : Int32) (iv_ko_1 : ksize ≤ 940) (iv_ko_3 : kto ≤ ksize) (j6 : k5 ≤ 940) (j7 : k5 ≤ ksize) (j8 : kto ≤ k5) (hm12 : 940 - k5 < n10 + 1) (c17 : k5 < ksize) (e19 : y18 = ktapeF k5) (p25 : r24 = nI 0 ∨ r24 = nI 1) (j50 : x46 = nI 0 ∨ x46 = nI 1) (j51 : k47 ≤ 941) (j52 : k47 ≤ ksize) (j53 : kto ≤ k47) (j54 : k5 ≤ k47) (j55 : (x46 = nI 0 ∨ r24 = nI 1) ∨ (0 ≤ x48.toInt ∧ x48.toInt ≤ 999 ∧ (k5 + 3 ≤ k47 ∨ x48.toInt ≤ 99) ∧ (k5 + 2 ≤ k47 ∨ x48.toInt ≤ 9) ∧ (k5 + 1 ≤ k47 ∨ x48.toInt ≤ 0))) (hm59 : 940 - k47 < n57 + 1) (p61 : (k47 < ksize ∧ r60 = ktapeF k47) ∨ (ksize ≤ k47 ∧ r60 = nI 0)) (t64 : 97 ≤ r60.toInt) (t65 : r60.toInt ≤ 122) (e69 : y68 = ktapeF k47) (c70 : x46 = 0) (c74 : (k47 - k5) < 3) (e76 : y75 = (nI 10) * x48) (e78 : y77 = y75 + y68) (e80 : y79 = y77 - (nI 48)) : (k47 + 1) ≤ 941 := by
  have b_y18 := ia_b y18
  have b_r24 := ia_b r24
  have b_x46 := ia_b x46
  have b_x48 := ia_b x48
  have b_r60 := ia_b r60
  have b_y68 := ia_b y68
  have b_y75 := ia_b y75
  have b_y77 := ia_b y77
  have b_y79 := ia_b y79
  try have k_0 := ia_n 0 (by first | decide | omega)
  try have k_1 := ia_n 1 (by first | decide | omega)
  try have k_2 := ia_n 10 (by first | decide | omega)
  try have k_3 := ia_n 48 (by first | decide | omega)
  try simp only [ia_lt, ia_le, ia_eq, ia_m1, ia_0, ia_1, ne_eq, true_and, and_true, false_and, and_false, or_false, false_or, or_true, true_or, not_true_eq_false, not_false_eq_true] at *
  all_goals omega
set_option maxRecDepth 20000 in
theorem lf_x_goP_15 (ksize : Nat) (kto : Nat) (ktapeF : Nat → Int32) (k5 : Nat) (n10 : Nat) (y18 : Int32) (r24 : Int32) (x46 : Int32) (k47 : Nat) (x48 : Int32) (n57 : Nat) (r60 : Int32) (y68 : Int32) (y75 : Int32) (y77 : Int32) (y79 : Int32) (iv_ko_1 : ksize ≤ 940) (iv_ko_3 : kto ≤ ksize) (j6 : k5 ≤ 940) (j7 : k5 ≤ ksize) (j8 : kto ≤ k5) (hm12 : 940 - k5 < n10 + 1) (c17 : k5 < ksize) (e19 : y18 = ktapeF k5) (p25 : r24 = nI 0 ∨ r24 = nI 1) (j50 : x46 = nI 0 ∨ x46 = nI 1) (j51 : k47 ≤ 941) (j52 : k47 ≤ ksize) (j53 : kto ≤ k47) (j54 : k5 ≤ k47) (j55 : (x46 = nI 0 ∨ r24 = nI 1) ∨ (0 ≤ x48.toInt ∧ x48.toInt ≤ 999 ∧ (k5 + 3 ≤ k47 ∨ x48.toInt ≤ 99) ∧ (k5 + 2 ≤ k47 ∨ x48.toInt ≤ 9) ∧ (k5 + 1 ≤ k47 ∨ x48.toInt ≤ 0))) (hm59 : 940 - k47 < n57 + 1) (p61 : (k47 < ksize ∧ r60 = ktapeF k47) ∨ (ksize ≤ k47 ∧ r60 = nI 0)) (t64 : 97 ≤ r60.toInt) (t65 : r60.toInt ≤ 122) (e69 : y68 = ktapeF k47) (c70 : x46 = 0) (c74 : (k47 - k5) < 3) (e76 : y75 = (nI 10) * x48) (e78 : y77 = y75 + y68) (e80 : y79 = y77 - (nI 48)) : (k47 + 1) ≤ ksize := by
  have b_y18 := ia_b y18
  have b_r24 := ia_b r24
  have b_x46 := ia_b x46
  have b_x48 := ia_b x48
  have b_r60 := ia_b r60
  have b_y68 := ia_b y68
  have b_y75 := ia_b y75
  have b_y77 := ia_b y77
  have b_y79 := ia_b y79
  try have k_0 := ia_n 0 (by first | decide | omega)
  try have k_1 := ia_n 1 (by first | decide | omega)
  try have k_2 := ia_n 10 (by first | decide | omega)
  try have k_3 := ia_n 48 (by first | decide | omega)
  try simp only [ia_lt, ia_le, ia_eq, ia_m1, ia_0, ia_1, ne_eq, true_and, and_true, false_and, and_false, or_false, false_or, or_true, true_or, not_true_eq_false, not_false_eq_true] at *
  all_goals omega
set_option maxRecDepth 20000 in
theorem lf_x_goP_16 (ksize : Nat) (kto : Nat) (ktapeF : Nat → Int32) (k5 : Nat) (n10 : Nat) (y18 : Int32) (r24 : Int32) (x46 : Int32) (k47 : Nat) (x48 : Int32) (n57 : Nat) (r60 : Int32) (y68 : Int32) (y75 : Int32) (y77 : Int32) (y79 : Int32) (iv_ko_1 : ksize ≤ 940) (iv_ko_3 : kto ≤ ksize) (j6 : k5 ≤ 940) (j7 : k5 ≤ ksize) (j8 : kto ≤ k5) (hm12 : 940 - k5 < n10 + 1) (c17 : k5 < ksize) (e19 : y18 = ktapeF k5) (p25 : r24 = nI 0 ∨ r24 = nI 1) (j50 : x46 = nI 0 ∨ x46 = nI 1) (j51 : k47 ≤ 941) (j52 : k47 ≤ ksize) (j53 : kto ≤ k47) (j54 : k5 ≤ k47) (j55 : (x46 = nI 0 ∨ r24 = nI 1) ∨ (0 ≤ x48.toInt ∧ x48.toInt ≤ 999 ∧ (k5 + 3 ≤ k47 ∨ x48.toInt ≤ 99) ∧ (k5 + 2 ≤ k47 ∨ x48.toInt ≤ 9) ∧ (k5 + 1 ≤ k47 ∨ x48.toInt ≤ 0))) (hm59 : 940 - k47 < n57 + 1) (p61 : (k47 < ksize ∧ r60 = ktapeF k47) ∨ (ksize ≤ k47 ∧ r60 = nI 0)) (t64 : 97 ≤ r60.toInt) (t65 : r60.toInt ≤ 122) (e69 : y68 = ktapeF k47) (c70 : x46 = 0) (c74 : (k47 - k5) < 3) (e76 : y75 = (nI 10) * x48) (e78 : y77 = y75 + y68) (e80 : y79 = y77 - (nI 48)) : kto ≤ (k47 + 1) := by
  have b_y18 := ia_b y18
  have b_r24 := ia_b r24
  have b_x46 := ia_b x46
  have b_x48 := ia_b x48
  have b_r60 := ia_b r60
  have b_y68 := ia_b y68
  have b_y75 := ia_b y75
  have b_y77 := ia_b y77
  have b_y79 := ia_b y79
  try have k_0 := ia_n 0 (by first | decide | omega)
  try have k_1 := ia_n 1 (by first | decide | omega)
  try have k_2 := ia_n 10 (by first | decide | omega)
  try have k_3 := ia_n 48 (by first | decide | omega)
  try simp only [ia_lt, ia_le, ia_eq, ia_m1, ia_0, ia_1, ne_eq, true_and, and_true, false_and, and_false, or_false, false_or, or_true, true_or, not_true_eq_false, not_false_eq_true] at *
  all_goals omega
set_option maxRecDepth 20000 in
theorem lf_x_goP_17 (ksize : Nat) (kto : Nat) (ktapeF : Nat → Int32) (k5 : Nat) (n10 : Nat) (y18 : Int32) (r24 : Int32) (x46 : Int32) (k47 : Nat) (x48 : Int32) (n57 : Nat) (r60 : Int32) (y68 : Int32) (y75 : Int32) (y77 : Int32) (y79 : Int32) (iv_ko_1 : ksize ≤ 940) (iv_ko_3 : kto ≤ ksize) (j6 : k5 ≤ 940) (j7 : k5 ≤ ksize) (j8 : kto ≤ k5) (hm12 : 940 - k5 < n10 + 1) (c17 : k5 < ksize) (e19 : y18 = ktapeF k5) (p25 : r24 = nI 0 ∨ r24 = nI 1) (j50 : x46 = nI 0 ∨ x46 = nI 1) (j51 : k47 ≤ 941) (j52 : k47 ≤ ksize) (j53 : kto ≤ k47) (j54 : k5 ≤ k47) (j55 : (x46 = nI 0 ∨ r24 = nI 1) ∨ (0 ≤ x48.toInt ∧ x48.toInt ≤ 999 ∧ (k5 + 3 ≤ k47 ∨ x48.toInt ≤ 99) ∧ (k5 + 2 ≤ k47 ∨ x48.toInt ≤ 9) ∧ (k5 + 1 ≤ k47 ∨ x48.toInt ≤ 0))) (hm59 : 940 - k47 < n57 + 1) (p61 : (k47 < ksize ∧ r60 = ktapeF k47) ∨ (ksize ≤ k47 ∧ r60 = nI 0)) (t64 : 97 ≤ r60.toInt) (t65 : r60.toInt ≤ 122) (e69 : y68 = ktapeF k47) (c70 : x46 = 0) (c74 : (k47 - k5) < 3) (e76 : y75 = (nI 10) * x48) (e78 : y77 = y75 + y68) (e80 : y79 = y77 - (nI 48)) : k5 ≤ (k47 + 1) := by
  have b_y18 := ia_b y18
  have b_r24 := ia_b r24
  have b_x46 := ia_b x46
  have b_x48 := ia_b x48
  have b_r60 := ia_b r60
  have b_y68 := ia_b y68
  have b_y75 := ia_b y75
  have b_y77 := ia_b y77
  have b_y79 := ia_b y79
  try have k_0 := ia_n 0 (by first | decide | omega)
  try have k_1 := ia_n 1 (by first | decide | omega)
  try have k_2 := ia_n 10 (by first | decide | omega)
  try have k_3 := ia_n 48 (by first | decide | omega)
  try simp only [ia_lt, ia_le, ia_eq, ia_m1, ia_0, ia_1, ne_eq, true_and, and_true, false_and, and_false, or_false, false_or, or_true, true_or, not_true_eq_false, not_false_eq_true] at *
  all_goals omega
set_option maxRecDepth 20000 in
theorem lf_x_goP_18 (ksize : Nat) (kto : Nat) (ktapeF : Nat → Int32) (k5 : Nat) (n10 : Nat) (y18 : Int32) (r24 : Int32) (x46 : Int32) (k47 : Nat) (x48 : Int32) (n57 : Nat) (r60 : Int32) (y68 : Int32) (y75 : Int32) (y77 : Int32) (y79 : Int32) (iv_ko_1 : ksize ≤ 940) (iv_ko_3 : kto ≤ ksize) (j6 : k5 ≤ 940) (j7 : k5 ≤ ksize) (j8 : kto ≤ k5) (hm12 : 940 - k5 < n10 + 1) (c17 : k5 < ksize) (e19 : y18 = ktapeF k5) (p25 : r24 = nI 0 ∨ r24 = nI 1) (j50 : x46 = nI 0 ∨ x46 = nI 1) (j51 : k47 ≤ 941) (j52 : k47 ≤ ksize) (j53 : kto ≤ k47) (j54 : k5 ≤ k47) (j55 : (x46 = nI 0 ∨ r24 = nI 1) ∨ (0 ≤ x48.toInt ∧ x48.toInt ≤ 999 ∧ (k5 + 3 ≤ k47 ∨ x48.toInt ≤ 99) ∧ (k5 + 2 ≤ k47 ∨ x48.toInt ≤ 9) ∧ (k5 + 1 ≤ k47 ∨ x48.toInt ≤ 0))) (hm59 : 940 - k47 < n57 + 1) (p61 : (k47 < ksize ∧ r60 = ktapeF k47) ∨ (ksize ≤ k47 ∧ r60 = nI 0)) (t64 : 97 ≤ r60.toInt) (t65 : r60.toInt ≤ 122) (e69 : y68 = ktapeF k47) (c70 : x46 = 0) (c74 : (k47 - k5) < 3) (e76 : y75 = (nI 10) * x48) (e78 : y77 = y75 + y68) (e80 : y79 = y77 - (nI 48)) : ((nI 0) = nI 0 ∨ r24 = nI 1) ∨ (0 ≤ y79.toInt ∧ y79.toInt ≤ 999 ∧ (k5 + 3 ≤ (k47 + 1) ∨ y79.toInt ≤ 99) ∧ (k5 + 2 ≤ (k47 + 1) ∨ y79.toInt ≤ 9) ∧ (k5 + 1 ≤ (k47 + 1) ∨ y79.toInt ≤ 0)) := by
  have b_y18 := ia_b y18
  have b_r24 := ia_b r24
  have b_x46 := ia_b x46
  have b_x48 := ia_b x48
  have b_r60 := ia_b r60
  have b_y68 := ia_b y68
  have b_y75 := ia_b y75
  have b_y77 := ia_b y77
  have b_y79 := ia_b y79
  try have k_0 := ia_n 0 (by first | decide | omega)
  try have k_1 := ia_n 1 (by first | decide | omega)
  try have k_2 := ia_n 10 (by first | decide | omega)
  try have k_3 := ia_n 48 (by first | decide | omega)
  have h9 := ten_step x48 y68
  rw [← e76, ← e78, ← e80] at h9
  clear e80 e78 e76
  try simp only [ia_lt, ia_le, ia_eq, ia_m1, ia_0, ia_1, ne_eq, true_and, and_true, false_and, and_false, or_false, false_or, or_true, true_or, not_true_eq_false, not_false_eq_true] at *
  all_goals omega
set_option maxRecDepth 20000 in
theorem lf_x_goP_19 (ksize : Nat) (kto : Nat) (ktapeF : Nat → Int32) (k5 : Nat) (n10 : Nat) (y18 : Int32) (r24 : Int32) (x46 : Int32) (k47 : Nat) (x48 : Int32) (n57 : Nat) (r60 : Int32) (y68 : Int32) (y75 : Int32) (y77 : Int32) (y79 : Int32) (iv_ko_1 : ksize ≤ 940) (iv_ko_3 : kto ≤ ksize) (j6 : k5 ≤ 940) (j7 : k5 ≤ ksize) (j8 : kto ≤ k5) (hm12 : 940 - k5 < n10 + 1) (c17 : k5 < ksize) (e19 : y18 = ktapeF k5) (p25 : r24 = nI 0 ∨ r24 = nI 1) (j50 : x46 = nI 0 ∨ x46 = nI 1) (j51 : k47 ≤ 941) (j52 : k47 ≤ ksize) (j53 : kto ≤ k47) (j54 : k5 ≤ k47) (j55 : (x46 = nI 0 ∨ r24 = nI 1) ∨ (0 ≤ x48.toInt ∧ x48.toInt ≤ 999 ∧ (k5 + 3 ≤ k47 ∨ x48.toInt ≤ 99) ∧ (k5 + 2 ≤ k47 ∨ x48.toInt ≤ 9) ∧ (k5 + 1 ≤ k47 ∨ x48.toInt ≤ 0))) (hm59 : 940 - k47 < n57 + 1) (p61 : (k47 < ksize ∧ r60 = ktapeF k47) ∨ (ksize ≤ k47 ∧ r60 = nI 0)) (t64 : 97 ≤ r60.toInt) (t65 : r60.toInt ≤ 122) (e69 : y68 = ktapeF k47) (c70 : x46 = 0) (c74 : (k47 - k5) < 3) (e76 : y75 = (nI 10) * x48) (e78 : y77 = y75 + y68) (e80 : y79 = y77 - (nI 48)) : 940 - (k47 + 1) < n57 := by
  have b_y18 := ia_b y18
  have b_r24 := ia_b r24
  have b_x46 := ia_b x46
  have b_x48 := ia_b x48
  have b_r60 := ia_b r60
  have b_y68 := ia_b y68
  have b_y75 := ia_b y75
  have b_y77 := ia_b y77
  have b_y79 := ia_b y79
  try have k_0 := ia_n 0 (by first | decide | omega)
  try have k_1 := ia_n 1 (by first | decide | omega)
  try have k_2 := ia_n 10 (by first | decide | omega)
  try have k_3 := ia_n 48 (by first | decide | omega)
  try simp only [ia_lt, ia_le, ia_eq, ia_m1, ia_0, ia_1, ne_eq, true_and, and_true, false_and, and_false, or_false, false_or, or_true, true_or, not_true_eq_false, not_false_eq_true] at *
  all_goals omega
set_option maxRecDepth 20000 in
theorem lf_x_goP_20 (ksize : Nat) (kto : Nat) (ktapeF : Nat → Int32) (k5 : Nat) (n10 : Nat) (y18 : Int32) (r24 : Int32) (x46 : Int32) (k47 : Nat) (x48 : Int32) (n57 : Nat) (r60 : Int32) (y68 : Int32) (iv_ko_1 : ksize ≤ 940) (iv_ko_3 : kto ≤ ksize) (j6 : k5 ≤ 940) (j7 : k5 ≤ ksize) (j8 : kto ≤ k5) (hm12 : 940 - k5 < n10 + 1) (c17 : k5 < ksize) (e19 : y18 = ktapeF k5) (p25 : r24 = nI 0 ∨ r24 = nI 1) (j50 : x46 = nI 0 ∨ x46 = nI 1) (j51 : k47 ≤ 941) (j52 : k47 ≤ ksize) (j53 : kto ≤ k47) (j54 : k5 ≤ k47) (j55 : (x46 = nI 0 ∨ r24 = nI 1) ∨ (0 ≤ x48.toInt ∧ x48.toInt ≤ 999 ∧ (k5 + 3 ≤ k47 ∨ x48.toInt ≤ 99) ∧ (k5 + 2 ≤ k47 ∨ x48.toInt ≤ 9) ∧ (k5 + 1 ≤ k47 ∨ x48.toInt ≤ 0))) (hm59 : 940 - k47 < n57 + 1) (p61 : (k47 < ksize ∧ r60 = ktapeF k47) ∨ (ksize ≤ k47 ∧ r60 = nI 0)) (t64 : 97 ≤ r60.toInt) (t65 : r60.toInt ≤ 122) (e69 : y68 = ktapeF k47) (c70 : ¬ x46 = 0) (t91 : 97 ≤ y68.toInt) (t92 : y68.toInt ≤ 122) (c94 : nI 1 ≠ r24) : k5 ≤ k47 := by
  have b_y18 := ia_b y18
  have b_r24 := ia_b r24
  have b_x46 := ia_b x46
  have b_x48 := ia_b x48
  have b_r60 := ia_b r60
  have b_y68 := ia_b y68
  try have k_0 := ia_n 0 (by first | decide | omega)
  try have k_1 := ia_n 1 (by first | decide | omega)
  try simp only [ia_lt, ia_le, ia_eq, ia_m1, ia_0, ia_1, ne_eq, true_and, and_true, false_and, and_false, or_false, false_or, or_true, true_or, not_true_eq_false, not_false_eq_true] at *
  all_goals omega
set_option maxRecDepth 20000 in
theorem lf_x_goP_21 (ksize : Nat) (kto : Nat) (ktapeF : Nat → Int32) (k5 : Nat) (n10 : Nat) (y18 : Int32) (r24 : Int32) (x46 : Int32) (k47 : Nat) (x48 : Int32) (n57 : Nat) (r60 : Int32) (y68 : Int32) (iv_ko_1 : ksize ≤ 940) (iv_ko_3 : kto ≤ ksize) (j6 : k5 ≤ 940) (j7 : k5 ≤ ksize) (j8 : kto ≤ k5) (hm12 : 940 - k5 < n10 + 1) (c17 : k5 < ksize) (e19 : y18 = ktapeF k5) (p25 : r24 = nI 0 ∨ r24 = nI 1) (j50 : x46 = nI 0 ∨ x46 = nI 1) (j51 : k47 ≤ 941) (j52 : k47 ≤ ksize) (j53 : kto ≤ k47) (j54 : k5 ≤ k47) (j55 : (x46 = nI 0 ∨ r24 = nI 1) ∨ (0 ≤ x48.toInt ∧ x48.toInt ≤ 999 ∧ (k5 + 3 ≤ k47 ∨ x48.toInt ≤ 99) ∧ (k5 + 2 ≤ k47 ∨ x48.toInt ≤ 9) ∧ (k5 + 1 ≤ k47 ∨ x48.toInt ≤ 0))) (hm59 : 940 - k47 < n57 + 1) (p61 : (k47 < ksize ∧ r60 = ktapeF k47) ∨ (ksize ≤ k47 ∧ r60 = nI 0)) (t64 : 97 ≤ r60.toInt) (t65 : r60.toInt ≤ 122) (e69 : y68 = ktapeF k47) (c70 : ¬ x46 = 0) (t91 : 97 ≤ y68.toInt) (t92 : y68.toInt ≤ 122) (c94 : nI 1 ≠ r24) : k5 ≤ k47 := by
  have b_y18 := ia_b y18
  have b_r24 := ia_b r24
  have b_x46 := ia_b x46
  have b_x48 := ia_b x48
  have b_r60 := ia_b r60
  have b_y68 := ia_b y68
  try have k_0 := ia_n 0 (by first | decide | omega)
  try have k_1 := ia_n 1 (by first | decide | omega)
  try simp only [ia_lt, ia_le, ia_eq, ia_m1, ia_0, ia_1, ne_eq, true_and, and_true, false_and, and_false, or_false, false_or, or_true, true_or, not_true_eq_false, not_false_eq_true] at *
  all_goals omega
set_option maxRecDepth 20000 in
theorem lf_x_goP_22   : (nI 0) = nI 0 ∨ (nI 0) = nI 1 := by
  try have k_0 := ia_n 0 (by first | decide | omega)
  try have k_1 := ia_n 1 (by first | decide | omega)
  try simp only [ia_lt, ia_le, ia_eq, ia_m1, ia_0, ia_1, ne_eq, true_and, and_true, false_and, and_false, or_false, false_or, or_true, true_or, not_true_eq_false, not_false_eq_true] at *
  all_goals omega
set_option maxRecDepth 20000 in
theorem lf_x_goP_23 (ksize : Nat) (kto : Nat) (ktapeF : Nat → Int32) (k5 : Nat) (n10 : Nat) (y18 : Int32) (r24 : Int32) (x46 : Int32) (k47 : Nat) (x48 : Int32) (n57 : Nat) (r60 : Int32) (y68 : Int32) (iv_ko_1 : ksize ≤ 940) (iv_ko_3 : kto ≤ ksize) (j6 : k5 ≤ 940) (j7 : k5 ≤ ksize) (j8 : kto ≤ k5) (hm12 : 940 - k5 < n10 + 1) (c17 : k5 < ksize) (e19 : y18 = ktapeF k5) (p25 : r24 = nI 0 ∨ r24 = nI 1) (j50 : x46 = nI 0 ∨ x46 = nI 1) (j51 : k47 ≤ 941) (j52 : k47 ≤ ksize) (j53 : kto ≤ k47) (j54 : k5 ≤ k47) (j55 : (x46 = nI 0 ∨ r24 = nI 1) ∨ (0 ≤ x48.toInt ∧ x48.toInt ≤ 999 ∧ (k5 + 3 ≤ k47 ∨ x48.toInt ≤ 99) ∧ (k5 + 2 ≤ k47 ∨ x48.toInt ≤ 9) ∧ (k5 + 1 ≤ k47 ∨ x48.toInt ≤ 0))) (hm59 : 940 - k47 < n57 + 1) (p61 : (k47 < ksize ∧ r60 = ktapeF k47) ∨ (ksize ≤ k47 ∧ r60 = nI 0)) (t64 : 97 ≤ r60.toInt) (t65 : r60.toInt ≤ 122) (e69 : y68 = ktapeF k47) (c70 : ¬ x46 = 0) (t91 : 97 ≤ y68.toInt) (t92 : y68.toInt ≤ 122) (c94 : nI 1 ≠ r24) (c98 : 3 ≤ (k47 - k5)) : (k47 + 1) ≤ 941 := by
  have b_y18 := ia_b y18
  have b_r24 := ia_b r24
  have b_x46 := ia_b x46
  have b_x48 := ia_b x48
  have b_r60 := ia_b r60
  have b_y68 := ia_b y68
  try have k_0 := ia_n 0 (by first | decide | omega)
  try have k_1 := ia_n 1 (by first | decide | omega)
  try simp only [ia_lt, ia_le, ia_eq, ia_m1, ia_0, ia_1, ne_eq, true_and, and_true, false_and, and_false, or_false, false_or, or_true, true_or, not_true_eq_false, not_false_eq_true] at *
  all_goals omega
set_option maxRecDepth 20000 in
theorem lf_x_goP_24 (ksize : Nat) (kto : Nat) (ktapeF : Nat → Int32) (k5 : Nat) (n10 : Nat) (y18 : Int32) (r24 : Int32) (x46 : Int32) (k47 : Nat) (x48 : Int32) (n57 : Nat) (r60 : Int32) (y68 : Int32) (iv_ko_1 : ksize ≤ 940) (iv_ko_3 : kto ≤ ksize) (j6 : k5 ≤ 940) (j7 : k5 ≤ ksize) (j8 : kto ≤ k5) (hm12 : 940 - k5 < n10 + 1) (c17 : k5 < ksize) (e19 : y18 = ktapeF k5) (p25 : r24 = nI 0 ∨ r24 = nI 1) (j50 : x46 = nI 0 ∨ x46 = nI 1) (j51 : k47 ≤ 941) (j52 : k47 ≤ ksize) (j53 : kto ≤ k47) (j54 : k5 ≤ k47) (j55 : (x46 = nI 0 ∨ r24 = nI 1) ∨ (0 ≤ x48.toInt ∧ x48.toInt ≤ 999 ∧ (k5 + 3 ≤ k47 ∨ x48.toInt ≤ 99) ∧ (k5 + 2 ≤ k47 ∨ x48.toInt ≤ 9) ∧ (k5 + 1 ≤ k47 ∨ x48.toInt ≤ 0))) (hm59 : 940 - k47 < n57 + 1) (p61 : (k47 < ksize ∧ r60 = ktapeF k47) ∨ (ksize ≤ k47 ∧ r60 = nI 0)) (t64 : 97 ≤ r60.toInt) (t65 : r60.toInt ≤ 122) (e69 : y68 = ktapeF k47) (c70 : ¬ x46 = 0) (t91 : 97 ≤ y68.toInt) (t92 : y68.toInt ≤ 122) (c94 : nI 1 ≠ r24) (c98 : 3 ≤ (k47 - k5)) : (k47 + 1) ≤ ksize := by
  have b_y18 := ia_b y18
  have b_r24 := ia_b r24
  have b_x46 := ia_b x46
  have b_x48 := ia_b x48
  have b_r60 := ia_b r60
  have b_y68 := ia_b y68
  try have k_0 := ia_n 0 (by first | decide | omega)
  try have k_1 := ia_n 1 (by first | decide | omega)
  try simp only [ia_lt, ia_le, ia_eq, ia_m1, ia_0, ia_1, ne_eq, true_and, and_true, false_and, and_false, or_false, false_or, or_true, true_or, not_true_eq_false, not_false_eq_true] at *
  all_goals omega
set_option maxRecDepth 20000 in
theorem lf_x_goP_25 (ksize : Nat) (kto : Nat) (ktapeF : Nat → Int32) (k5 : Nat) (n10 : Nat) (y18 : Int32) (r24 : Int32) (x46 : Int32) (k47 : Nat) (x48 : Int32) (n57 : Nat) (r60 : Int32) (y68 : Int32) (iv_ko_1 : ksize ≤ 940) (iv_ko_3 : kto ≤ ksize) (j6 : k5 ≤ 940) (j7 : k5 ≤ ksize) (j8 : kto ≤ k5) (hm12 : 940 - k5 < n10 + 1) (c17 : k5 < ksize) (e19 : y18 = ktapeF k5) (p25 : r24 = nI 0 ∨ r24 = nI 1) (j50 : x46 = nI 0 ∨ x46 = nI 1) (j51 : k47 ≤ 941) (j52 : k47 ≤ ksize) (j53 : kto ≤ k47) (j54 : k5 ≤ k47) (j55 : (x46 = nI 0 ∨ r24 = nI 1) ∨ (0 ≤ x48.toInt ∧ x48.toInt ≤ 999 ∧ (k5 + 3 ≤ k47 ∨ x48.toInt ≤ 99) ∧ (k5 + 2 ≤ k47 ∨ x48.toInt ≤ 9) ∧ (k5 + 1 ≤ k47 ∨ x48.toInt ≤ 0))) (hm59 : 940 - k47 < n57 + 1) (p61 : (k47 < ksize ∧ r60 = ktapeF k47) ∨ (ksize ≤ k47 ∧ r60 = nI 0)) (t64 : 97 ≤ r60.toInt) (t65 : r60.toInt ≤ 122) (e69 : y68 = ktapeF k47) (c70 : ¬ x46 = 0) (t91 : 97 ≤ y68.toInt) (t92 : y68.toInt ≤ 122) (c94 : nI 1 ≠ r24) (c98 : 3 ≤ (k47 - k5)) : kto ≤ (k47 + 1) := by
  have b_y18 := ia_b y18
  have b_r24 := ia_b r24
  have b_x46 := ia_b x46
  have b_x48 := ia_b x48
  have b_r60 := ia_b r60
  have b_y68 := ia_b y68
  try have k_0 := ia_n 0 (by first | decide | omega)
  try have k_1 := ia_n 1 (by first | decide | omega)
  try simp only [ia_lt, ia_le, ia_eq, ia_m1, ia_0, ia_1, ne_eq, true_and, and_true, false_and, and_false, or_false, false_or, or_true, true_or, not_true_eq_false, not_false_eq_true] at *
  all_goals omega
set_option maxRecDepth 20000 in
theorem lf_x_goP_26 (ksize : Nat) (kto : Nat) (ktapeF : Nat → Int32) (k5 : Nat) (n10 : Nat) (y18 : Int32) (r24 : Int32) (x46 : Int32) (k47 : Nat) (x48 : Int32) (n57 : Nat) (r60 : Int32) (y68 : Int32) (iv_ko_1 : ksize ≤ 940) (iv_ko_3 : kto ≤ ksize) (j6 : k5 ≤ 940) (j7 : k5 ≤ ksize) (j8 : kto ≤ k5) (hm12 : 940 - k5 < n10 + 1) (c17 : k5 < ksize) (e19 : y18 = ktapeF k5) (p25 : r24 = nI 0 ∨ r24 = nI 1) (j50 : x46 = nI 0 ∨ x46 = nI 1) (j51 : k47 ≤ 941) (j52 : k47 ≤ ksize) (j53 : kto ≤ k47) (j54 : k5 ≤ k47) (j55 : (x46 = nI 0 ∨ r24 = nI 1) ∨ (0 ≤ x48.toInt ∧ x48.toInt ≤ 999 ∧ (k5 + 3 ≤ k47 ∨ x48.toInt ≤ 99) ∧ (k5 + 2 ≤ k47 ∨ x48.toInt ≤ 9) ∧ (k5 + 1 ≤ k47 ∨ x48.toInt ≤ 0))) (hm59 : 940 - k47 < n57 + 1) (p61 : (k47 < ksize ∧ r60 = ktapeF k47) ∨ (ksize ≤ k47 ∧ r60 = nI 0)) (t64 : 97 ≤ r60.toInt) (t65 : r60.toInt ≤ 122) (e69 : y68 = ktapeF k47) (c70 : ¬ x46 = 0) (t91 : 97 ≤ y68.toInt) (t92 : y68.toInt ≤ 122) (c94 : nI 1 ≠ r24) (c98 : 3 ≤ (k47 - k5)) : k5 ≤ (k47 + 1) := by
  have b_y18 := ia_b y18
  have b_r24 := ia_b r24
  have b_x46 := ia_b x46
  have b_x48 := ia_b x48
  have b_r60 := ia_b r60
  have b_y68 := ia_b y68
  try have k_0 := ia_n 0 (by first | decide | omega)
  try have k_1 := ia_n 1 (by first | decide | omega)
  try simp only [ia_lt, ia_le, ia_eq, ia_m1, ia_0, ia_1, ne_eq, true_and, and_true, false_and, and_false, or_false, false_or, or_true, true_or, not_true_eq_false, not_false_eq_true] at *
  all_goals omega
set_option maxRecDepth 20000 in
theorem lf_x_goP_27 (ksize : Nat) (kto : Nat) (ktapeF : Nat → Int32) (k5 : Nat) (n10 : Nat) (y18 : Int32) (r24 : Int32) (x46 : Int32) (k47 : Nat) (x48 : Int32) (n57 : Nat) (r60 : Int32) (y68 : Int32) (iv_ko_1 : ksize ≤ 940) (iv_ko_3 : kto ≤ ksize) (j6 : k5 ≤ 940) (j7 : k5 ≤ ksize) (j8 : kto ≤ k5) (hm12 : 940 - k5 < n10 + 1) (c17 : k5 < ksize) (e19 : y18 = ktapeF k5) (p25 : r24 = nI 0 ∨ r24 = nI 1) (j50 : x46 = nI 0 ∨ x46 = nI 1) (j51 : k47 ≤ 941) (j52 : k47 ≤ ksize) (j53 : kto ≤ k47) (j54 : k5 ≤ k47) (j55 : (x46 = nI 0 ∨ r24 = nI 1) ∨ (0 ≤ x48.toInt ∧ x48.toInt ≤ 999 ∧ (k5 + 3 ≤ k47 ∨ x48.toInt ≤ 99) ∧ (k5 + 2 ≤ k47 ∨ x48.toInt ≤ 9) ∧ (k5 + 1 ≤ k47 ∨ x48.toInt ≤ 0))) (hm59 : 940 - k47 < n57 + 1) (p61 : (k47 < ksize ∧ r60 = ktapeF k47) ∨ (ksize ≤ k47 ∧ r60 = nI 0)) (t64 : 97 ≤ r60.toInt) (t65 : r60.toInt ≤ 122) (e69 : y68 = ktapeF k47) (c70 : ¬ x46 = 0) (t91 : 97 ≤ y68.toInt) (t92 : y68.toInt ≤ 122) (c94 : nI 1 ≠ r24) (c98 : 3 ≤ (k47 - k5)) : ((nI 0) = nI 0 ∨ r24 = nI 1) ∨ (0 ≤ x48.toInt ∧ x48.toInt ≤ 999 ∧ (k5 + 3 ≤ (k47 + 1) ∨ x48.toInt ≤ 99) ∧ (k5 + 2 ≤ (k47 + 1) ∨ x48.toInt ≤ 9) ∧ (k5 + 1 ≤ (k47 + 1) ∨ x48.toInt ≤ 0)) := by
  have b_y18 := ia_b y18
  have b_r24 := ia_b r24
  have b_x46 := ia_b x46
  have b_x48 := ia_b x48
  have b_r60 := ia_b r60
  have b_y68 := ia_b y68
  try have k_0 := ia_n 0 (by first | decide | omega)
  try have k_1 := ia_n 1 (by first | decide | omega)
  try simp only [ia_lt, ia_le, ia_eq, ia_m1, ia_0, ia_1, ne_eq, true_and, and_true, false_and, and_false, or_false, false_or, or_true, true_or, not_true_eq_false, not_false_eq_true] at *
  all_goals omega
set_option maxRecDepth 20000 in
theorem lf_x_goP_28 (ksize : Nat) (kto : Nat) (ktapeF : Nat → Int32) (k5 : Nat) (n10 : Nat) (y18 : Int32) (r24 : Int32) (x46 : Int32) (k47 : Nat) (x48 : Int32) (n57 : Nat) (r60 : Int32) (y68 : Int32) (iv_ko_1 : ksize ≤ 940) (iv_ko_3 : kto ≤ ksize) (j6 : k5 ≤ 940) (j7 : k5 ≤ ksize) (j8 : kto ≤ k5) (hm12 : 940 - k5 < n10 + 1) (c17 : k5 < ksize) (e19 : y18 = ktapeF k5) (p25 : r24 = nI 0 ∨ r24 = nI 1) (j50 : x46 = nI 0 ∨ x46 = nI 1) (j51 : k47 ≤ 941) (j52 : k47 ≤ ksize) (j53 : kto ≤ k47) (j54 : k5 ≤ k47) (j55 : (x46 = nI 0 ∨ r24 = nI 1) ∨ (0 ≤ x48.toInt ∧ x48.toInt ≤ 999 ∧ (k5 + 3 ≤ k47 ∨ x48.toInt ≤ 99) ∧ (k5 + 2 ≤ k47 ∨ x48.toInt ≤ 9) ∧ (k5 + 1 ≤ k47 ∨ x48.toInt ≤ 0))) (hm59 : 940 - k47 < n57 + 1) (p61 : (k47 < ksize ∧ r60 = ktapeF k47) ∨ (ksize ≤ k47 ∧ r60 = nI 0)) (t64 : 97 ≤ r60.toInt) (t65 : r60.toInt ≤ 122) (e69 : y68 = ktapeF k47) (c70 : ¬ x46 = 0) (t91 : 97 ≤ y68.toInt) (t92 : y68.toInt ≤ 122) (c94 : nI 1 ≠ r24) (c98 : 3 ≤ (k47 - k5)) : 940 - (k47 + 1) < n57 := by
  have b_y18 := ia_b y18
  have b_r24 := ia_b r24
  have b_x46 := ia_b x46
  have b_x48 := ia_b x48
  have b_r60 := ia_b r60
  have b_y68 := ia_b y68
  try have k_0 := ia_n 0 (by first | decide | omega)
  try have k_1 := ia_n 1 (by first | decide | omega)
  try simp only [ia_lt, ia_le, ia_eq, ia_m1, ia_0, ia_1, ne_eq, true_and, and_true, false_and, and_false, or_false, false_or, or_true, true_or, not_true_eq_false, not_false_eq_true] at *
  all_goals omega
set_option maxRecDepth 20000 in
theorem lf_x_goP_29 (ksize : Nat) (kto : Nat) (ktapeF : Nat → Int32) (k5 : Nat) (n10 : Nat) (y18 : Int32) (r24 : Int32) (x46 : Int32) (k47 : Nat) (x48 : Int32) (n57 : Nat) (r60 : Int32) (y68 : Int32) (y99 : Int32) (iv_ko_1 : ksize ≤ 940) (iv_ko_3 : kto ≤ ksize) (j6 : k5 ≤ 940) (j7 : k5 ≤ ksize) (j8 : kto ≤ k5) (hm12 : 940 - k5 < n10 + 1) (c17 : k5 < ksize) (e19 : y18 = ktapeF k5) (p25 : r24 = nI 0 ∨ r24 = nI 1) (j50 : x46 = nI 0 ∨ x46 = nI 1) (j51 : k47 ≤ 941) (j52 : k47 ≤ ksize) (j53 : kto ≤ k47) (j54 : k5 ≤ k47) (j55 : (x46 = nI 0 ∨ r24 = nI 1) ∨ (0 ≤ x48.toInt ∧ x48.toInt ≤ 999 ∧ (k5 + 3 ≤ k47 ∨ x48.toInt ≤ 99) ∧ (k5 + 2 ≤ k47 ∨ x48.toInt ≤ 9) ∧ (k5 + 1 ≤ k47 ∨ x48.toInt ≤ 0))) (hm59 : 940 - k47 < n57 + 1) (p61 : (k47 < ksize ∧ r60 = ktapeF k47) ∨ (ksize ≤ k47 ∧ r60 = nI 0)) (t64 : 97 ≤ r60.toInt) (t65 : r60.toInt ≤ 122) (e69 : y68 = ktapeF k47) (c70 : ¬ x46 = 0) (t91 : 97 ≤ y68.toInt) (t92 : y68.toInt ≤ 122) (c94 : nI 1 ≠ r24) (c98 : (k47 - k5) < 3) (e100 : y99 = (nI 10) * x48) : 0 ≤ y68.toInt ∧ y68.toInt < ((123 : Nat) : Int) := by
  have b_y18 := ia_b y18
  have b_r24 := ia_b r24
  have b_x46 := ia_b x46
  have b_x48 := ia_b x48
  have b_r60 := ia_b r60
  have b_y68 := ia_b y68
  have b_y99 := ia_b y99
  try have k_0 := ia_n 0 (by first | decide | omega)
  try have k_1 := ia_n 1 (by first | decide | omega)
  try have k_2 := ia_n 10 (by first | decide | omega)
  try simp only [ia_lt, ia_le, ia_eq, ia_m1, ia_0, ia_1, ne_eq, true_and, and_true, false_and, and_false, or_false, false_or, or_true, true_or, not_true_eq_false, not_false_eq_true] at *
  all_goals omega
set_option maxRecDepth 20000 in
theorem lf_x_goP_30 (ksize : Nat) (kto : Nat) (ktapeF : Nat → Int32) (k5 : Nat) (n10 : Nat) (y18 : Int32) (r24 : Int32) (x46 : Int32) (k47 : Nat) (x48 : Int32) (n57 : Nat) (r60 : Int32) (y68 : Int32) (y99 : Int32) (n101 : Nat) (iv_ko_1 : ksize ≤ 940) (iv_ko_3 : kto ≤ ksize) (j6 : k5 ≤ 940) (j7 : k5 ≤ ksize) (j8 : kto ≤ k5) (hm12 : 940 - k5 < n10 + 1) (c17 : k5 < ksize) (e19 : y18 = ktapeF k5) (p25 : r24 = nI 0 ∨ r24 = nI 1) (j50 : x46 = nI 0 ∨ x46 = nI 1) (j51 : k47 ≤ 941) (j52 : k47 ≤ ksize) (j53 : kto ≤ k47) (j54 : k5 ≤ k47) (j55 : (x46 = nI 0 ∨ r24 = nI 1) ∨ (0 ≤ x48.toInt ∧ x48.toInt ≤ 999 ∧ (k5 + 3 ≤ k47 ∨ x48.toInt ≤ 99) ∧ (k5 + 2 ≤ k47 ∨ x48.toInt ≤ 9) ∧ (k5 + 1 ≤ k47 ∨ x48.toInt ≤ 0))) (hm59 : 940 - k47 < n57 + 1) (p61 : (k47 < ksize ∧ r60 = ktapeF k47) ∨ (ksize ≤ k47 ∧ r60 = nI 0)) (t64 : 97 ≤ r60.toInt) (t65 : r60.toInt ≤ 122) (e69 : y68 = ktapeF k47) (c70 : ¬ x46 = 0) (t91 : 97 ≤ y68.toInt) (t92 : y68.toInt ≤ 122) (c94 : nI 1 ≠ r24) (c98 : (k47 - k5) < 3) (e100 : y99 = (nI 10) * x48) (h102 : n101 < 123) (e103 : y68 = nI n101) : 97 ≤ n101 := by
  have b_y18 := ia_b y18
  have b_r24 := ia_b r24
  have b_x46 := ia_b x46
  have b_x48 := ia_b x48
  have b_r60 := ia_b r60
  have b_y68 := ia_b y68
  have b_y99 := ia_b y99
  try have k_0 := ia_n 0 (by first | decide | omega)
  try have k_1 := ia_n 1 (by first | decide | omega)
  try have k_2 := ia_n 10 (by first | decide | omega)
  try have k_3 := ia_n n101 (by first | decide | omega)
  try simp only [ia_lt, ia_le, ia_eq, ia_m1, ia_0, ia_1, ne_eq, true_and, and_true, false_and, and_false, or_false, false_or, or_true, true_or, not_true_eq_false, not_false_eq_true] at *
  all_goals omega
set_option maxRecDepth 20000 in
theorem lf_x_goP_31   : (nI 0) = nI 0 ∨ (nI 0) = nI 1 := by
  try have k_0 := ia_n 0 (by first | decide | omega)
  try have k_1 := ia_n 1 (by first | decide | omega)
  try simp only [ia_lt, ia_le, ia_eq, ia_m1, ia_0, ia_1, ne_eq, true_and, and_true, false_and, and_false, or_false, false_or, or_true, true_or, not_true_eq_false, not_false_eq_true] at *
  all_goals omega
set_option maxRecDepth 20000 in
theorem lf_x_goP_32 (ksize : Nat) (kto : Nat) (ktapeF : Nat → Int32) (k5 : Nat) (n10 : Nat) (y18 : Int32) (r24 : Int32) (x46 : Int32) (k47 : Nat) (x48 : Int32) (n57 : Nat) (r60 : Int32) (y68 : Int32) (y99 : Int32) (n101 : Nat) (y105 : Int32) (y107 : Int32) (iv_ko_1 : ksize ≤ 940) (iv_ko_3 : kto ≤ ksize) (j6 : k5 ≤ 940) (j7 : k5 ≤ ksize) (j8 : kto ≤ k5) (hm12 : 940 - k5 < n10 + 1) (c17 : k5 < ksize) (e19 : y18 = ktapeF k5) (p25 : r24 = nI 0 ∨ r24 = nI 1) (j50 : x46 = nI 0 ∨ x46 = nI 1) (j51 : k47 ≤ 941) (j52 : k47 ≤ ksize) (j53 : kto ≤ k47) (j54 : k5 ≤ k47) (j55 : (x46 = nI 0 ∨ r24 = nI 1) ∨ (0 ≤ x48.toInt ∧ x48.toInt ≤ 999 ∧ (k5 + 3 ≤ k47 ∨ x48.toInt ≤ 99) ∧ (k5 + 2 ≤ k47 ∨ x48.toInt ≤ 9) ∧ (k5 + 1 ≤ k47 ∨ x48.toInt ≤ 0))) (hm59 : 940 - k47 < n57 + 1) (p61 : (k47 < ksize ∧ r60 = ktapeF k47) ∨ (ksize ≤ k47 ∧ r60 = nI 0)) (t64 : 97 ≤ r60.toInt) (t65 : r60.toInt ≤ 122) (e69 : y68 = ktapeF k47) (c70 : ¬ x46 = 0) (t91 : 97 ≤ y68.toInt) (t92 : y68.toInt ≤ 122) (c94 : nI 1 ≠ r24) (c98 : (k47 - k5) < 3) (e100 : y99 = (nI 10) * x48) (h102 : n101 < 123) (e103 : y68 = nI n101) (f104 : 97 ≤ n101) (e106 : y105 = y99 + (nI n101)) (e108 : y107 = y105 - (nI 48)) : (k47 + 1) ≤ 941 := by
  have b_y18 := ia_b y18
  have b_r24 := ia_b r24
  have b_x46 := ia_b x46
  have b_x48 := ia_b x48
  have b_r60 := ia_b r60
  have b_y68 := ia_b y68
  have b_y99 := ia_b y99
  have b_y105 := ia_b y105
  have b_y107 := ia_b y107
  try have k_0 := ia_n 0 (by first | decide | omega)
  try have k_1 := ia_n 1 (by first | decide | omega)
  try have k_2 := ia_n 10 (by first | decide | omega)
  try have k_3 := ia_n n101 (by first | decide | omega)
  try have k_4 := ia_n 48 (by first | decide | omega)
  try simp only [ia_lt, ia_le, ia_eq, ia_m1, ia_0, ia_1, ne_eq, true_and, and_true, false_and, and_false, or_false, false_or, or_true, true_or, not_true_eq_false, not_false_eq_true] at *
  all_goals omega
set_option maxRecDepth 20000 in
theorem lf_x_goP_33 (ksize : Nat) (kto : Nat) (ktapeF : Nat → Int32) (k5 : Nat) (n10 : Nat) (y18 : Int32) (r24 : Int32) (x46 : Int32) (k47 : Nat) (x48 : Int32) (n57 : Nat) (r60 : Int32) (y68 : Int32) (y99 : Int32) (n101 : Nat) (y105 : Int32) (y107 : Int32) (iv_ko_1 : ksize ≤ 940) (iv_ko_3 : kto ≤ ksize) (j6 : k5 ≤ 940) (j7 : k5 ≤ ksize) (j8 : kto ≤ k5) (hm12 : 940 - k5 < n10 + 1) (c17 : k5 < ksize) (e19 : y18 = ktapeF k5) (p25 : r24 = nI 0 ∨ r24 = nI 1) (j50 : x46 = nI 0 ∨ x46 = nI 1) (j51 : k47 ≤ 941) (j52 : k47 ≤ ksize) (j53 : kto ≤ k47) (j54 : k5 ≤ k47) (j55 : (x46 = nI 0 ∨ r24 = nI 1) ∨ (0 ≤ x48.toInt ∧ x48.toInt ≤ 999 ∧ (k5 + 3 ≤ k47 ∨ x48.toInt ≤ 99) ∧ (k5 + 2 ≤ k47 ∨ x48.toInt ≤ 9) ∧ (k5 + 1 ≤ k47 ∨ x48.toInt ≤ 0))) (hm59 : 940 - k47 < n57 + 1) (p61 : (k47 < ksize ∧ r60 = ktapeF k47) ∨ (ksize ≤ k47 ∧ r60 = nI 0)) (t64 : 97 ≤ r60.toInt) (t65 : r60.toInt ≤ 122) (e69 : y68 = ktapeF k47) (c70 : ¬ x46 = 0) (t91 : 97 ≤ y68.toInt) (t92 : y68.toInt ≤ 122) (c94 : nI 1 ≠ r24) (c98 : (k47 - k5) < 3) (e100 : y99 = (nI 10) * x48) (h102 : n101 < 123) (e103 : y68 = nI n101) (f104 : 97 ≤ n101) (e106 : y105 = y99 + (nI n101)) (e108 : y107 = y105 - (nI 48)) : (k47 + 1) ≤ ksize := by
  have b_y18 := ia_b y18
  have b_r24 := ia_b r24
  have b_x46 := ia_b x46
  have b_x48 := ia_b x48
  have b_r60 := ia_b r60
  have b_y68 := ia_b y68
  have b_y99 := ia_b y99
  have b_y105 := ia_b y105
  have b_y107 := ia_b y107
  try have k_0 := ia_n 0 (by first | decide | omega)
  try have k_1 := ia_n 1 (by first | decide | omega)
  try have k_2 := ia_n 10 (by first | decide | omega)
  try have k_3 := ia_n n101 (by first | decide | omega)
  try have k_4 := ia_n 48 (by first | decide | omega)
  try simp only [ia_lt, ia_le, ia_eq, ia_m1, ia_0, ia_1, ne_eq, true_and, and_true, false_and, and_false, or_false, false_or, or_true, true_or, not_true_eq_false, not_false_eq_true] at *
  all_goals omega
set_option maxRecDepth 20000 in
theorem lf_x_goP_34 (ksize : Nat) (kto : Nat) (ktapeF : Nat → Int32) (k5 : Nat) (n10 : Nat) (y18 : Int32) (r24 : Int32) (x46 : Int32) (k47 : Nat) (x48 : Int32) (n57 : Nat) (r60 : Int32) (y68 : Int32) (y99 : Int32) (n101 : Nat) (y105 : Int32) (y107 : Int32) (iv_ko_1 : ksize ≤ 940) (iv_ko_3 : kto ≤ ksize) (j6 : k5 ≤ 940) (j7 : k5 ≤ ksize) (j8 : kto ≤ k5) (hm12 : 940 - k5 < n10 + 1) (c17 : k5 < ksize) (e19 : y18 = ktapeF k5) (p25 : r24 = nI 0 ∨ r24 = nI 1) (j50 : x46 = nI 0 ∨ x46 = nI 1) (j51 : k47 ≤ 941) (j52 : k47 ≤ ksize) (j53 : kto ≤ k47) (j54 : k5 ≤ k47) (j55 : (x46 = nI 0 ∨ r24 = nI 1) ∨ (0 ≤ x48.toInt ∧ x48.toInt ≤ 999 ∧ (k5 + 3 ≤ k47 ∨ x48.toInt ≤ 99) ∧ (k5 + 2 ≤ k47 ∨ x48.toInt ≤ 9) ∧ (k5 + 1 ≤ k47 ∨ x48.toInt ≤ 0))) (hm59 : 940 - k47 < n57 + 1) (p61 : (k47 < ksize ∧ r60 = ktapeF k47) ∨ (ksize ≤ k47 ∧ r60 = nI 0)) (t64 : 97 ≤ r60.toInt) (t65 : r60.toInt ≤ 122) (e69 : y68 = ktapeF k47) (c70 : ¬ x46 = 0) (t91 : 97 ≤ y68.toInt) (t92 : y68.toInt ≤ 122) (c94 : nI 1 ≠ r24) (c98 : (k47 - k5) < 3) (e100 : y99 = (nI 10) * x48) (h102 : n101 < 123) (e103 : y68 = nI n101) (f104 : 97 ≤ n101) (e106 : y105 = y99 + (nI n101)) (e108 : y107 = y105 - (nI 48)) : kto ≤ (k47 + 1) := by
  have b_y18 := ia_b y18
  have b_r24 := ia_b r24
  have b_x46 := ia_b x46
  have b_x48 := ia_b x48
  have b_r60 := ia_b r60
  have b_y68 := ia_b y68
  have b_y99 := ia_b y99
  have b_y105 := ia_b y105
  have b_y107 := ia_b y107
  try have k_0 := ia_n 0 (by first | decide | omega)
  try have k_1 := ia_n 1 (by first | decide | omega)
  try have k_2 := ia_n 10 (by first | decide | omega)
  try have k_3 := ia_n n101 (by first | decide | omega)
  try have k_4 := ia_n 48 (by first | decide | omega)
  try simp only [ia_lt, ia_le, ia_eq, ia_m1, ia_0, ia_1, ne_eq, true_and, and_true, false_and, and_false, or_false, false_or, or_true, true_or, not_true_eq_false, not_false_eq_true] at *
  all_goals omega
set_option maxRecDepth 20000 in
theorem lf_x_goP_35 (ksize : Nat) (kto : Nat) (ktapeF : Nat → Int32) (k5 : Nat) (n10 : Nat) (y18 : Int32) (r24 : Int32) (x46 : Int32) (k47 : Nat) (x48 : Int32) (n57 : Nat) (r60 : Int32) (y68 : Int32) (y99 : Int32) (n101 : Nat) (y105 : Int32) (y107 : Int32) (iv_ko_1 : ksize ≤ 940) (iv_ko_3 : kto ≤ ksize) (j6 : k5 ≤ 940) (j7 : k5 ≤ ksize) (j8 : kto ≤ k5) (hm12 : 940 - k5 < n10 + 1) (c17 : k5 < ksize) (e19 : y18 = ktapeF k5) (p25 : r24 = nI 0 ∨ r24 = nI 1) (j50 : x46 = nI 0 ∨ x46 = nI 1) (j51 : k47 ≤ 941) (j52 : k47 ≤ ksize) (j53 : kto ≤ k47) (j54 : k5 ≤ k47) (j55 : (x46 = nI 0 ∨ r24 = nI 1) ∨ (0 ≤ x48.toInt ∧ x48.toInt ≤ 999 ∧ (k5 + 3 ≤ k47 ∨ x48.toInt ≤ 99) ∧ (k5 + 2 ≤ k47 ∨ x48.toInt ≤ 9) ∧ (k5 + 1 ≤ k47 ∨ x48.toInt ≤ 0))) (hm59 : 940 - k47 < n57 + 1) (p61 : (k47 < ksize ∧ r60 = ktapeF k47) ∨ (ksize ≤ k47 ∧ r60 = nI 0)) (t64 : 97 ≤ r60.toInt) (t65 : r60.toInt ≤ 122) (e69 : y68 = ktapeF k47) (c70 : ¬ x46 = 0) (t91 : 97 ≤ y68.toInt) (t92 : y68.toInt ≤ 122) (c94 : nI 1 ≠ r24) (c98 : (k47 - k5) < 3) (e100 : y99 = (nI 10) * x48) (h102 : n101 < 123) (e103 : y68 = nI n101) (f104 : 97 ≤ n101) (e106 : y105 = y99 + (nI n101)) (e108 : y107 = y105 - (nI 48)) : k5 ≤ (k47 + 1) := by
  have b_y18 := ia_b y18
  have b_r24 := ia_b r24
  have b_x46 := ia_b x46
  have b_x48 := ia_b x48
  have b_r60 := ia_b r60
  have b_y68 := ia_b y68
  have b_y99 := ia_b y99
  have b_y105 := ia_b y105
  have b_y107 := ia_b y107
  try have k_0 := ia_n 0 (by first | decide | omega)
  try have k_1 := ia_n 1 (by first | decide | omega)
  try have k_2 := ia_n 10 (by first | decide | omega)
  try have k_3 := ia_n n101 (by first | decide | omega)
  try have k_4 := ia_n 48 (by first | decide | omega)
  try simp only [ia_lt, ia_le, ia_eq, ia_m1, ia_0, ia_1, ne_eq, true_and, and_true, false_and, and_false, or_false, false_or, or_true, true_or, not_true_eq_false, not_false_eq_true] at *
  all_goals omega
set_option maxRecDepth 20000 in
theorem lf_x_goP_36 (ksize : Nat) (kto : Nat) (ktapeF : Nat → Int32) (k5 : Nat) (n10 : Nat) (y18 : Int32) (r24 : Int32) (x46 : Int32) (k47 : Nat) (x48 : Int32) (n57 : Nat) (r60 : Int32) (y68 : Int32) (y99 : Int32) (n101 : Nat) (y105 : Int32) (y107 : Int32) (iv_ko_1 : ksize ≤ 940) (iv_ko_3 : kto ≤ ksize) (j6 : k5 ≤ 940) (j7 : k5 ≤ ksize) (j8 : kto ≤ k5) (hm12 : 940 - k5 < n10 + 1) (c17 : k5 < ksize) (e19 : y18 = ktapeF k5) (p25 : r24 = nI 0 ∨ r24 = nI 1) (j50 : x46 = nI 0 ∨ x46 = nI 1) (j51 : k47 ≤ 941) (j52 : k47 ≤ ksize) (j53 : kto ≤ k47) (j54 : k5 ≤ k47) (j55 : (x46 = nI 0 ∨ r24 = nI 1) ∨ (0 ≤ x48.toInt ∧ x48.toInt ≤ 999 ∧ (k5 + 3 ≤ k47 ∨ x48.toInt ≤ 99) ∧ (k5 + 2 ≤ k47 ∨ x48.toInt ≤ 9) ∧ (k5 + 1 ≤ k47 ∨ x48.toInt ≤ 0))) (hm59 : 940 - k47 < n57 + 1) (p61 : (k47 < ksize ∧ r60 = ktapeF k47) ∨ (ksize ≤ k47 ∧ r60 = nI 0)) (t64 : 97 ≤ r60.toInt) (t65 : r60.toInt ≤ 122) (e69 : y68 = ktapeF k47) (c70 : ¬ x46 = 0) (t91 : 97 ≤ y68.toInt) (t92 : y68.toInt ≤ 122) (c94 : nI 1 ≠ r24) (c98 : (k47 - k5) < 3) (e100 : y99 = (nI 10) * x48) (h102 : n101 < 123) (e103 : y68 = nI n101) (f104 : 97 ≤ n101) (e106 : y105 = y99 + (nI n101)) (e108 : y107 = y105 - (nI 48)) : ((nI 0) = nI 0 ∨ r24 = nI 1) ∨ (0 ≤ y107.toInt ∧ y107.toInt ≤ 999 ∧ (k5 + 3 ≤ (k47 + 1) ∨ y107.toInt ≤ 99) ∧ (k5 + 2 ≤ (k47 + 1) ∨ y107.toInt ≤ 9) ∧ (k5 + 1 ≤ (k47 + 1) ∨ y107.toInt ≤ 0)) := by
  have b_y18 := ia_b y18
  have b_r24 := ia_b r24
  have b_x46 := ia_b x46
  have b_x48 := ia_b x48
  have b_r60 := ia_b r60
  have b_y68 := ia_b y68
  have b_y99 := ia_b y99
  have b_y105 := ia_b y105
  have b_y107 := ia_b y107
  try have k_0 := ia_n 0 (by first | decide | omega)
  try have k_1 := ia_n 1 (by first | decide | omega)
  try have k_2 := ia_n 10 (by first | decide | omega)
  try have k_3 := ia_n n101 (by first | decide | omega)
  try have k_4 := ia_n 48 (by first | decide | omega)
  try simp only [ia_lt, ia_le, ia_eq, ia_m1, ia_0, ia_1, ne_eq, true_and, and_true, false_and, and_false, or_false, false_or, or_true, true_or, not_true_eq_false, not_false_eq_true] at *
  all_goals omega
set_option maxRecDepth 20000 in
theorem lf_x_goP_37 (ksize : Nat) (kto : Nat) (ktapeF : Nat → Int32) (k5 : Nat) (n10 : Nat) (y18 : Int32) (r24 : Int32) (x46 : Int32) (k47 : Nat) (x48 : Int32) (n57 : Nat) (r60 : Int32) (y68 : Int32) (y99 : Int32) (n101 : Nat) (y105 : Int32) (y107 : Int32) (iv_ko_1 : ksize ≤ 940) (iv_ko_3 : kto ≤ ksize) (j6 : k5 ≤ 940) (j7 : k5 ≤ ksize) (j8 : kto ≤ k5) (hm12 : 940 - k5 < n10 + 1) (c17 : k5 < ksize) (e19 : y18 = ktapeF k5) (p25 : r24 = nI 0 ∨ r24 = nI 1) (j50 : x46 = nI 0 ∨ x46 = nI 1) (j51 : k47 ≤ 941) (j52 : k47 ≤ ksize) (j53 : kto ≤ k47) (j54 : k5 ≤ k47) (j55 : (x46 = nI 0 ∨ r24 = nI 1) ∨ (0 ≤ x48.toInt ∧ x48.toInt ≤ 999 ∧ (k5 + 3 ≤ k47 ∨ x48.toInt ≤ 99) ∧ (k5 + 2 ≤ k47 ∨ x48.toInt ≤ 9) ∧ (k5 + 1 ≤ k47 ∨ x48.toInt ≤ 0))) (hm59 : 940 - k47 < n57 + 1) (p61 : (k47 < ksize ∧ r60 = ktapeF k47) ∨ (ksize ≤ k47 ∧ r60 = nI 0)) (t64 : 97 ≤ r60.toInt) (t65 : r60.toInt ≤ 122) (e69 : y68 = ktapeF k47) (c70 : ¬ x46 = 0) (t91 : 97 ≤ y68.toInt) (t92 : y68.toInt ≤ 122) (c94 : nI 1 ≠ r24) (c98 : (k47 - k5) < 3) (e100 : y99 = (nI 10) * x48) (h102 : n101 < 123) (e103 : y68 = nI n101) (f104 : 97 ≤ n101) (e106 : y105 = y99 + (nI n101)) (e108 : y107 = y105 - (nI 48)) : 940 - (k47 + 1) < n57 := by
  have b_y18 := ia_b y18
  have b_r24 := ia_b r24
  have b_x46 := ia_b x46
  have b_x48 := ia_b x48
  have b_r60 := ia_b r60
  have b_y68 := ia_b y68
  have b_y99 := ia_b y99
  have b_y105 := ia_b y105
  have b_y107 := ia_b y107
  try have k_0 := ia_n 0 (by first | decide | omega)
  try have k_1 := ia_n 1 (by first | decide | omega)
  try have k_2 := ia_n 10 (by first | decide | omega)
  try have k_3 := ia_n n101 (by first | decide | omega)
  try have k_4 := ia_n 48 (by first | decide | omega)
  try simp only [ia_lt, ia_le, ia_eq, ia_m1, ia_0, ia_1, ne_eq, true_and, and_true, false_and, and_false, or_false, false_or, or_true, true_or, not_true_eq_false, not_false_eq_true] at *
  all_goals omega
set_option maxRecDepth 20000 in
theorem lf_x_goP_38 (ksize : Nat) (kto : Nat) (ktapeF : Nat → Int32) (k5 : Nat) (n10 : Nat) (y18 : Int32) (r24 : Int32) (x46 : Int32) (k47 : Nat) (x48 : Int32) (n57 : Nat) (r60 : Int32) (y68 : Int32) (iv_ko_1 : ksize ≤ 940) (iv_ko_3 : kto ≤ ksize) (j6 : k5 ≤ 940) (j7 : k5 ≤ ksize) (j8 : kto ≤ k5) (hm12 : 940 - k5 < n10 + 1) (c17 : k5 < ksize) (e19 : y18 = ktapeF k5) (p25 : r24 = nI 0 ∨ r24 = nI 1) (j50 : x46 = nI 0 ∨ x46 = nI 1) (j51 : k47 ≤ 941) (j52 : k47 ≤ ksize) (j53 : kto ≤ k47) (j54 : k5 ≤ k47) (j55 : (x46 = nI 0 ∨ r24 = nI 1) ∨ (0 ≤ x48.toInt ∧ x48.toInt ≤ 999 ∧ (k5 + 3 ≤ k47 ∨ x48.toInt ≤ 99) ∧ (k5 + 2 ≤ k47 ∨ x48.toInt ≤ 9) ∧ (k5 + 1 ≤ k47 ∨ x48.toInt ≤ 0))) (hm59 : 940 - k47 < n57 + 1) (p61 : (k47 < ksize ∧ r60 = ktapeF k47) ∨ (ksize ≤ k47 ∧ r60 = nI 0)) (t64 : 97 ≤ r60.toInt) (t65 : r60.toInt ≤ 122) (e69 : y68 = ktapeF k47) (c70 : ¬ x46 = 0) (t91 : 97 ≤ y68.toInt) (t92 : y68.toInt ≤ 122) (c94 : nI 1 = r24) : k5 ≤ k47 := by
  have b_y18 := ia_b y18
  have b_r24 := ia_b r24
  have b_x46 := ia_b x46
  have b_x48 := ia_b x48
  have b_r60 := ia_b r60
  have b_y68 := ia_b y68
  try have k_0 := ia_n 0 (by first | decide | omega)
  try have k_1 := ia_n 1 (by first | decide | omega)
  try simp only [ia_lt, ia_le, ia_eq, ia_m1, ia_0, ia_1, ne_eq, true_and, and_true, false_and, and_false, or_false, false_or, or_true, true_or, not_true_eq_false, not_false_eq_true] at *
  all_goals omega
set_option maxRecDepth 20000 in
theorem lf_x_goP_39 (ksize : Nat) (kto : Nat) (ktapeF : Nat → Int32) (k5 : Nat) (n10 : Nat) (y18 : Int32) (r24 : Int32) (x46 : Int32) (k47 : Nat) (x48 : Int32) (n57 : Nat) (r60 : Int32) (y68 : Int32) (iv_ko_1 : ksize ≤ 940) (iv_ko_3 : kto ≤ ksize) (j6 : k5 ≤ 940) (j7 : k5 ≤ ksize) (j8 : kto ≤ k5) (hm12 : 940 - k5 < n10 + 1) (c17 : k5 < ksize) (e19 : y18 = ktapeF k5) (p25 : r24 = nI 0 ∨ r24 = nI 1) (j50 : x46 = nI 0 ∨ x46 = nI 1) (j51 : k47 ≤ 941) (j52 : k47 ≤ ksize) (j53 : kto ≤ k47) (j54 : k5 ≤ k47) (j55 : (x46 = nI 0 ∨ r24 = nI 1) ∨ (0 ≤ x48.toInt ∧ x48.toInt ≤ 999 ∧ (k5 + 3 ≤ k47 ∨ x48.toInt ≤ 99) ∧ (k5 + 2 ≤ k47 ∨ x48.toInt ≤ 9) ∧ (k5 + 1 ≤ k47 ∨ x48.toInt ≤ 0))) (hm59 : 940 - k47 < n57 + 1) (p61 : (k47 < ksize ∧ r60 = ktapeF k47) ∨ (ksize ≤ k47 ∧ r60 = nI 0)) (t64 : 97 ≤ r60.toInt) (t65 : r60.toInt ≤ 122) (e69 : y68 = ktapeF k47) (c70 : ¬ x46 = 0) (t91 : 97 ≤ y68.toInt) (t92 : y68.toInt ≤ 122) (c94 : nI 1 = r24) : k5 ≤ k47 := by
  have b_y18 := ia_b y18
  have b_r24 := ia_b r24
  have b_x46 := ia_b x46
  have b_x48 := ia_b x48
  have b_r60 := ia_b r60
  have b_y68 := ia_b y68
  try have k_0 := ia_n 0 (by first | decide | omega)
  try have k_1 := ia_n 1 (by first | decide | omega)
  try simp only [ia_lt, ia_le, ia_eq, ia_m1, ia_0, ia_1, ne_eq, true_and, and_true, false_and, and_false, or_false, false_or, or_true, true_or, not_true_eq_false, not_false_eq_true] at *
  all_goals omega
set_option maxRecDepth 20000 in
theorem lf_x_goP_40   : (nI 1) = nI 0 ∨ (nI 1) = nI 1 := by
  try have k_0 := ia_n 1 (by first | decide | omega)
  try have k_1 := ia_n 0 (by first | decide | omega)
  try simp only [ia_lt, ia_le, ia_eq, ia_m1, ia_0, ia_1, ne_eq, true_and, and_true, false_and, and_false, or_false, false_or, or_true, true_or, not_true_eq_false, not_false_eq_true] at *
  all_goals omega
set_option maxRecDepth 20000 in
theorem lf_x_goP_41 (ksize : Nat) (kto : Nat) (ktapeF : Nat → Int32) (k5 : Nat) (n10 : Nat) (y18 : Int32) (r24 : Int32) (x46 : Int32) (k47 : Nat) (x48 : Int32) (n57 : Nat) (r60 : Int32) (y68 : Int32) (iv_ko_1 : ksize ≤ 940) (iv_ko_3 : kto ≤ ksize) (j6 : k5 ≤ 940) (j7 : k5 ≤ ksize) (j8 : kto ≤ k5) (hm12 : 940 - k5 < n10 + 1) (c17 : k5 < ksize) (e19 : y18 = ktapeF k5) (p25 : r24 = nI 0 ∨ r24 = nI 1) (j50 : x46 = nI 0 ∨ x46 = nI 1) (j51 : k47 ≤ 941) (j52 : k47 ≤ ksize) (j53 : kto ≤ k47) (j54 : k5 ≤ k47) (j55 : (x46 = nI 0 ∨ r24 = nI 1) ∨ (0 ≤ x48.toInt ∧ x48.toInt ≤ 999 ∧ (k5 + 3 ≤ k47 ∨ x48.toInt ≤ 99) ∧ (k5 + 2 ≤ k47 ∨ x48.toInt ≤ 9) ∧ (k5 + 1 ≤ k47 ∨ x48.toInt ≤ 0))) (hm59 : 940 - k47 < n57 + 1) (p61 : (k47 < ksize ∧ r60 = ktapeF k47) ∨ (ksize ≤ k47 ∧ r60 = nI 0)) (t64 : 97 ≤ r60.toInt) (t65 : r60.toInt ≤ 122) (e69 : y68 = ktapeF k47) (c70 : ¬ x46 = 0) (t91 : 97 ≤ y68.toInt) (t92 : y68.toInt ≤ 122) (c94 : nI 1 = r24) (c120 : 3 ≤ (k47 - k5)) : (k47 + 1) ≤ 941 := by
  have b_y18 := ia_b y18
  have b_r24 := ia_b r24
  have b_x46 := ia_b x46
  have b_x48 := ia_b x48
  have b_r60 := ia_b r60
  have b_y68 := ia_b y68
  try have k_0 := ia_n 0 (by first | decide | omega)
  try have k_1 := ia_n 1 (by first | decide | omega)
  try simp only [ia_lt, ia_le, ia_eq, ia_m1, ia_0, ia_1, ne_eq, true_and, and_true, false_and, and_false, or_false, false_or, or_true, true_or, not_true_eq_false, not_false_eq_true] at *
  all_goals omega
set_option maxRecDepth 20000 in
theorem lf_x_goP_42 (ksize : Nat) (kto : Nat) (ktapeF : Nat → Int32) (k5 : Nat) (n10 : Nat) (y18 : Int32) (r24 : Int32) (x46 : Int32) (k47 : Nat) (x48 : Int32) (n57 : Nat) (r60 : Int32) (y68 : Int32) (iv_ko_1 : ksize ≤ 940) (iv_ko_3 : kto ≤ ksize) (j6 : k5 ≤ 940) (j7 : k5 ≤ ksize) (j8 : kto ≤ k5) (hm12 : 940 - k5 < n10 + 1) (c17 : k5 < ksize) (e19 : y18 = ktapeF k5) (p25 : r24 = nI 0 ∨ r24 = nI 1) (j50 : x46 = nI 0 ∨ x46 = nI 1) (j51 : k47 ≤ 941) (j52 : k47 ≤ ksize) (j53 : kto ≤ k47) (j54 : k5 ≤ k47) (j55 : (x46 = nI 0 ∨ r24 = nI 1) ∨ (0 ≤ x48.toInt ∧ x48.toInt ≤ 999 ∧ (k5 + 3 ≤ k47 ∨ x48.toInt ≤ 99) ∧ (k5 + 2 ≤ k47 ∨ x48.toInt ≤ 9) ∧ (k5 + 1 ≤ k47 ∨ x48.toInt ≤ 0))) (hm59 : 940 - k47 < n57 + 1) (p61 : (k47 < ksize ∧ r60 = ktapeF k47) ∨ (ksize ≤ k47 ∧ r60 = nI 0)) (t64 : 97 ≤ r60.toInt) (t65 : r60.toInt ≤ 122) (e69 : y68 = ktapeF k47) (c70 : ¬ x46 = 0) (t91 : 97 ≤ y68.toInt) (t92 : y68.toInt ≤ 122) (c94 : nI 1 = r24) (c120 : 3 ≤ (k47 - k5)) : (k47 + 1) ≤ ksize := by
  have b_y18 := ia_b y18
  have b_r24 := ia_b r24
  have b_x46 := ia_b x46
  have b_x48 := ia_b x48
  have b_r60 := ia_b r60
  have b_y68 := ia_b y68
  try have k_0 := ia_n 0 (by first | decide | omega)
  try have k_1 := ia_n 1 (by first | decide | omega)
  try simp only [ia_lt, ia_le, ia_eq, ia_m1, ia_0, ia_1, ne_eq, true_and, and_true, false_and, and_false, or_false, false_or, or_true, true_or, not_true_eq_false, not_false_eq_true] at *
  all_goals omega
set_option maxRecDepth 20000 in
theorem lf_x_goP_43 (ksize : Nat) (kto : Nat) (ktapeF : Nat → Int32) (k5 : Nat) (n10 : Nat) (y18 : Int32) (r24 : Int32) (x46 : Int32) (k47 : Nat) (x48 : Int32) (n57 : Nat) (r60 : Int32) (y68 : Int32) (iv_ko_1 : ksize ≤ 940) (iv_ko_3 : kto ≤ ksize) (j6 : k5 ≤ 940) (j7 : k5 ≤ ksize) (j8 : kto ≤ k5) (hm12 : 940 - k5 < n10 + 1) (c17 : k5 < ksize) (e19 : y18 = ktapeF k5) (p25 : r24 = nI 0 ∨ r24 = nI 1) (j50 : x46 = nI 0 ∨ x46 = nI 1) (j51 : k47 ≤ 941) (j52 : k47 ≤ ksize) (j53 : kto ≤ k47) (j54 : k5 ≤ k47) (j55 : (x46 = nI 0 ∨ r24 = nI 1) ∨ (0 ≤ x48.toInt ∧ x48.toInt ≤ 999 ∧ (k5 + 3 ≤ k47 ∨ x48.toInt ≤ 99) ∧ (k5 + 2 ≤ k47 ∨ x48.toInt ≤ 9) ∧ (k5 + 1 ≤ k47 ∨ x48.toInt ≤ 0))) (hm59 : 940 - k47 < n57 + 1) (p61 : (k47 < ksize ∧ r60 = ktapeF k47) ∨ (ksize ≤ k47 ∧ r60 = nI 0)) (t64 : 97 ≤ r60.toInt) (t65 : r60.toInt ≤ 122) (e69 : y68 = ktapeF k47) (c70 : ¬ x46 = 0) (t91 : 97 ≤ y68.toInt) (t92 : y68.toInt ≤ 122) (c94 : nI 1 = r24) (c120 : 3 ≤ (k47 - k5)) : kto ≤ (k47 + 1) := by
  have b_y18 := ia_b y18
  have b_r24 := ia_b r24
  have b_x46 := ia_b x46
  have b_x48 := ia_b x48
  have b_r60 := ia_b r60
  have b_y68 := ia_b y68
  try have k_0 := ia_n 0 (by first | decide | omega)
  try have k_1 := ia_n 1 (by first | decide | omega)
  try simp only [ia_lt, ia_le, ia_eq, ia_m1, ia_0, ia_1, ne_eq, true_and, and_true, false_and, and_false, or_false, false_or, or_true, true_or, not_true_eq_false, not_false_eq_true] at *
  all_goals omega
set_option maxRecDepth 20000 in
theorem lf_x_goP_44 (ksize : Nat) (kto : Nat) (ktapeF : Nat → Int32) (k5 : Nat) (n10 : Nat) (y18 : Int32) (r24 : Int32) (x46 : Int32) (k47 : Nat) (x48 : Int32) (n57 : Nat) (r60 : Int32) (y68 : Int32) (iv_ko_1 : ksize ≤ 940) (iv_ko_3 : kto ≤ ksize) (j6 : k5 ≤ 940) (j7 : k5 ≤ ksize) (j8 : kto ≤ k5) (hm12 : 940 - k5 < n10 + 1) (c17 : k5 < ksize) (e19 : y18 = ktapeF k5) (p25 : r24 = nI 0 ∨ r24 = nI 1) (j50 : x46 = nI 0 ∨ x46 = nI 1) (j51 : k47 ≤ 941) (j52 : k47 ≤ ksize) (j53 : kto ≤ k47) (j54 : k5 ≤ k47) (j55 : (x46 = nI 0 ∨ r24 = nI 1) ∨ (0 ≤ x48.toInt ∧ x48.toInt ≤ 999 ∧ (k5 + 3 ≤ k47 ∨ x48.toInt ≤ 99) ∧ (k5 + 2 ≤ k47 ∨ x48.toInt ≤ 9) ∧ (k5 + 1 ≤ k47 ∨ x48.toInt ≤ 0))) (hm59 : 940 - k47 < n57 + 1) (p61 : (k47 < ksize ∧ r60 = ktapeF k47) ∨ (ksize ≤ k47 ∧ r60 = nI 0)) (t64 : 97 ≤ r60.toInt) (t65 : r60.toInt ≤ 122) (e69 : y68 = ktapeF k47) (c70 : ¬ x46 = 0) (t91 : 97 ≤ y68.toInt) (t92 : y68.toInt ≤ 122) (c94 : nI 1 = r24) (c120 : 3 ≤ (k47 - k5)) : k5 ≤ (k47 + 1) := by
  have b_y18 := ia_b y18
  have b_r24 := ia_b r24
  have b_x46 := ia_b x46
  have b_x48 := ia_b x48
  have b_r60 := ia_b r60
  have b_y68 := ia_b y68
  try have k_0 := ia_n 0 (by first | decide | omega)
  try have k_1 := ia_n 1 (by first | decide | omega)
  try simp only [ia_lt, ia_le, ia_eq, ia_m1, ia_0, ia_1, ne_eq, true_and, and_true, false_and, and_false, or_false, false_or, or_true, true_or, not_true_eq_false, not_false_eq_true] at *
  all_goals omega
set_option maxRecDepth 20000 in
theorem lf_x_goP_45 (ksize : Nat) (kto : Nat) (ktapeF : Nat → Int32) (k5 : Nat) (n10 : Nat) (y18 : Int32) (r24 : Int32) (x46 : Int32) (k47 : Nat) (x48 : Int32) (n57 : Nat) (r60 : Int32) (y68 : Int32) (iv_ko_1 : ksize ≤ 940) (iv_ko_3 : kto ≤ ksize) (j6 : k5 ≤ 940) (j7 : k5 ≤ ksize) (j8 : kto ≤ k5) (hm12 : 940 - k5 < n10 + 1) (c17 : k5 < ksize) (e19 : y18 = ktapeF k5) (p25 : r24 = nI 0 ∨ r24 = nI 1) (j50 : x46 = nI 0 ∨ x46 = nI 1) (j51 : k47 ≤ 941) (j52 : k47 ≤ ksize) (j53 : kto ≤ k47) (j54 : k5 ≤ k47) (j55 : (x46 = nI 0 ∨ r24 = nI 1) ∨ (0 ≤ x48.toInt ∧ x48.toInt ≤ 999 ∧ (k5 + 3 ≤ k47 ∨ x48.toInt ≤ 99) ∧ (k5 + 2 ≤ k47 ∨ x48.toInt ≤ 9) ∧ (k5 + 1 ≤ k47 ∨ x48.toInt ≤ 0))) (hm59 : 940 - k47 < n57 + 1) (p61 : (k47 < ksize ∧ r60 = ktapeF k47) ∨ (ksize ≤ k47 ∧ r60 = nI 0)) (t64 : 97 ≤ r60.toInt) (t65 : r60.toInt ≤ 122) (e69 : y68 = ktapeF k47) (c70 : ¬ x46 = 0) (t91 : 97 ≤ y68.toInt) (t92 : y68.toInt ≤ 122) (c94 : nI 1 = r24) (c120 : 3 ≤ (k47 - k5)) : ((nI 1) = nI 0 ∨ r24 = nI 1) ∨ (0 ≤ x48.toInt ∧ x48.toInt ≤ 999 ∧ (k5 + 3 ≤ (k47 + 1) ∨ x48.toInt ≤ 99) ∧ (k5 + 2 ≤ (k47 + 1) ∨ x48.toInt ≤ 9) ∧ (k5 + 1 ≤ (k47 + 1) ∨ x48.toInt ≤ 0)) := by
  have b_y18 := ia_b y18
  have b_r24 := ia_b r24
  have b_x46 := ia_b x46
  have b_x48 := ia_b x48
  have b_r60 := ia_b r60
  have b_y68 := ia_b y68
  try have k_0 := ia_n 0 (by first | decide | omega)
  try have k_1 := ia_n 1 (by first | decide | omega)
  try simp only [ia_lt, ia_le, ia_eq, ia_m1, ia_0, ia_1, ne_eq, true_and, and_true, false_and, and_false, or_false, false_or, or_true, true_or, not_true_eq_false, not_false_eq_true] at *
  all_goals omega
set_option maxRecDepth 20000 in
theorem lf_x_goP_46 (ksize : Nat) (kto : Nat) (ktapeF : Nat → Int32) (k5 : Nat) (n10 : Nat) (y18 : Int32) (r24 : Int32) (x46 : Int32) (k47 : Nat) (x48 : Int32) (n57 : Nat) (r60 : Int32) (y68 : Int32) (iv_ko_1 : ksize ≤ 940) (iv_ko_3 : kto ≤ ksize) (j6 : k5 ≤ 940) (j7 : k5 ≤ ksize) (j8 : kto ≤ k5) (hm12 : 940 - k5 < n10 + 1) (c17 : k5 < ksize) (e19 : y18 = ktapeF k5) (p25 : r24 = nI 0 ∨ r24 = nI 1) (j50 : x46 = nI 0 ∨ x46 = nI 1) (j51 : k47 ≤ 941) (j52 : k47 ≤ ksize) (j53 : kto ≤ k47) (j54 : k5 ≤ k47) (j55 : (x46 = nI 0 ∨ r24 = nI 1) ∨ (0 ≤ x48.toInt ∧ x48.toInt ≤ 999 ∧ (k5 + 3 ≤ k47 ∨ x48.toInt ≤ 99) ∧ (k5 + 2 ≤ k47 ∨ x48.toInt ≤ 9) ∧ (k5 + 1 ≤ k47 ∨ x48.toInt ≤ 0))) (hm59 : 940 - k47 < n57 + 1) (p61 : (k47 < ksize ∧ r60 = ktapeF k47) ∨ (ksize ≤ k47 ∧ r60 = nI 0)) (t64 : 97 ≤ r60.toInt) (t65 : r60.toInt ≤ 122) (e69 : y68 = ktapeF k47) (c70 : ¬ x46 = 0) (t91 : 97 ≤ y68.toInt) (t92 : y68.toInt ≤ 122) (c94 : nI 1 = r24) (c120 : 3 ≤ (k47 - k5)) : 940 - (k47 + 1) < n57 := by
  have b_y18 := ia_b y18
  have b_r24 := ia_b r24
  have b_x46 := ia_b x46
  have b_x48 := ia_b x48
  have b_r60 := ia_b r60
  have b_y68 := ia_b y68
  try have k_0 := ia_n 0 (by first | decide | omega)
  try have k_1 := ia_n 1 (by first | decide | omega)
  try simp only [ia_lt, ia_le, ia_eq, ia_m1, ia_0, ia_1, ne_eq, true_and, and_true, false_and, and_false, or_false, false_or, or_true, true_or, not_true_eq_false, not_false_eq_true] at *
  all_goals omega
set_option maxRecDepth 20000 in
theorem lf_x_goP_47 (ksize : Nat) (kto : Nat) (ktapeF : Nat → Int32) (k5 : Nat) (n10 : Nat) (y18 : Int32) (r24 : Int32) (x46 : Int32) (k47 : Nat) (x48 : Int32) (n57 : Nat) (r60 : Int32) (y68 : Int32) (y121 : Int32) (iv_ko_1 : ksize ≤ 940) (iv_ko_3 : kto ≤ ksize) (j6 : k5 ≤ 940) (j7 : k5 ≤ ksize) (j8 : kto ≤ k5) (hm12 : 940 - k5 < n10 + 1) (c17 : k5 < ksize) (e19 : y18 = ktapeF k5) (p25 : r24 = nI 0 ∨ r24 = nI 1) (j50 : x46 = nI 0 ∨ x46 = nI 1) (j51 : k47 ≤ 941) (j52 : k47 ≤ ksize) (j53 : kto ≤ k47) (j54 : k5 ≤ k47) (j55 : (x46 = nI 0 ∨ r24 = nI 1) ∨ (0 ≤ x48.toInt ∧ x48.toInt ≤ 999 ∧ (k5 + 3 ≤ k47 ∨ x48.toInt ≤ 99) ∧ (k5 + 2 ≤ k47 ∨ x48.toInt ≤ 9) ∧ (k5 + 1 ≤ k47 ∨ x48.toInt ≤ 0))) (hm59 : 940 - k47 < n57 + 1) (p61 : (k47 < ksize ∧ r60 = ktapeF k47) ∨ (ksize ≤ k47 ∧ r60 = nI 0)) (t64 : 97 ≤ r60.toInt) (t65 : r60.toInt ≤ 122) (e69 : y68 = ktapeF k47) (c70 : ¬ x46 = 0) (t91 : 97 ≤ y68.toInt) (t92 : y68.toInt ≤ 122) (c94 : nI 1 = r24) (c120 : (k47 - k5) < 3) (e122 : y121 = (nI 10) * x48) : 0 ≤ y68.toInt ∧ y68.toInt < ((123 : Nat) : Int) := by
  have b_y18 := ia_b y18
  have b_r24 := ia_b r24
  have b_x46 := ia_b x46
  have b_x48 := ia_b x48
  have b_r60 := ia_b r60
  have b_y68 := ia_b y68
  have b_y121 := ia_b y121
  try have k_0 := ia_n 0 (by first | decide | omega)
  try have k_1 := ia_n 1 (by first | decide | omega)
  try have k_2 := ia_n 10 (by first | decide | omega)
  try simp only [ia_lt, ia_le, ia_eq, ia_m1, ia_0, ia_1, ne_eq, true_and, and_true, false_and, and_false, or_false, false_or, or_true, true_or, not_true_eq_false, not_false_eq_true] at *
  all_goals omega
set_option maxRecDepth 20000 in
theorem lf_x_goP_48 (ksize : Nat) (kto : Nat) (ktapeF : Nat → Int32) (k5 : Nat) (n10 : Nat) (y18 : Int32) (r24 : Int32) (x46 : Int32) (k47 : Nat) (x48 : Int32) (n57 : Nat) (r60 : Int32) (y68 : Int32) (y121 : Int32) (n123 : Nat) (iv_ko_1 : ksize ≤ 940) (iv_ko_3 : kto ≤ ksize) (j6 : k5 ≤ 940) (j7 : k5 ≤ ksize) (j8 : kto ≤ k5) (hm12 : 940 - k5 < n10 + 1) (c17 : k5 < ksize) (e19 : y18 = ktapeF k5) (p25 : r24 = nI 0 ∨ r24 = nI 1) (j50 : x46 = nI 0 ∨ x46 = nI 1) (j51 : k47 ≤ 941) (j52 : k47 ≤ ksize) (j53 : kto ≤ k47) (j54 : k5 ≤ k47) (j55 : (x46 = nI 0 ∨ r24 = nI 1) ∨ (0 ≤ x48.toInt ∧ x48.toInt ≤ 999 ∧ (k5 + 3 ≤ k47 ∨ x48.toInt ≤ 99) ∧ (k5 + 2 ≤ k47 ∨ x48.toInt ≤ 9) ∧ (k5 + 1 ≤ k47 ∨ x48.toInt ≤ 0))) (hm59 : 940 - k47 < n57 + 1) (p61 : (k47 < ksize ∧ r60 = ktapeF k47) ∨ (ksize ≤ k47 ∧ r60 = nI 0)) (t64 : 97 ≤ r60.toInt) (t65 : r60.toInt ≤ 122) (e69 : y68 = ktapeF k47) (c70 : ¬ x46 = 0) (t91 : 97 ≤ y68.toInt) (t92 : y68.toInt ≤ 122) (c94 : nI 1 = r24) (c120 : (k47 - k5) < 3) (e122 : y121 = (nI 10) * x48) (h124 : n123 < 123) (e125 : y68 = nI n123) : 97 ≤ n123 := by
  have b_y18 := ia_b y18
  have b_r24 := ia_b r24
  have b_x46 := ia_b x46
  have b_x48 := ia_b x48
  have b_r60 := ia_b r60
  have b_y68 := ia_b y68
  have b_y121 := ia_b y121
  try have k_0 := ia_n 0 (by first | decide | omega)
  try have k_1 := ia_n 1 (by first | decide | omega)
  try have k_2 := ia_n 10 (by first | decide | omega)
  try have k_3 := ia_n n123 (by first | decide | omega)
  try simp only [ia_lt, ia_le, ia_eq, ia_m1, ia_0, ia_1, ne_eq, true_and, and_true, false_and, and_false, or_false, false_or, or_true, true_or, not_true_eq_false, not_false_eq_true] at *
  all_goals omega
set_option maxRecDepth 20000 in
theorem lf_x_goP_49   : (nI 1) = nI 0 ∨ (nI 1) = nI 1 := by
  try have k_0 := ia_n 1 (by first | decide | omega)
  try have k_1 := ia_n 0 (by first | decide | omega)
  try simp only [ia_lt, ia_le, ia_eq, ia_m1, ia_0, ia_1, ne_eq, true_and, and_true, false_and, and_false, or_false, false_or, or_true, true_or, not_true_eq_false, not_false_eq_true] at *
  all_goals omega
set_option maxRecDepth 20000 in
theorem lf_x_goP_50 (ksize : Nat) (kto : Nat) (ktapeF : Nat → Int32) (k5 : Nat) (n10 : Nat) (y18 : Int32) (r24 : Int32) (x46 : Int32) (k47 : Nat) (x48 : Int32) (n57 : Nat) (r60 : Int32) (y68 : Int32) (y121 : Int32) (n123 : Nat) (y127 : Int32) (y129 : Int32) (iv_ko_1 : ksize ≤ 940) (iv_ko_3 : kto ≤ ksize) (j6 : k5 ≤ 940) (j7 : k5 ≤ ksize) (j8 : kto ≤ k5) (hm12 : 940 - k5 < n10 + 1) (c17 : k5 < ksize) (e19 : y18 = ktapeF k5) (p25 : r24 = nI 0 ∨ r24 = nI 1) (j50 : x46 = nI 0 ∨ x46 = nI 1) (j51 : k47 ≤ 941) (j52 : k47 ≤ ksize) (j53 : kto ≤ k47) (j54 : k5 ≤ k47) (j55 : (x46 = nI 0 ∨ r24 = nI 1) ∨ (0 ≤ x48.toInt ∧ x48.toInt ≤ 999 ∧ (k5 + 3 ≤ k47 ∨ x48.toInt ≤ 99) ∧ (k5 + 2 ≤ k47 ∨ x48.toInt ≤ 9) ∧ (k5 + 1 ≤ k47 ∨ x48.toInt ≤ 0))) (hm59 : 940 - k47 < n57 + 1) (p61 : (k47 < ksize ∧ r60 = ktapeF k47) ∨ (ksize ≤ k47 ∧ r60 = nI 0)) (t64 : 97 ≤ r60.toInt) (t65 : r60.toInt ≤ 122) (e69 : y68 = ktapeF k47) (c70 : ¬ x46 = 0) (t91 : 97 ≤ y68.toInt) (t92 : y68.toInt ≤ 122) (c94 : nI 1 = r24) (c120 : (k47 - k5) < 3) (e122 : y121 = (nI 10) * x48) (h124 : n123 < 123) (e125 : y68 = nI n123) (f126 : 97 ≤ n123) (e128 : y127 = y121 + (nI n123)) (e130 : y129 = y127 - (nI 48)) : (k47 + 1) ≤ 941 := by
  have b_y18 := ia_b y18
  have b_r24 := ia_b r24
  have b_x46 := ia_b x46
  have b_x48 := ia_b x48
  have b_r60 := ia_b r60
  have b_y68 := ia_b y68
  have b_y121 := ia_b y121
  have b_y127 := ia_b y127
  have b_y129 := ia_b y129
  try have k_0 := ia_n 0 (by first | decide | omega)
  try have k_1 := ia_n 1 (by first | decide | omega)
  try have k_2 := ia_n 10 (by first | decide | omega)
  try have k_3 := ia_n n123 (by first | decide | omega)
  try have k_4 := ia_n 48 (by first | decide | omega)
  try simp only [ia_lt, ia_le, ia_eq, ia_m1, ia_0, ia_1, ne_eq, true_and, and_true, false_and, and_false, or_false, false_or, or_true, true_or, not_true_eq_false, not_false_eq_true] at *
  all_goals omega
set_option maxRecDepth 20000 in
theorem lf_x_goP_51 (ksize : Nat) (kto : Nat) (ktapeF : Nat → Int32) (k5 : Nat) (n10 : Nat) (y18 : Int32) (r24 : Int32) (x46 : Int32) (k47 : Nat) (x48 : Int32) (n57 : Nat) (r60 : Int32) (y68 : Int32) (y121 : Int32) (n123 : Nat) (y127 : Int32) (y129 : Int32) (iv_ko_1 : ksize ≤ 940) (iv_ko_3 : kto ≤ ksize) (j6 : k5 ≤ 940) (j7 : k5 ≤ ksize) (j8 : kto ≤ k5) (hm12 : 940 - k5 < n10 + 1) (c17 : k5 < ksize) (e19 : y18 = ktapeF k5) (p25 : r24 = nI 0 ∨ r24 = nI 1) (j50 : x46 = nI 0 ∨ x46 = nI 1) (j51 : k47 ≤ 941) (j52 : k47 ≤ ksize) (j53 : kto ≤ k47) (j54 : k5 ≤ k47) (j55 : (x46 = nI 0 ∨ r24 = nI 1) ∨ (0 ≤ x48.toInt ∧ x48.toInt ≤ 999 ∧ (k5 + 3 ≤ k47 ∨ x48.toInt ≤ 99) ∧ (k5 + 2 ≤ k47 ∨ x48.toInt ≤ 9) ∧ (k5 + 1 ≤ k47 ∨ x48.toInt ≤ 0))) (hm59 : 940 - k47 < n57 + 1) (p61 : (k47 < ksize ∧ r60 = ktapeF k47) ∨ (ksize ≤ k47 ∧ r60 = nI 0)) (t64 : 97 ≤ r60.toInt) (t65 : r60.toInt ≤ 122) (e69 : y68 = ktapeF k47) (c70 : ¬ x46 = 0) (t91 : 97 ≤ y68.toInt) (t92 : y68.toInt ≤ 122) (c94 : nI 1 = r24) (c120 : (k47 - k5) < 3) (e122 : y121 = (nI 10) * x48) (h124 : n123 < 123) (e125 : y68 = nI n123) (f126 : 97 ≤ n123) (e128 : y127 = y121 + (nI n123)) (e130 : y129 = y127 - (nI 48)) : (k47 + 1) ≤ ksize := by
  have b_y18 := ia_b y18
  have b_r24 := ia_b r24
  have b_x46 := ia_b x46
  have b_x48 := ia_b x48
  have b_r60 := ia_b r60
  have b_y68 := ia_b y68
  have b_y121 := ia_b y121
  have b_y127 := ia_b y127
  have b_y129 := ia_b y129
  try have k_0 := ia_n 0 (by first | decide | omega)
  try have k_1 := ia_n 1 (by first | decide | omega)
  try have k_2 := ia_n 10 (by first | decide | omega)
  try have k_3 := ia_n n123 (by first | decide | omega)
  try have k_4 := ia_n 48 (by first | decide | omega)
  try simp only [ia_lt, ia_le, ia_eq, ia_m1, ia_0, ia_1, ne_eq, true_and, and_true, false_and, and_false, or_false, false_or, or_true, true_or, not_true_eq_false, not_false_eq_true] at *
  all_goals omega
set_option maxRecDepth 20000 in
theorem lf_x_goP_52 (ksize : Nat) (kto : Nat) (ktapeF : Nat → Int32) (k5 : Nat) (n10 : Nat) (y18 : Int32) (r24 : Int32) (x46 : Int32) (k47 : Nat) (x48 : Int32) (n57 : Nat) (r60 : Int32) (y68 : Int32) (y121 : Int32) (n123 : Nat) (y127 : Int32) (y129 : Int32) (iv_ko_1 : ksize ≤ 940) (iv_ko_3 : kto ≤ ksize) (j6 : k5 ≤ 940) (j7 : k5 ≤ ksize) (j8 : kto ≤ k5) (hm12 : 940 - k5 < n10 + 1) (c17 : k5 < ksize) (e19 : y18 = ktapeF k5) (p25 : r24 = nI 0 ∨ r24 = nI 1) (j50 : x46 = nI 0 ∨ x46 = nI 1) (j51 : k47 ≤ 941) (j52 : k47 ≤ ksize) (j53 : kto ≤ k47) (j54 : k5 ≤ k47) (j55 : (x46 = nI 0 ∨ r24 = nI 1) ∨ (0 ≤ x48.toInt ∧ x48.toInt ≤ 999 ∧ (k5 + 3 ≤ k47 ∨ x48.toInt ≤ 99) ∧ (k5 + 2 ≤ k47 ∨ x48.toInt ≤ 9) ∧ (k5 + 1 ≤ k47 ∨ x48.toInt ≤ 0))) (hm59 : 940 - k47 < n57 + 1) (p61 : (k47 < ksize ∧ r60 = ktapeF k47) ∨ (ksize ≤ k47 ∧ r60 = nI 0)) (t64 : 97 ≤ r60.toInt) (t65 : r60.toInt ≤ 122) (e69 : y68 = ktapeF k47) (c70 : ¬ x46 = 0) (t91 : 97 ≤ y68.toInt) (t92 : y68.toInt ≤ 122) (c94 : nI 1 = r24) (c120 : (k47 - k5) < 3) (e122 : y121 = (nI 10) * x48) (h124 : n123 < 123) (e125 : y68 = nI n123) (f126 : 97 ≤ n123) (e128 : y127 = y121 + (nI n123)) (e130 : y129 = y127 - (nI 48)) : kto ≤ (k47 + 1) := by
  have b_y18 := ia_b y18
  have b_r24 := ia_b r24
  have b_x46 := ia_b x46
  have b_x48 := ia_b x48
  have b_r60 := ia_b r60
  have b_y68 := ia_b y68
  have b_y121 := ia_b y121
  have b_y127 := ia_b y127
  have b_y129 := ia_b y129
  try have k_0 := ia_n 0 (by first | decide | omega)
  try have k_1 := ia_n 1 (by first | decide | omega)
  try have k_2 := ia_n 10 (by first | decide | omega)
  try have k_3 := ia_n n123 (by first | decide | omega)
  try have k_4 := ia_n 48 (by first | decide | omega)
  try simp only [ia_lt, ia_le, ia_eq, ia_m1, ia_0, ia_1, ne_eq, true_and, and_true, false_and, and_false, or_false, false_or, or_true, true_or, not_true_eq_false, not_false_eq_true] at *
  all_goals omega
set_option maxRecDepth 20000 in
theorem lf_x_goP_53 (ksize : Nat) (kto : Nat) (ktapeF : Nat → Int32) (k5 : Nat) (n10 : Nat) (y18 : Int32) (r24 : Int32) (x46 : Int32) (k47 : Nat) (x48 : Int32) (n57 : Nat) (r60 : Int32) (y68 : Int32) (y121 : Int32) (n123 : Nat) (y127 : Int32) (y129 : Int32) (iv_ko_1 : ksize ≤ 940) (iv_ko_3 : kto ≤ ksize) (j6 : k5 ≤ 940) (j7 : k5 ≤ ksize) (j8 : kto ≤ k5) (hm12 : 940 - k5 < n10 + 1) (c17 : k5 < ksize) (e19 : y18 = ktapeF k5) (p25 : r24 = nI 0 ∨ r24 = nI 1) (j50 : x46 = nI 0 ∨ x46 = nI 1) (j51 : k47 ≤ 941) (j52 : k47 ≤ ksize) (j53 : kto ≤ k47) (j54 : k5 ≤ k47) (j55 : (x46 = nI 0 ∨ r24 = nI 1) ∨ (0 ≤ x48.toInt ∧ x48.toInt ≤ 999 ∧ (k5 + 3 ≤ k47 ∨ x48.toInt ≤ 99) ∧ (k5 + 2 ≤ k47 ∨ x48.toInt ≤ 9) ∧ (k5 + 1 ≤ k47 ∨ x48.toInt ≤ 0))) (hm59 : 940 - k47 < n57 + 1) (p61 : (k47 < ksize ∧ r60 = ktapeF k47) ∨ (ksize ≤ k47 ∧ r60 = nI 0)) (t64 : 97 ≤ r60.toInt) (t65 : r60.toInt ≤ 122) (e69 : y68 = ktapeF k47) (c70 : ¬ x46 = 0) (t91 : 97 ≤ y68.toInt) (t92 : y68.toInt ≤ 122) (c94 : nI 1 = r24) (c120 : (k47 - k5) < 3) (e122 : y121 = (nI 10) * x48) (h124 : n123 < 123) (e125 : y68 = nI n123) (f126 : 97 ≤ n123) (e128 : y127 = y121 + (nI n123)) (e130 : y129 = y127 - (nI 48)) : k5 ≤ (k47 + 1) := by
  have b_y18 := ia_b y18
  have b_r24 := ia_b r24
  have b_x46 := ia_b x46
  have b_x48 := ia_b x48
  have b_r60 := ia_b r60
  have b_y68 := ia_b y68
  have b_y121 := ia_b y121
  have b_y127 := ia_b y127
  have b_y129 := ia_b y129
  try have k_0 := ia_n 0 (by first | decide | omega)
  try have k_1 := ia_n 1 (by first | decide | omega)
  try have k_2 := ia_n 10 (by first | decide | omega)
  try have k_3 := ia_n n123 (by first | decide | omega)
  try have k_4 := ia_n 48 (by first | decide | omega)
  try simp only [ia_lt, ia_le, ia_eq, ia_m1, ia_0, ia_1, ne_eq, true_and, and_true, false_and, and_false, or_false, false_or, or_true, true_or, not_true_eq_false, not_false_eq_true] at *
  all_goals omega
set_option maxRecDepth 20000 in
theorem lf_x_goP_54 (ksize : Nat) (kto : Nat) (ktapeF : Nat → Int32) (k5 : Nat) (n10 : Nat) (y18 : Int32) (r24 : Int32) (x46 : Int32) (k47 : Nat) (x48 : Int32) (n57 : Nat) (r60 : Int32) (y68 : Int32) (y121 : Int32) (n123 : Nat) (y127 : Int32) (y129 : Int32) (iv_ko_1 : ksize ≤ 940) (iv_ko_3 : kto ≤ ksize) (j6 : k5 ≤ 940) (j7 : k5 ≤ ksize) (j8 : kto ≤ k5) (hm12 : 940 - k5 < n10 + 1) (c17 : k5 < ksize) (e19 : y18 = ktapeF k5) (p25 : r24 = nI 0 ∨ r24 = nI 1) (j50 : x46 = nI 0 ∨ x46 = nI 1) (j51 : k47 ≤ 941) (j52 : k47 ≤ ksize) (j53 : kto ≤ k47) (j54 : k5 ≤ k47) (j55 : (x46 = nI 0 ∨ r24 = nI 1) ∨ (0 ≤ x48.toInt ∧ x48.toInt ≤ 999 ∧ (k5 + 3 ≤ k47 ∨ x48.toInt ≤ 99) ∧ (k5 + 2 ≤ k47 ∨ x48.toInt ≤ 9) ∧ (k5 + 1 ≤ k47 ∨ x48.toInt ≤ 0))) (hm59 : 940 - k47 < n57 + 1) (p61 : (k47 < ksize ∧ r60 = ktapeF k47) ∨ (ksize ≤ k47 ∧ r60 = nI 0)) (t64 : 97 ≤ r60.toInt) (t65 : r60.toInt ≤ 122) (e69 : y68 = ktapeF k47) (c70 : ¬ x46 = 0) (t91 : 97 ≤ y68.toInt) (t92 : y68.toInt ≤ 122) (c94 : nI 1 = r24) (c120 : (k47 - k5) < 3) (e122 : y121 = (nI 10) * x48) (h124 : n123 < 123) (e125 : y68 = nI n123) (f126 : 97 ≤ n123) (e128 : y127 = y121 + (nI n123)) (e130 : y129 = y127 - (nI 48)) : ((nI 1) = nI 0 ∨ r24 = nI 1) ∨ (0 ≤ y129.toInt ∧ y129.toInt ≤ 999 ∧ (k5 + 3 ≤ (k47 + 1) ∨ y129.toInt ≤ 99) ∧ (k5 + 2 ≤ (k47 + 1) ∨ y129.toInt ≤ 9) ∧ (k5 + 1 ≤ (k47 + 1) ∨ y129.toInt ≤ 0)) := by
  have b_y18 := ia_b y18
  have b_r24 := ia_b r24
  have b_x46 := ia_b x46
  have b_x48 := ia_b x48
  have b_r60 := ia_b r60
  have b_y68 := ia_b y68
  have b_y121 := ia_b y121
  have b_y127 := ia_b y127
  have b_y129 := ia_b y129
  try have k_0 := ia_n 0 (by first | decide | omega)
  try have k_1 := ia_n 1 (by first | decide | omega)
  try have k_2 := ia_n 10 (by first | decide | omega)
  try have k_3 := ia_n n123 (by first | decide | omega)
  try have k_4 := ia_n 48 (by first | decide | omega)
  try simp only [ia_lt, ia_le, ia_eq, ia_m1, ia_0, ia_1, ne_eq, true_and, and_true, false_and, and_false, or_false, false_or, or_true, true_or, not_true_eq_false, not_false_eq_true] at *
  all_goals omega
set_option maxRecDepth 20000 in
theorem lf_x_goP_55 (ksize : Nat) (kto : Nat) (ktapeF : Nat → Int32) (k5 : Nat) (n10 : Nat) (y18 : Int32) (r24 : Int32) (x46 : Int32) (k47 : Nat) (x48 : Int32) (n57 : Nat) (r60 : Int32) (y68 : Int32) (y121 : Int32) (n123 : Nat) (y127 : Int32) (y129 : Int32) (iv_ko_1 : ksize ≤ 940) (iv_ko_3 : kto ≤ ksize) (j6 : k5 ≤ 940) (j7 : k5 ≤ ksize) (j8 : kto ≤ k5) (hm12 : 940 - k5 < n10 + 1) (c17 : k5 < ksize) (e19 : y18 = ktapeF k5) (p25 : r24 = nI 0 ∨ r24 = nI 1) (j50 : x46 = nI 0 ∨ x46 = nI 1) (j51 : k47 ≤ 941) (j52 : k47 ≤ ksize) (j53 : kto ≤ k47) (j54 : k5 ≤ k47) (j55 : (x46 = nI 0 ∨ r24 = nI 1) ∨ (0 ≤ x48.toInt ∧ x48.toInt ≤ 999 ∧ (k5 + 3 ≤ k47 ∨ x48.toInt ≤ 99) ∧ (k5 + 2 ≤ k47 ∨ x48.toInt ≤ 9) ∧ (k5 + 1 ≤ k47 ∨ x48.toInt ≤ 0))) (hm59 : 940 - k47 < n57 + 1) (p61 : (k47 < ksize ∧ r60 = ktapeF k47) ∨ (ksize ≤ k47 ∧ r60 = nI 0)) (t64 : 97 ≤ r60.toInt) (t65 : r60.toInt ≤ 122) (e69 : y68 = ktapeF k47) (c70 : ¬ x46 = 0) (t91 : 97 ≤ y68.toInt) (t92 : y68.toInt ≤ 122) (c94 : nI 1 = r24) (c120 : (k47 - k5) < 3) (e122 : y121 = (nI 10) * x48) (h124 : n123 < 123) (e125 : y68 = nI n123) (f126 : 97 ≤ n123) (e128 : y127 = y121 + (nI n123)) (e130 : y129 = y127 - (nI 48)) : 940 - (k47 + 1) < n57 := by
  have b_y18 := ia_b y18
  have b_r24 := ia_b r24
  have b_x46 := ia_b x46
  have b_x48 := ia_b x48
  have b_r60 := ia_b r60
  have b_y68 := ia_b y68
  have b_y121 := ia_b y121
  have b_y127 := ia_b y127
  have b_y129 := ia_b y129
  try have k_0 := ia_n 0 (by first | decide | omega)
  try have k_1 := ia_n 1 (by first | decide | omega)
  try have k_2 := ia_n 10 (by first | decide | omega)
  try have k_3 := ia_n n123 (by first | decide | omega)
  try have k_4 := ia_n 48 (by first | decide | omega)
  try simp only [ia_lt, ia_le, ia_eq, ia_m1, ia_0, ia_1, ne_eq, true_and, and_true, false_and, and_false, or_false, false_or, or_true, true_or, not_true_eq_false, not_false_eq_true] at *
  all_goals omega
set_option maxRecDepth 20000 in
theorem lf_x_goP_56 (ksize : Nat) (kto : Nat) (ktapeF : Nat → Int32) (k5 : Nat) (n10 : Nat) (y18 : Int32) (r24 : Int32) (x46 : Int32) (k47 : Nat) (x48 : Int32) (n57 : Nat) (r60 : Int32) (y68 : Int32) (iv_ko_1 : ksize ≤ 940) (iv_ko_3 : kto ≤ ksize) (j6 : k5 ≤ 940) (j7 : k5 ≤ ksize) (j8 : kto ≤ k5) (hm12 : 940 - k5 < n10 + 1) (c17 : k5 < ksize) (e19 : y18 = ktapeF k5) (p25 : r24 = nI 0 ∨ r24 = nI 1) (j50 : x46 = nI 0 ∨ x46 = nI 1) (j51 : k47 ≤ 941) (j52 : k47 ≤ ksize) (j53 : kto ≤ k47) (j54 : k5 ≤ k47) (j55 : (x46 = nI 0 ∨ r24 = nI 1) ∨ (0 ≤ x48.toInt ∧ x48.toInt ≤ 999 ∧ (k5 + 3 ≤ k47 ∨ x48.toInt ≤ 99) ∧ (k5 + 2 ≤ k47 ∨ x48.toInt ≤ 9) ∧ (k5 + 1 ≤ k47 ∨ x48.toInt ≤ 0))) (hm59 : 940 - k47 < n57 + 1) (p61 : (k47 < ksize ∧ r60 = ktapeF k47) ∨ (ksize ≤ k47 ∧ r60 = nI 0)) (t64 : 97 ≤ r60.toInt) (t65 : r60.toInt ≤ 122) (e69 : y68 = ktapeF k47) (c70 : ¬ x46 = 0) (t93 : ¬ (97 ≤ y68.toInt ∧ y68.toInt ≤ 122)) (c139 : nI 0 ≠ r24) : k5 ≤ k47 := by
  have b_y18 := ia_b y18
  have b_r24 := ia_b r24
  have b_x46 := ia_b x46
  have b_x48 := ia_b x48
  have b_r60 := ia_b r60
  have b_y68 := ia_b y68
  try have k_0 := ia_n 0 (by first | decide | omega)
  try have k_1 := ia_n 1 (by first | decide | omega)
  try simp only [ia_lt, ia_le, ia_eq, ia_m1, ia_0, ia_1, ne_eq, true_and, and_true, false_and, and_false, or_false, false_or, or_true, true_or, not_true_eq_false, not_false_eq_true] at *
  all_goals omega
set_option maxRecDepth 20000 in
theorem lf_x_goP_57 (ksize : Nat) (kto : Nat) (ktapeF : Nat → Int32) (k5 : Nat) (n10 : Nat) (y18 : Int32) (r24 : Int32) (x46 : Int32) (k47 : Nat) (x48 : Int32) (n57 : Nat) (r60 : Int32) (y68 : Int32) (iv_ko_1 : ksize ≤ 940) (iv_ko_3 : kto ≤ ksize) (j6 : k5 ≤ 940) (j7 : k5 ≤ ksize) (j8 : kto ≤ k5) (hm12 : 940 - k5 < n10 + 1) (c17 : k5 < ksize) (e19 : y18 = ktapeF k5) (p25 : r24 = nI 0 ∨ r24 = nI 1) (j50 : x46 = nI 0 ∨ x46 = nI 1) (j51 : k47 ≤ 941) (j52 : k47 ≤ ksize) (j53 : kto ≤ k47) (j54 : k5 ≤ k47) (j55 : (x46 = nI 0 ∨ r24 = nI 1) ∨ (0 ≤ x48.toInt ∧ x48.toInt ≤ 999 ∧ (k5 + 3 ≤ k47 ∨ x48.toInt ≤ 99) ∧ (k5 + 2 ≤ k47 ∨ x48.toInt ≤ 9) ∧ (k5 + 1 ≤ k47 ∨ x48.toInt ≤ 0))) (hm59 : 940 - k47 < n57 + 1) (p61 : (k47 < ksize ∧ r60 = ktapeF k47) ∨ (ksize ≤ k47 ∧ r60 = nI 0)) (t64 : 97 ≤ r60.toInt) (t65 : r60.toInt ≤ 122) (e69 : y68 = ktapeF k47) (c70 : ¬ x46 = 0) (t93 : ¬ (97 ≤ y68.toInt ∧ y68.toInt ≤ 122)) (c139 : nI 0 ≠ r24) : k5 ≤ k47 := by
  have b_y18 := ia_b y18
  have b_r24 := ia_b r24
  have b_x46 := ia_b x46
  have b_x48 := ia_b x48
  have b_r60 := ia_b r60
  have b_y68 := ia_b y68
  try have k_0 := ia_n 0 (by first | decide | omega)
  try have k_1 := ia_n 1 (by first | decide | omega)
  try simp only [ia_lt, ia_le, ia_eq, ia_m1, ia_0, ia_1, ne_eq, true_and, and_true, false_and, and_false, or_false, false_or, or_true, true_or, not_true_eq_false, not_false_eq_true] at *
  all_goals omega
set_option maxRecDepth 20000 in
theorem lf_x_goP_58   : (nI 0) = nI 0 ∨ (nI 0) = nI 1 := by
  try have k_0 := ia_n 0 (by first | decide | omega)
  try have k_1 := ia_n 1 (by first | decide | omega)
  try simp only [ia_lt, ia_le, ia_eq, ia_m1, ia_0, ia_1, ne_eq, true_and, and_true, false_and, and_false, or_false, false_or, or_true, true_or, not_true_eq_false, not_false_eq_true] at *
  all_goals omega
set_option maxRecDepth 20000 in
theorem lf_x_goP_59 (ksize : Nat) (kto : Nat) (ktapeF : Nat → Int32) (k5 : Nat) (n10 : Nat) (y18 : Int32) (r24 : Int32) (x46 : Int32) (k47 : Nat) (x48 : Int32) (n57 : Nat) (r60 : Int32) (y68 : Int32) (iv_ko_1 : ksize ≤ 940) (iv_ko_3 : kto ≤ ksize) (j6 : k5 ≤ 940) (j7 : k5 ≤ ksize) (j8 : kto ≤ k5) (hm12 : 940 - k5 < n10 + 1) (c17 : k5 < ksize) (e19 : y18 = ktapeF k5) (p25 : r24 = nI 0 ∨ r24 = nI 1) (j50 : x46 = nI 0 ∨ x46 = nI 1) (j51 : k47 ≤ 941) (j52 : k47 ≤ ksize) (j53 : kto ≤ k47) (j54 : k5 ≤ k47) (j55 : (x46 = nI 0 ∨ r24 = nI 1) ∨ (0 ≤ x48.toInt ∧ x48.toInt ≤ 999 ∧ (k5 + 3 ≤ k47 ∨ x48.toInt ≤ 99) ∧ (k5 + 2 ≤ k47 ∨ x48.toInt ≤ 9) ∧ (k5 + 1 ≤ k47 ∨ x48.toInt ≤ 0))) (hm59 : 940 - k47 < n57 + 1) (p61 : (k47 < ksize ∧ r60 = ktapeF k47) ∨ (ksize ≤ k47 ∧ r60 = nI 0)) (t64 : 97 ≤ r60.toInt) (t65 : r60.toInt ≤ 122) (e69 : y68 = ktapeF k47) (c70 : ¬ x46 = 0) (t93 : ¬ (97 ≤ y68.toInt ∧ y68.toInt ≤ 122)) (c139 : nI 0 ≠ r24) (c143 : 3 ≤ (k47 - k5)) : (k47 + 1) ≤ 941 := by
  have b_y18 := ia_b y18
  have b_r24 := ia_b r24
  have b_x46 := ia_b x46
  have b_x48 := ia_b x48
  have b_r60 := ia_b r60
  have b_y68 := ia_b y68
  try have k_0 := ia_n 0 (by first | decide | omega)
  try have k_1 := ia_n 1 (by first | decide | omega)
  try simp only [ia_lt, ia_le, ia_eq, ia_m1, ia_0, ia_1, ne_eq, true_and, and_true, false_and, and_false, or_false, false_or, or_true, true_or, not_true_eq_false, not_false_eq_true] at *
  all_goals omega
set_option maxRecDepth 20000 in
theorem lf_x_goP_60 (ksize : Nat) (kto : Nat) (ktapeF : Nat → Int32) (k5 : Nat) (n10 : Nat) (y18 : Int32) (r24 : Int32) (x46 : Int32) (k47 : Nat) (x48 : Int32) (n57 : Nat) (r60 : Int32) (y68 : Int32) (iv_ko_1 : ksize ≤ 940) (iv_ko_3 : kto ≤ ksize) (j6 : k5 ≤ 940) (j7 : k5 ≤ ksize) (j8 : kto ≤ k5) (hm12 : 940 - k5 < n10 + 1) (c17 : k5 < ksize) (e19 : y18 = ktapeF k5) (p25 : r24 = nI 0 ∨ r24 = nI 1) (j50 : x46 = nI 0 ∨ x46 = nI 1) (j51 : k47 ≤ 941) (j52 : k47 ≤ ksize) (j53 : kto ≤ k47) (j54 : k5 ≤ k47) (j55 : (x46 = nI 0 ∨ r24 = nI 1) ∨ (0 ≤ x48.toInt ∧ x48.toInt ≤ 999 ∧ (k5 + 3 ≤ k47 ∨ x48.toInt ≤ 99) ∧ (k5 + 2 ≤ k47 ∨ x48.toInt ≤ 9) ∧ (k5 + 1 ≤ k47 ∨ x48.toInt ≤ 0))) (hm59 : 940 - k47 < n57 + 1) (p61 : (k47 < ksize ∧ r60 = ktapeF k47) ∨ (ksize ≤ k47 ∧ r60 = nI 0)) (t64 : 97 ≤ r60.toInt) (t65 : r60.toInt ≤ 122) (e69 : y68 = ktapeF k47) (c70 : ¬ x46 = 0) (t93 : ¬ (97 ≤ y68.toInt ∧ y68.toInt ≤ 122)) (c139 : nI 0 ≠ r24) (c143 : 3 ≤ (k47 - k5)) : (k47 + 1) ≤ ksize := by
  have b_y18 := ia_b y18
  have b_r24 := ia_b r24
  have b_x46 := ia_b x46
  have b_x48 := ia_b x48
  have b_r60 := ia_b r60
  have b_y68 := ia_b y68
  try have k_0 := ia_n 0 (by first | decide | omega)
  try have k_1 := ia_n 1 (by first | decide | omega)
  try simp only [ia_lt, ia_le, ia_eq, ia_m1, ia_0, ia_1, ne_eq, true_and, and_true, false_and, and_false, or_false, false_or, or_true, true_or, not_true_eq_false, not_false_eq_true] at *
  all_goals omega
set_option maxRecDepth 20000 in
theorem lf_x_goP_61 (ksize : Nat) (kto : Nat) (ktapeF : Nat → Int32) (k5 : Nat) (n10 : Nat) (y18 : Int32) (r24 : Int32) (x46 : Int32) (k47 : Nat) (x48 : Int32) (n57 : Nat) (r60 : Int32) (y68 : Int32) (iv_ko_1 : ksize ≤ 940) (iv_ko_3 : kto ≤ ksize) (j6 : k5 ≤ 940) (j7 : k5 ≤ ksize) (j8 : kto ≤ k5) (hm12 : 940 - k5 < n10 + 1) (c17 : k5 < ksize) (e19 : y18 = ktapeF k5) (p25 : r24 = nI 0 ∨ r24 = nI 1) (j50 : x46 = nI 0 ∨ x46 = nI 1) (j51 : k47 ≤ 941) (j52 : k47 ≤ ksize) (j53 : kto ≤ k47) (j54 : k5 ≤ k47) (j55 : (x46 = nI 0 ∨ r24 = nI 1) ∨ (0 ≤ x48.toInt ∧ x48.toInt ≤ 999 ∧ (k5 + 3 ≤ k47 ∨ x48.toInt ≤ 99) ∧ (k5 + 2 ≤ k47 ∨ x48.toInt ≤ 9) ∧ (k5 + 1 ≤ k47 ∨ x48.toInt ≤ 0))) (hm59 : 940 - k47 < n57 + 1) (p61 : (k47 < ksize ∧ r60 = ktapeF k47) ∨ (ksize ≤ k47 ∧ r60 = nI 0)) (t64 : 97 ≤ r60.toInt) (t65 : r60.toInt ≤ 122) (e69 : y68 = ktapeF k47) (c70 : ¬ x46 = 0) (t93 : ¬ (97 ≤ y68.toInt ∧ y68.toInt ≤ 122)) (c139 : nI 0 ≠ r24) (c143 : 3 ≤ (k47 - k5)) : kto ≤ (k47 + 1) := by
  have b_y18 := ia_b y18
  have b_r24 := ia_b r24
  have b_x46 := ia_b x46
  have b_x48 := ia_b x48
  have b_r60 := ia_b r60
  have b_y68 := ia_b y68
  try have k_0 := ia_n 0 (by first | decide | omega)
  try have k_1 := ia_n 1 (by first | decide | omega)
  try simp only [ia_lt, ia_le, ia_eq, ia_m1, ia_0, ia_1, ne_eq, true_and, and_true, false_and, and_false, or_false, false_or, or_true, true_or, not_true_eq_false, not_false_eq_true] at *
  all_goals omega
set_option maxRecDepth 20000 in
theorem lf_x_goP_62 (ksize : Nat) (kto : Nat) (ktapeF : Nat → Int32) (k5 : Nat) (n10 : Nat) (y18 : Int32) (r24 : Int32) (x46 : Int32) (k47 : Nat) (x48 : Int32) (n57 : Nat) (r60 : Int32) (y68 : Int32) (iv_ko_1 : ksize ≤ 940) (iv_ko_3 : kto ≤ ksize) (j6 : k5 ≤ 940) (j7 : k5 ≤ ksize) (j8 : kto ≤ k5) (hm12 : 940 - k5 < n10 + 1) (c17 : k5 < ksize) (e19 : y18 = ktapeF k5) (p25 : r24 = nI 0 ∨ r24 = nI 1) (j50 : x46 = nI 0 ∨ x46 = nI 1) (j51 : k47 ≤ 941) (j52 : k47 ≤ ksize) (j53 : kto ≤ k47) (j54 : k5 ≤ k47) (j55 : (x46 = nI 0 ∨ r24 = nI 1) ∨ (0 ≤ x48.toInt ∧ x48.toInt ≤ 999 ∧ (k5 + 3 ≤ k47 ∨ x48.toInt ≤ 99) ∧ (k5 + 2 ≤ k47 ∨ x48.toInt ≤ 9) ∧ (k5 + 1 ≤ k47 ∨ x48.toInt ≤ 0))) (hm59 : 940 - k47 < n57 + 1) (p61 : (k47 < ksize ∧ r60 = ktapeF k47) ∨ (ksize ≤ k47 ∧ r60 = nI 0)) (t64 : 97 ≤ r60.toInt) (t65 : r60.toInt ≤ 122) (e69 : y68 = ktapeF k47) (c70 : ¬ x46 = 0) (t93 : ¬ (97 ≤ y68.toInt ∧ y68.toInt ≤ 122)) (c139 : nI 0 ≠ r24) (c143 : 3 ≤ (k47 - k5)) : k5 ≤ (k47 + 1) := by
  have b_y18 := ia_b y18
  have b_r24 := ia_b r24
  have b_x46 := ia_b x46
  have b_x48 := ia_b x48
  have b_r60 := ia_b r60
  have b_y68 := ia_b y68
  try have k_0 := ia_n 0 (by first | decide | omega)
  try have k_1 := ia_n 1 (by first | decide | omega)
  try simp only [ia_lt, ia_le, ia_eq, ia_m1, ia_0, ia_1, ne_eq, true_and, and_true, false_and, and_false, or_false, false_or, or_true, true_or, not_true_eq_false, not_false_eq_true] at *
  all_goals omega
set_option maxRecDepth 20000 in
theorem lf_x_goP_63 (ksize : Nat) (kto : Nat) (ktapeF : Nat → Int32) (k5 : Nat) (n10 : Nat) (y18 : Int32) (r24 : Int32) (x46 : Int32) (k47 : Nat) (x48 : Int32) (n57 : Nat) (r60 : Int32) (y68 : Int32) (iv_ko_1 : ksize ≤ 940) (iv_ko_3 : kto ≤ ksize) (j6 : k5 ≤ 940) (j7 : k5 ≤ ksize) (j8 : kto ≤ k5) (hm12 : 940 - k5 < n10 + 1) (c17 : k5 < ksize) (e19 : y18 = ktapeF k5) (p25 : r24 = nI 0 ∨ r24 = nI 1) (j50 : x46 = nI 0 ∨ x46 = nI 1) (j51 : k47 ≤ 941) (j52 : k47 ≤ ksize) (j53 : kto ≤ k47) (j54 : k5 ≤ k47) (j55 : (x46 = nI 0 ∨ r24 = nI 1) ∨ (0 ≤ x48.toInt ∧ x48.toInt ≤ 999 ∧ (k5 + 3 ≤ k47 ∨ x48.toInt ≤ 99) ∧ (k5 + 2 ≤ k47 ∨ x48.toInt ≤ 9) ∧ (k5 + 1 ≤ k47 ∨ x48.toInt ≤ 0))) (hm59 : 940 - k47 < n57 + 1) (p61 : (k47 < ksize ∧ r60 = ktapeF k47) ∨ (ksize ≤ k47 ∧ r60 = nI 0)) (t64 : 97 ≤ r60.toInt) (t65 : r60.toInt ≤ 122) (e69 : y68 = ktapeF k47) (c70 : ¬ x46 = 0) (t93 : ¬ (97 ≤ y68.toInt ∧ y68.toInt ≤ 122)) (c139 : nI 0 ≠ r24) (c143 : 3 ≤ (k47 - k5)) : ((nI 0) = nI 0 ∨ r24 = nI 1) ∨ (0 ≤ x48.toInt ∧ x48.toInt ≤ 999 ∧ (k5 + 3 ≤ (k47 + 1) ∨ x48.toInt ≤ 99) ∧ (k5 + 2 ≤ (k47 + 1) ∨ x48.toInt ≤ 9) ∧ (k5 + 1 ≤ (k47 + 1) ∨ x48.toInt ≤ 0)) := by
  have b_y18 := ia_b y18
  have b_r24 := ia_b r24
  have b_x46 := ia_b x46
  have b_x48 := ia_b x48
  have b_r60 := ia_b r60
  have b_y68 := ia_b y68
  try have k_0 := ia_n 0 (by first | decide | omega)
  try have k_1 := ia_n 1 (by first | decide | omega)
  try simp only [ia_lt, ia_le, ia_eq, ia_m1, ia_0, ia_1, ne_eq, true_and, and_true, false_and, and_false, or_false, false_or, or_true, true_or, not_true_eq_false, not_false_eq_true] at *
  all_goals omega
set_option maxRecDepth 20000 in
theorem lf_x_goP_64 (ksize : Nat) (kto : Nat) (ktapeF : Nat → Int32) (k5 : Nat) (n10 : Nat) (y18 : Int32) (r24 : Int32) (x46 : Int32) (k47 : Nat) (x48 : Int32) (n57 : Nat) (r60 : Int32) (y68 : Int32) (iv_ko_1 : ksize ≤ 940) (iv_ko_3 : kto ≤ ksize) (j6 : k5 ≤ 940) (j7 : k5 ≤ ksize) (j8 : kto ≤ k5) (hm12 : 940 - k5 < n10 + 1) (c17 : k5 < ksize) (e19 : y18 = ktapeF k5) (p25 : r24 = nI 0 ∨ r24 = nI 1) (j50 : x46 = nI 0 ∨ x46 = nI 1) (j51 : k47 ≤ 941) (j52 : k47 ≤ ksize) (j53 : kto ≤ k47) (j54 : k5 ≤ k47) (j55 : (x46 = nI 0 ∨ r24 = nI 1) ∨ (0 ≤ x48.toInt ∧ x48.toInt ≤ 999 ∧ (k5 + 3 ≤ k47 ∨ x48.toInt ≤ 99) ∧ (k5 + 2 ≤ k47 ∨ x48.toInt ≤ 9) ∧ (k5 + 1 ≤ k47 ∨ x48.toInt ≤ 0))) (hm59 : 940 - k47 < n57 + 1) (p61 : (k47 < ksize ∧ r60 = ktapeF k47) ∨ (ksize ≤ k47 ∧ r60 = nI 0)) (t64 : 97 ≤ r60.toInt) (t65 : r60.toInt ≤ 122) (e69 : y68 = ktapeF k47) (c70 : ¬ x46 = 0) (t93 : ¬ (97 ≤ y68.toInt ∧ y68.toInt ≤ 122)) (c139 : nI 0 ≠ r24) (c143 : 3 ≤ (k47 - k5)) : 940 - (k47 + 1) < n57 := by
  have b_y18 := ia_b y18
  have b_r24 := ia_b r24
  have b_x46 := ia_b x46
  have b_x48 := ia_b x48
  have b_r60 := ia_b r60
  have b_y68 := ia_b y68
  try have k_0 := ia_n 0 (by first | decide | omega)
  try have k_1 := ia_n 1 (by first | decide | omega)
  try simp only [ia_lt, ia_le, ia_eq, ia_m1, ia_0, ia_1, ne_eq, true_and, and_true, false_and, and_false, or_false, false_or, or_true, true_or, not_true_eq_false, not_false_eq_true] at *
  all_goals omega
set_option maxRecDepth 20000 in
theorem lf_x_goP_65   : (nI 0) = nI 0 ∨ (nI 0) = nI 1 := by
  try have k_0 := ia_n 0 (by first | decide | omega)
  try have k_1 := ia_n 1 (by first | decide | omega)
  try simp only [ia_lt, ia_le, ia_eq, ia_m1, ia_0, ia_1, ne_eq, true_and, and_true, false_and, and_false, or_false, false_or, or_true, true_or, not_true_eq_false, not_false_eq_true] at *
  all_goals omega
set_option maxRecDepth 20000 in
theorem lf_x_goP_66 (ksize : Nat) (kto : Nat) (ktapeF : Nat → Int32) (k5 : Nat) (n10 : Nat) (y18 : Int32) (r24 : Int32) (x46 : Int32) (k47 : Nat) (x48 : Int32) (n57 : Nat) (r60 : Int32) (y68 : Int32) (y144 : Int32) (y146 : Int32) (y148 : Int32) (iv_ko_1 : ksize ≤ 940) (iv_ko_3 : kto ≤ ksize) (j6 : k5 ≤ 940) (j7 : k5 ≤ ksize) (j8 : kto ≤ k5) (hm12 : 940 - k5 < n10 + 1) (c17 : k5 < ksize) (e19 : y18 = ktapeF k5) (p25 : r24 = nI 0 ∨ r24 = nI 1) (j50 : x46 = nI 0 ∨ x46 = nI 1) (j51 : k47 ≤ 941) (j52 : k47 ≤ ksize) (j53 : kto ≤ k47) (j54 : k5 ≤ k47) (j55 : (x46 = nI 0 ∨ r24 = nI 1) ∨ (0 ≤ x48.toInt ∧ x48.toInt ≤ 999 ∧ (k5 + 3 ≤ k47 ∨ x48.toInt ≤ 99) ∧ (k5 + 2 ≤ k47 ∨ x48.toInt ≤ 9) ∧ (k5 + 1 ≤ k47 ∨ x48.toInt ≤ 0))) (hm59 : 940 - k47 < n57 + 1) (p61 : (k47 < ksize ∧ r60 = ktapeF k47) ∨ (ksize ≤ k47 ∧ r60 = nI 0)) (t64 : 97 ≤ r60.toInt) (t65 : r60.toInt ≤ 122) (e69 : y68 = ktapeF k47) (c70 : ¬ x46 = 0) (t93 : ¬ (97 ≤ y68.toInt ∧ y68.toInt ≤ 122)) (c139 : nI 0 ≠ r24) (c143 : (k47 - k5) < 3) (e145 : y144 = (nI 10) * x48) (e147 : y146 = y144 + y68) (e149 : y148 = y146 - (nI 48)) : (k47 + 1) ≤ 941 := by
  have b_y18 := ia_b y18
  have b_r24 := ia_b r24
  have b_x46 := ia_b x46
  have b_x48 := ia_b x48
  have b_r60 := ia_b r60
  have b_y68 := ia_b y68
  have b_y144 := ia_b y144
  have b_y146 := ia_b y146
  have b_y148 := ia_b y148
  try have k_0 := ia_n 0 (by first | decide | omega)
  try have k_1 := ia_n 1 (by first | decide | omega)
  try have k_2 := ia_n 10 (by first | decide | omega)
  try have k_3 := ia_n 48 (by first | decide | omega)
  try simp only [ia_lt, ia_le, ia_eq, ia_m1, ia_0, ia_1, ne_eq, true_and, and_true, false_and, and_false, or_false, false_or, or_true, true_or, not_true_eq_false, not_false_eq_true] at *
  all_goals omega
set_option maxRecDepth 20000 in
theorem lf_x_goP_67 (ksize : Nat) (kto : Nat) (ktapeF : Nat → Int32) (k5 : Nat) (n10 : Nat) (y18 : Int32) (r24 : Int32) (x46 : Int32) (k47 : Nat) (x48 : Int32) (n57 : Nat) (r60 : Int32) (y68 : Int32) (y144 : Int32) (y146 : Int32) (y148 : Int32) (iv_ko_1 : ksize ≤ 940) (iv_ko_3 : kto ≤ ksize) (j6 : k5 ≤ 940) (j7 : k5 ≤ ksize) (j8 : kto ≤ k5) (hm12 : 940 - k5 < n10 + 1) (c17 : k5 < ksize) (e19 : y18 = ktapeF k5) (p25 : r24 = nI 0 ∨ r24 = nI 1) (j50 : x46 = nI 0 ∨ x46 = nI 1) (j51 : k47 ≤ 941) (j52 : k47 ≤ ksize) (j53 : kto ≤ k47) (j54 : k5 ≤ k47) (j55 : (x46 = nI 0 ∨ r24 = nI 1) ∨ (0 ≤ x48.toInt ∧ x48.toInt ≤ 999 ∧ (k5 + 3 ≤ k47 ∨ x48.toInt ≤ 99) ∧ (k5 + 2 ≤ k47 ∨ x48.toInt ≤ 9) ∧ (k5 + 1 ≤ k47 ∨ x48.toInt ≤ 0))) (hm59 : 940 - k47 < n57 + 1) (p61 : (k47 < ksize ∧ r60 = ktapeF k47) ∨ (ksize ≤ k47 ∧ r60 = nI 0)) (t64 : 97 ≤ r60.toInt) (t65 : r60.toInt ≤ 122) (e69 : y68 = ktapeF k47) (c70 : ¬ x46 = 0) (t93 : ¬ (97 ≤ y68.toInt ∧ y68.toInt ≤ 122)) (c139 : nI 0 ≠ r24) (c143 : (k47 - k5) < 3) (e145 : y144 = (nI 10) * x48) (e147 : y146 = y144 + y68) (e149 : y148 = y146 - (nI 48)) : (k47 + 1) ≤ ksize := by
  have b_y18 := ia_b y18
  have b_r24 := ia_b r24
  have b_x46 := ia_b x46
  have b_x48 := ia_b x48
  have b_r60 := ia_b r60
  have b_y68 := ia_b y68
  have b_y144 := ia_b y144
  have b_y146 := ia_b y146
  have b_y148 := ia_b y148
  try have k_0 := ia_n 0 (by first | decide | omega)
  try have k_1 := ia_n 1 (by first | decide | omega)
  try have k_2 := ia_n 10 (by first | decide | omega)
  try have k_3 := ia_n 48 (by first | decide | omega)
  try simp only [ia_lt, ia_le, ia_eq, ia_m1, ia_0, ia_1, ne_eq, true_and, and_true, false_and, and_false, or_false, false_or, or_true, true_or, not_true_eq_false, not_false_eq_true] at *
  all_goals omega
set_option maxRecDepth 20000 in
theorem lf_x_goP_68 (ksize : Nat) (kto : Nat) (ktapeF : Nat → Int32) (k5 : Nat) (n10 : Nat) (y18 : Int32) (r24 : Int32) (x46 : Int32) (k47 : Nat) (x48 : Int32) (n57 : Nat) (r60 : Int32) (y68 : Int32) (y144 : Int32) (y146 : Int32) (y148 : Int32) (iv_ko_1 : ksize ≤ 940) (iv_ko_3 : kto ≤ ksize) (j6 : k5 ≤ 940) (j7 : k5 ≤ ksize) (j8 : kto ≤ k5) (hm12 : 940 - k5 < n10 + 1) (c17 : k5 < ksize) (e19 : y18 = ktapeF k5) (p25 : r24 = nI 0 ∨ r24 = nI 1) (j50 : x46 = nI 0 ∨ x46 = nI 1) (j51 : k47 ≤ 941) (j52 : k47 ≤ ksize) (j53 : kto ≤ k47) (j54 : k5 ≤ k47) (j55 : (x46 = nI 0 ∨ r24 = nI 1) ∨ (0 ≤ x48.toInt ∧ x48.toInt ≤ 999 ∧ (k5 + 3 ≤ k47 ∨ x48.toInt ≤ 99) ∧ (k5 + 2 ≤ k47 ∨ x48.toInt ≤ 9) ∧ (k5 + 1 ≤ k47 ∨ x48.toInt ≤ 0))) (hm59 : 940 - k47 < n57 + 1) (p61 : (k47 < ksize ∧ r60 = ktapeF k47) ∨ (ksize ≤ k47 ∧ r60 = nI 0)) (t64 : 97 ≤ r60.toInt) (t65 : r60.toInt ≤ 122) (e69 : y68 = ktapeF k47) (c70 : ¬ x46 = 0) (t93 : ¬ (97 ≤ y68.toInt ∧ y68.toInt ≤ 122)) (c139 : nI 0 ≠ r24) (c143 : (k47 - k5) < 3) (e145 : y144 = (nI 10) * x48) (e147 : y146 = y144 + y68) (e149 : y148 = y146 - (nI 48)) : kto ≤ (k47 + 1) := by
  have b_y18 := ia_b y18
  have b_r24 := ia_b r24
  have b_x46 := ia_b x46
  have b_x48 := ia_b x48
  have b_r60 := ia_b r60
  have b_y68 := ia_b y68
  have b_y144 := ia_b y144
  have b_y146 := ia_b y146
  have b_y148 := ia_b y148
  try have k_0 := ia_n 0 (by first | decide | omega)
  try have k_1 := ia_n 1 (by first | decide | omega)
  try have k_2 := ia_n 10 (by first | decide | omega)
  try have k_3 := ia_n 48 (by first | decide | omega)
  try simp only [ia_lt, ia_le, ia_eq, ia_m1, ia_0, ia_1, ne_eq, true_and, and_true, false_and, and_false, or_false, false_or, or_true, true_or, not_true_eq_false, not_false_eq_true] at *
  all_goals omega
set_option maxRecDepth 20000 in
theorem lf_x_goP_69 (ksize : Nat) (kto : Nat) (ktapeF : Nat → Int32) (k5 : Nat) (n10 : Nat) (y18 : Int32) (r24 : Int32) (x46 : Int32) (k47 : Nat) (x48 : Int32) (n57 : Nat) (r60 : Int32) (y68 : Int32) (y144 : Int32) (y146 : Int32) (y148 : Int32) (iv_ko_1 : ksize ≤ 940) (iv_ko_3 : kto ≤ ksize) (j6 : k5 ≤ 940) (j7 : k5 ≤ ksize) (j8 : kto ≤ k5) (hm12 : 940 - k5 < n10 + 1) (c17 : k5 < ksize) (e19 : y18 = ktapeF k5) (p25 : r24 = nI 0 ∨ r24 = nI 1) (j50 : x46 = nI 0 ∨ x46 = nI 1) (j51 : k47 ≤ 941) (j52 : k47 ≤ ksize) (j53 : kto ≤ k47) (j54 : k5 ≤ k47) (j55 : (x46 = nI 0 ∨ r24 = nI 1) ∨ (0 ≤ x48.toInt ∧ x48.toInt ≤ 999 ∧ (k5 + 3 ≤ k47 ∨ x48.toInt ≤ 99) ∧ (k5 + 2 ≤ k47 ∨ x48.toInt ≤ 9) ∧ (k5 + 1 ≤ k47 ∨ x48.toInt ≤ 0))) (hm59 : 940 - k47 < n57 + 1) (p61 : (k47 < ksize ∧ r60 = ktapeF k47) ∨ (ksize ≤ k47 ∧ r60 = nI 0)) (t64 : 97 ≤ r60.toInt) (t65 : r60.toInt ≤ 122) (e69 : y68 = ktapeF k47) (c70 : ¬ x46 = 0) (t93 : ¬ (97 ≤ y68.toInt ∧ y68.toInt ≤ 122)) (c139 : nI 0 ≠ r24) (c143 : (k47 - k5) < 3) (e145 : y144 = (nI 10) * x48) (e147 : y146 = y144 + y68) (e149 : y148 = y146 - (nI 48)) : k5 ≤ (k47 + 1) := by
  have b_y18 := ia_b y18
  have b_r24 := ia_b r24
  have b_x46 := ia_b x46
  have b_x48 := ia_b x48
  have b_r60 := ia_b r60
  have b_y68 := ia_b y68
  have b_y144 := ia_b y144
  have b_y146 := ia_b y146
  have b_y148 := ia_b y148
  try have k_0 := ia_n 0 (by first | decide | omega)
  try have k_1 := ia_n 1 (by first | decide | omega)
  try have k_2 := ia_n 10 (by first | decide | omega)
  try have k_3 := ia_n 48 (by first | decide | omega)
  try simp only [ia_lt, ia_le, ia_eq, ia_m1, ia_0, ia_1, ne_eq, true_and, and_true, false_and, and_false, or_false, false_or, or_true, true_or, not_true_eq_false, not_false_eq_true] at *
  all_goals omega
set_option maxRecDepth 20000 in
theorem lf_x_goP_70 (ksize : Nat) (kto : Nat) (ktapeF : Nat → Int32) (k5 : Nat) (n10 : Nat) (y18 : Int32) (r24 : Int32) (x46 : Int32) (k47 : Nat) (x48 : Int32) (n57 : Nat) (r60 : Int32) (y68 : Int32) (y144 : Int32) (y146 : Int32) (y148 : Int32) (iv_ko_1 : ksize ≤ 940) (iv_ko_3 : kto ≤ ksize) (j6 : k5 ≤ 940) (j7 : k5 ≤ ksize) (j8 : kto ≤ k5) (hm12 : 940 - k5 < n10 + 1) (c17 : k5 < ksize) (e19 : y18 = ktapeF k5) (p25 : r24 = nI 0 ∨ r24 = nI 1) (j50 : x46 = nI 0 ∨ x46 = nI 1) (j51 : k47 ≤ 941) (j52 : k47 ≤ ksize) (j53 : kto ≤ k47) (j54 : k5 ≤ k47) (j55 : (x46 = nI 0 ∨ r24 = nI 1) ∨ (0 ≤ x48.toInt ∧ x48.toInt ≤ 999 ∧ (k5 + 3 ≤ k47 ∨ x48.toInt ≤ 99) ∧ (k5 + 2 ≤ k47 ∨ x48.toInt ≤ 9) ∧ (k5 + 1 ≤ k47 ∨ x48.toInt ≤ 0))) (hm59 : 940 - k47 < n57 + 1) (p61 : (k47 < ksize ∧ r60 = ktapeF k47) ∨ (ksize ≤ k47 ∧ r60 = nI 0)) (t64 : 97 ≤ r60.toInt) (t65 : r60.toInt ≤ 122) (e69 : y68 = ktapeF k47) (c70 : ¬ x46 = 0) (t93 : ¬ (97 ≤ y68.toInt ∧ y68.toInt ≤ 122)) (c139 : nI 0 ≠ r24) (c143 : (k47 - k5) < 3) (e145 : y144 = (nI 10) * x48) (e147 : y146 = y144 + y68) (e149 : y148 = y146 - (nI 48)) : ((nI 0) = nI 0 ∨ r24 = nI 1) ∨ (0 ≤ y148.toInt ∧ y148.toInt ≤ 999 ∧ (k5 + 3 ≤ (k47 + 1) ∨ y148.toInt ≤ 99) ∧ (k5 + 2 ≤ (k47 + 1) ∨ y148.toInt ≤ 9) ∧ (k5 + 1 ≤ (k47 + 1) ∨ y148.toInt ≤ 0)) := by
  have b_y18 := ia_b y18
  have b_r24 := ia_b r24
  have b_x46 := ia_b x46
  have b_x48 := ia_b x48
  have b_r60 := ia_b r60
  have b_y68 := ia_b y68
  have b_y144 := ia_b y144
  have b_y146 := ia_b y146
  have b_y148 := ia_b y148
  try have k_0 := ia_n 0 (by first | decide | omega)
  try have k_1 := ia_n 1 (by first | decide | omega)
  try have k_2 := ia_n 10 (by first | decide | omega)
  try have k_3 := ia_n 48 (by first | decide | omega)
  have h9 := ten_step x48 y68
  rw [← e145, ← e147, ← e149] at h9
  clear e149 e147 e145
  try simp only [ia_lt, ia_le, ia_eq, ia_m1, ia_0, ia_1, ne_eq, true_and, and_true, false_and, and_false, or_false, false_or, or_true, true_or, not_true_eq_false, not_false_eq_true] at *
  all_goals omega
set_option maxRecDepth 20000 in
theorem lf_x_goP_71 (ksize : Nat) (kto : Nat) (ktapeF : Nat → Int32) (k5 : Nat) (n10 : Nat) (y18 : Int32) (r24 : Int32) (x46 : Int32) (k47 : Nat) (x48 : Int32) (n57 : Nat) (r60 : Int32) (y68 : Int32) (y144 : Int32) (y146 : Int32) (y148 : Int32) (iv_ko_1 : ksize ≤ 940) (iv_ko_3 : kto ≤ ksize) (j6 : k5 ≤ 940) (j7 : k5 ≤ ksize) (j8 : kto ≤ k5) (hm12 : 940 - k5 < n10 + 1) (c17 : k5 < ksize) (e19 : y18 = ktapeF k5) (p25 : r24 = nI 0 ∨ r24 = nI 1) (j50 : x46 = nI 0 ∨ x46 = nI 1) (j51 : k47 ≤ 941) (j52 : k47 ≤ ksize) (j53 : kto ≤ k47) (j54 : k5 ≤ k47) (j55 : (x46 = nI 0 ∨ r24 = nI 1) ∨ (0 ≤ x48.toInt ∧ x48.toInt ≤ 999 ∧ (k5 + 3 ≤ k47 ∨ x48.toInt ≤ 99) ∧ (k5 + 2 ≤ k47 ∨ x48.toInt ≤ 9) ∧ (k5 + 1 ≤ k47 ∨ x48.toInt ≤ 0))) (hm59 : 940 - k47 < n57 + 1) (p61 : (k47 < ksize ∧ r60 = ktapeF k47) ∨ (ksize ≤ k47 ∧ r60 = nI 0)) (t64 : 97 ≤ r60.toInt) (t65 : r60.toInt ≤ 122) (e69 : y68 = ktapeF k47) (c70 : ¬ x46 = 0) (t93 : ¬ (97 ≤ y68.toInt ∧ y68.toInt ≤ 122)) (c139 : nI 0 ≠ r24) (c143 : (k47 - k5) < 3) (e145 : y144 = (nI 10) * x48) (e147 : y146 = y144 + y68) (e149 : y148 = y146 - (nI 48)) : 940 - (k47 + 1) < n57 := by
  have b_y18 := ia_b y18
  have b_r24 := ia_b r24
  have b_x46 := ia_b x46
  have b_x48 := ia_b x48
  have b_r60 := ia_b r60
  have b_y68 := ia_b y68
  have b_y144 := ia_b y144
  have b_y146 := ia_b y146
  have b_y148 := ia_b y148
  try have k_0 := ia_n 0 (by first | decide | omega)
  try have k_1 := ia_n 1 (by first | decide | omega)
  try have k_2 := ia_n 10 (by first | decide | omega)
  try have k_3 := ia_n 48 (by first | decide | omega)
  try simp only [ia_lt, ia_le, ia_eq, ia_m1, ia_0, ia_1, ne_eq, true_and, and_true, false_and, and_false, or_false, false_or, or_true, true_or, not_true_eq_false, not_false_eq_true] at *
  all_goals omega
set_option maxRecDepth 20000 in
theorem lf_x_goP_72 (ksize : Nat) (kto : Nat) (ktapeF : Nat → Int32) (k5 : Nat) (n10 : Nat) (y18 : Int32) (r24 : Int32) (x46 : Int32) (k47 : Nat) (x48 : Int32) (n57 : Nat) (r60 : Int32) (y68 : Int32) (iv_ko_1 : ksize ≤ 940) (iv_ko_3 : kto ≤ ksize) (j6 : k5 ≤ 940) (j7 : k5 ≤ ksize) (j8 : kto ≤ k5) (hm12 : 940 - k5 < n10 + 1) (c17 : k5 < ksize) (e19 : y18 = ktapeF k5) (p25 : r24 = nI 0 ∨ r24 = nI 1) (j50 : x46 = nI 0 ∨ x46 = nI 1) (j51 : k47 ≤ 941) (j52 : k47 ≤ ksize) (j53 : kto ≤ k47) (j54 : k5 ≤ k47) (j55 : (x46 = nI 0 ∨ r24 = nI 1) ∨ (0 ≤ x48.toInt ∧ x48.toInt ≤ 999 ∧ (k5 + 3 ≤ k47 ∨ x48.toInt ≤ 99) ∧ (k5 + 2 ≤ k47 ∨ x48.toInt ≤ 9) ∧ (k5 + 1 ≤ k47 ∨ x48.toInt ≤ 0))) (hm59 : 940 - k47 < n57 + 1) (p61 : (k47 < ksize ∧ r60 = ktapeF k47) ∨ (ksize ≤ k47 ∧ r60 = nI 0)) (t64 : 97 ≤ r60.toInt) (t65 : r60.toInt ≤ 122) (e69 : y68 = ktapeF k47) (c70 : ¬ x46 = 0) (t93 : ¬ (97 ≤ y68.toInt ∧ y68.toInt ≤ 122)) (c139 : nI 0 = r24) : k5 ≤ k47 := by
  have b_y18 := ia_b y18
  have b_r24 := ia_b r24
  have b_x46 := ia_b x46
  have b_x48 := ia_b x48
  have b_r60 := ia_b r60
  have b_y68 := ia_b y68
  try have k_0 := ia_n 0 (by first | decide | omega)
  try have k_1 := ia_n 1 (by first | decide | omega)
  try simp only [ia_lt, ia_le, ia_eq, ia_m1, ia_0, ia_1, ne_eq, true_and, and_true, false_and, and_false, or_false, false_or, or_true, true_or, not_true_eq_false, not_false_eq_true] at *
  all_goals omega
set_option maxRecDepth 20000 in
theorem lf_x_goP_73 (ksize : Nat) (kto : Nat) (ktapeF : Nat → Int32) (k5 : Nat) (n10 : Nat) (y18 : Int32) (r24 : Int32) (x46 : Int32) (k47 : Nat) (x48 : Int32) (n57 : Nat) (r60 : Int32) (y68 : Int32) (iv_ko_1 : ksize ≤ 940) (iv_ko_3 : kto ≤ ksize) (j6 : k5 ≤ 940) (j7 : k5 ≤ ksize) (j8 : kto ≤ k5) (hm12 : 940 - k5 < n10 + 1) (c17 : k5 < ksize) (e19 : y18 = ktapeF k5) (p25 : r24 = nI 0 ∨ r24 = nI 1) (j50 : x46 = nI 0 ∨ x46 = nI 1) (j51 : k47 ≤ 941) (j52 : k47 ≤ ksize) (j53 : kto ≤ k47) (j54 : k5 ≤ k47) (j55 : (x46 = nI 0 ∨ r24 = nI 1) ∨ (0 ≤ x48.toInt ∧ x48.toInt ≤ 999 ∧ (k5 + 3 ≤ k47 ∨ x48.toInt ≤ 99) ∧ (k5 + 2 ≤ k47 ∨ x48.toInt ≤ 9) ∧ (k5 + 1 ≤ k47 ∨ x48.toInt ≤ 0))) (hm59 : 940 - k47 < n57 + 1) (p61 : (k47 < ksize ∧ r60 = ktapeF k47) ∨ (ksize ≤ k47 ∧ r60 = nI 0)) (t64 : 97 ≤ r60.toInt) (t65 : r60.toInt ≤ 122) (e69 : y68 = ktapeF k47) (c70 : ¬ x46 = 0) (t93 : ¬ (97 ≤ y68.toInt ∧ y68.toInt ≤ 122)) (c139 : nI 0 = r24) : k5 ≤ k47 := by
  have b_y18 := ia_b y18
  have b_r24 := ia_b r24
  have b_x46 := ia_b x46
  have b_x48 := ia_b x48
  have b_r60 := ia_b r60
  have b_y68 := ia_b y68
  try have k_0 := ia_n 0 (by first | decide | omega)
  try have k_1 := ia_n 1 (by first | decide | omega)
  try simp only [ia_lt, ia_le, ia_eq, ia_m1, ia_0, ia_1, ne_eq, true_and, and_true, false_and, and_false, or_false, false_or, or_true, true_or, not_true_eq_false, not_false_eq_true] at *
  all_goals omega
set_option maxRecDepth 20000 in
theorem lf_x_goP_74   : (nI 1) = nI 0 ∨ (nI 1) = nI 1 := by
  try have k_0 := ia_n 1 (by first | decide | omega)
  try have k_1 := ia_n 0 (by first | decide | omega)
  try simp only [ia_lt, ia_le, ia_eq, ia_m1, ia_0, ia_1, ne_eq, true_and, and_true, false_and, and_false, or_false, false_or, or_true, true_or, not_true_eq_false, not_false_eq_true] at *
  all_goals omega
set_option maxRecDepth 20000 in
theorem lf_x_goP_75 (ksize : Nat) (kto : Nat) (ktapeF : Nat → Int32) (k5 : Nat) (n10 : Nat) (y18 : Int32) (r24 : Int32) (x46 : Int32) (k47 : Nat) (x48 : Int32) (n57 : Nat) (r60 : Int32) (y68 : Int32) (iv_ko_1 : ksize ≤ 940) (iv_ko_3 : kto ≤ ksize) (j6 : k5 ≤ 940) (j7 : k5 ≤ ksize) (j8 : kto ≤ k5) (hm12 : 940 - k5 < n10 + 1) (c17 : k5 < ksize) (e19 : y18 = ktapeF k5) (p25 : r24 = nI 0 ∨ r24 = nI 1) (j50 : x46 = nI 0 ∨ x46 = nI 1) (j51 : k47 ≤ 941) (j52 : k47 ≤ ksize) (j53 : kto ≤ k47) (j54 : k5 ≤ k47) (j55 : (x46 = nI 0 ∨ r24 = nI 1) ∨ (0 ≤ x48.toInt ∧ x48.toInt ≤ 999 ∧ (k5 + 3 ≤ k47 ∨ x48.toInt ≤ 99) ∧ (k5 + 2 ≤ k47 ∨ x48.toInt ≤ 9) ∧ (k5 + 1 ≤ k47 ∨ x48.toInt ≤ 0))) (hm59 : 940 - k47 < n57 + 1) (p61 : (k47 < ksize ∧ r60 = ktapeF k47) ∨ (ksize ≤ k47 ∧ r60 = nI 0)) (t64 : 97 ≤ r60.toInt) (t65 : r60.toInt ≤ 122) (e69 : y68 = ktapeF k47) (c70 : ¬ x46 = 0) (t93 : ¬ (97 ≤ y68.toInt ∧ y68.toInt ≤ 122)) (c139 : nI 0 = r24) (c161 : 3 ≤ (k47 - k5)) : (k47 + 1) ≤ 941 := by
  have b_y18 := ia_b y18
  have b_r24 := ia_b r24
  have b_x46 := ia_b x46
  have b_x48 := ia_b x48
  have b_r60 := ia_b r60
  have b_y68 := ia_b y68
  try have k_0 := ia_n 0 (by first | decide | omega)
  try have k_1 := ia_n 1 (by first | decide | omega)
  try simp only [ia_lt, ia_le, ia_eq, ia_m1, ia_0, ia_1, ne_eq, true_and, and_true, false_and, and_false, or_false, false_or, or_true, true_or, not_true_eq_false, not_false_eq_true] at *
  all_goals omega
set_option maxRecDepth 20000 in
theorem lf_x_goP_76 (ksize : Nat) (kto : Nat) (ktapeF : Nat → Int32) (k5 : Nat) (n10 : Nat) (y18 : Int32) (r24 : Int32) (x46 : Int32) (k47 : Nat) (x48 : Int32) (n57 : Nat) (r60 : Int32) (y68 : Int32) (iv_ko_1 : ksize ≤ 940) (iv_ko_3 : kto ≤ ksize) (j6 : k5 ≤ 940) (j7 : k5 ≤ ksize) (j8 : kto ≤ k5) (hm12 : 940 - k5 < n10 + 1) (c17 : k5 < ksize) (e19 : y18 = ktapeF k5) (p25 : r24 = nI 0 ∨ r24 = nI 1) (j50 : x46 = nI 0 ∨ x46 = nI 1) (j51 : k47 ≤ 941) (j52 : k47 ≤ ksize) (j53 : kto ≤ k47) (j54 : k5 ≤ k47) (j55 : (x46 = nI 0 ∨ r24 = nI 1) ∨ (0 ≤ x48.toInt ∧ x48.toInt ≤ 999 ∧ (k5 + 3 ≤ k47 ∨ x48.toInt ≤ 99) ∧ (k5 + 2 ≤ k47 ∨ x48.toInt ≤ 9) ∧ (k5 + 1 ≤ k47 ∨ x48.toInt ≤ 0))) (hm59 : 940 - k47 < n57 + 1) (p61 : (k47 < ksize ∧ r60 = ktapeF k47) ∨ (ksize ≤ k47 ∧ r60 = nI 0)) (t64 : 97 ≤ r60.toInt) (t65 : r60.toInt ≤ 122) (e69 : y68 = ktapeF k47) (c70 : ¬ x46 = 0) (t93 : ¬ (97 ≤ y68.toInt ∧ y68.toInt ≤ 122)) (c139 : nI 0 = r24) (c161 : 3 ≤ (k47 - k5)) : (k47 + 1) ≤ ksize := by
  have b_y18 := ia_b y18
  have b_r24 := ia_b r24
  have b_x46 := ia_b x46
  have b_x48 := ia_b x48
  have b_r60 := ia_b r60
  have b_y68 := ia_b y68
  try have k_0 := ia_n 0 (by first | decide | omega)
  try have k_1 := ia_n 1 (by first | decide | omega)
  try simp only [ia_lt, ia_le, ia_eq, ia_m1, ia_0, ia_1, ne_eq, true_and, and_true, false_and, and_false, or_false, false_or, or_true, true_or, not_true_eq_false, not_false_eq_true] at *
  all_goals omega
set_option maxRecDepth 20000 in
theorem lf_x_goP_77 (ksize : Nat) (kto : Nat) (ktapeF : Nat → Int32) (k5 : Nat) (n10 : Nat) (y18 : Int32) (r24 : Int32) (x46 : Int32) (k47 : Nat) (x48 : Int32) (n57 : Nat) (r60 : Int32) (y68 : Int32) (iv_ko_1 : ksize ≤ 940) (iv_ko_3 : kto ≤ ksize) (j6 : k5 ≤ 940) (j7 : k5 ≤ ksize) (j8 : kto ≤ k5) (hm12 : 940 - k5 < n10 + 1) (c17 : k5 < ksize) (e19 : y18 = ktapeF k5) (p25 : r24 = nI 0 ∨ r24 = nI 1) (j50 : x46 = nI 0 ∨ x46 = nI 1) (j51 : k47 ≤ 941) (j52 : k47 ≤ ksize) (j53 : kto ≤ k47) (j54 : k5 ≤ k47) (j55 : (x46 = nI 0 ∨ r24 = nI 1) ∨ (0 ≤ x48.toInt ∧ x48.toInt ≤ 999 ∧ (k5 + 3 ≤ k47 ∨ x48.toInt ≤ 99) ∧ (k5 + 2 ≤ k47 ∨ x48.toInt ≤ 9) ∧ (k5 + 1 ≤ k47 ∨ x48.toInt ≤ 0))) (hm59 : 940 - k47 < n57 + 1) (p61 : (k47 < ksize ∧ r60 = ktapeF k47) ∨ (ksize ≤ k47 ∧ r60 = nI 0)) (t64 : 97 ≤ r60.toInt) (t65 : r60.toInt ≤ 122) (e69 : y68 = ktapeF k47) (c70 : ¬ x46 = 0) (t93 : ¬ (97 ≤ y68.toInt ∧ y68.toInt ≤ 122)) (c139 : nI 0 = r24) (c161 : 3 ≤ (k47 - k5)) : kto ≤ (k47 + 1) := by
  have b_y18 := ia_b y18
  have b_r24 := ia_b r24
  have b_x46 := ia_b x46
  have b_x48 := ia_b x48
  have b_r60 := ia_b r60
  have b_y68 := ia_b y68
  try have k_0 := ia_n 0 (by first | decide | omega)
  try have k_1 := ia_n 1 (by first | decide | omega)
  try simp only [ia_lt, ia_le, ia_eq, ia_m1, ia_0, ia_1, ne_eq, true_and, and_true, false_and, and_false, or_false, false_or, or_true, true_or, not_true_eq_false, not_false_eq_true] at *
  all_goals omega
set_option maxRecDepth 20000 in
theorem lf_x_goP_78 (ksize : Nat) (kto : Nat) (ktapeF : Nat → Int32) (k5 : Nat) (n10 : Nat) (y18 : Int32) (r24 : Int32) (x46 : Int32) (k47 : Nat) (x48 : Int32) (n57 : Nat) (r60 : Int32) (y68 : Int32) (iv_ko_1 : ksize ≤ 940) (iv_ko_3 : kto ≤ ksize) (j6 : k5 ≤ 940) (j7 : k5 ≤ ksize) (j8 : kto ≤ k5) (hm12 : 940 - k5 < n10 + 1) (c17 : k5 < ksize) (e19 : y18 = ktapeF k5) (p25 : r24 = nI 0 ∨ r24 = nI 1) (j50 : x46 = nI 0 ∨ x46 = nI 1) (j51 : k47 ≤ 941) (j52 : k47 ≤ ksize) (j53 : kto ≤ k47) (j54 : k5 ≤ k47) (j55 : (x46 = nI 0 ∨ r24 = nI 1) ∨ (0 ≤ x48.toInt ∧ x48.toInt ≤ 999 ∧ (k5 + 3 ≤ k47 ∨ x48.toInt ≤ 99) ∧ (k5 + 2 ≤ k47 ∨ x48.toInt ≤ 9) ∧ (k5 + 1 ≤ k47 ∨ x48.toInt ≤ 0))) (hm59 : 940 - k47 < n57 + 1) (p61 : (k47 < ksize ∧ r60 = ktapeF k47) ∨ (ksize ≤ k47 ∧ r60 = nI 0)) (t64 : 97 ≤ r60.toInt) (t65 : r60.toInt ≤ 122) (e69 : y68 = ktapeF k47) (c70 : ¬ x46 = 0) (t93 : ¬ (97 ≤ y68.toInt ∧ y68.toInt ≤ 122)) (c139 : nI 0 = r24) (c161 : 3 ≤ (k47 - k5)) : k5 ≤ (k47 + 1) := by
  have b_y18 := ia_b y18
  have b_r24 := ia_b r24
  have b_x46 := ia_b x46
  have b_x48 := ia_b x48
  have b_r60 := ia_b r60
  have b_y68 := ia_b y68
  try have k_0 := ia_n 0 (by first | decide | omega)
  try have k_1 := ia_n 1 (by first | decide | omega)
  try simp only [ia_lt, ia_le, ia_eq, ia_m1, ia_0, ia_1, ne_eq, true_and, and_true, false_and, and_false, or_false, false_or, or_true, true_or, not_true_eq_false, not_false_eq_true] at *
  all_goals omega
set_option maxRecDepth 20000 in
theorem lf_x_goP_79 (ksize : Nat) (kto : Nat) (ktapeF : Nat → Int32) (k5 : Nat) (n10 : Nat) (y18 : Int32) (r24 : Int32) (x46 : Int32) (k47 : Nat) (x48 : Int32) (n57 : Nat) (r60 : Int32) (y68 : Int32) (iv_ko_1 : ksize ≤ 940) (iv_ko_3 : kto ≤ ksize) (j6 : k5 ≤ 940) (j7 : k5 ≤ ksize) (j8 : kto ≤ k5) (hm12 : 940 - k5 < n10 + 1) (c17 : k5 < ksize) (e19 : y18 = ktapeF k5) (p25 : r24 = nI 0 ∨ r24 = nI 1) (j50 : x46 = nI 0 ∨ x46 = nI 1) (j51 : k47 ≤ 941) (j52 : k47 ≤ ksize) (j53 : kto ≤ k47) (j54 : k5 ≤ k47) (j55 : (x46 = nI 0 ∨ r24 = nI 1) ∨ (0 ≤ x48.toInt ∧ x48.toInt ≤ 999 ∧ (k5 + 3 ≤ k47 ∨ x48.toInt ≤ 99) ∧ (k5 + 2 ≤ k47 ∨ x48.toInt ≤ 9) ∧ (k5 + 1 ≤ k47 ∨ x48.toInt ≤ 0))) (hm59 : 940 - k47 < n57 + 1) (p61 : (k47 < ksize ∧ r60 = ktapeF k47) ∨ (ksize ≤ k47 ∧ r60 = nI 0)) (t64 : 97 ≤ r60.toInt) (t65 : r60.toInt ≤ 122) (e69 : y68 = ktapeF k47) (c70 : ¬ x46 = 0) (t93 : ¬ (97 ≤ y68.toInt ∧ y68.toInt ≤ 122)) (c139 : nI 0 = r24) (c161 : 3 ≤ (k47 - k5)) : ((nI 1) = nI 0 ∨ r24 = nI 1) ∨ (0 ≤ x48.toInt ∧ x48.toInt ≤ 999 ∧ (k5 + 3 ≤ (k47 + 1) ∨ x48.toInt ≤ 99) ∧ (k5 + 2 ≤ (k47 + 1) ∨ x48.toInt ≤ 9) ∧ (k5 + 1 ≤ (k47 + 1) ∨ x48.toInt ≤ 0)) := by
  have b_y18 := ia_b y18
  have b_r24 := ia_b r24
  have b_x46 := ia_b x46
  have b_x48 := ia_b x48
  have b_r60 := ia_b r60
  have b_y68 := ia_b y68
  try have k_0 := ia_n 0 (by first | decide | omega)
  try have k_1 := ia_n 1 (by first | decide | omega)
  try simp only [ia_lt, ia_le, ia_eq, ia_m1, ia_0, ia_1, ne_eq, true_and, and_true, false_and, and_false, or_false, false_or, or_true, true_or, not_true_eq_false, not_false_eq_true] at *
  all_goals omega
set_option maxRecDepth 20000 in
theorem lf_x_goP_80 (ksize : Nat) (kto : Nat) (ktapeF : Nat → Int32) (k5 : Nat) (n10 : Nat) (y18 : Int32) (r24 : Int32) (x46 : Int32) (k47 : Nat) (x48 : Int32) (n57 : Nat) (r60 : Int32) (y68 : Int32) (iv_ko_1 : ksize ≤ 940) (iv_ko_3 : kto ≤ ksize) (j6 : k5 ≤ 940) (j7 : k5 ≤ ksize) (j8 : kto ≤ k5) (hm12 : 940 - k5 < n10 + 1) (c17 : k5 < ksize) (e19 : y18 = ktapeF k5) (p25 : r24 = nI 0 ∨ r24 = nI 1) (j50 : x46 = nI 0 ∨ x46 = nI 1) (j51 : k47 ≤ 941) (j52 : k47 ≤ ksize) (j53 : kto ≤ k47) (j54 : k5 ≤ k47) (j55 : (x46 = nI 0 ∨ r24 = nI 1) ∨ (0 ≤ x48.toInt ∧ x48.toInt ≤ 999 ∧ (k5 + 3 ≤ k47 ∨ x48.toInt ≤ 99) ∧ (k5 + 2 ≤ k47 ∨ x48.toInt ≤ 9) ∧ (k5 + 1 ≤ k47 ∨ x48.toInt ≤ 0))) (hm59 : 940 - k47 < n57 + 1) (p61 : (k47 < ksize ∧ r60 = ktapeF k47) ∨ (ksize ≤ k47 ∧ r60 = nI 0)) (t64 : 97 ≤ r60.toInt) (t65 : r60.toInt ≤ 122) (e69 : y68 = ktapeF k47) (c70 : ¬ x46 = 0) (t93 : ¬ (97 ≤ y68.toInt ∧ y68.toInt ≤ 122)) (c139 : nI 0 = r24) (c161 : 3 ≤ (k47 - k5)) : 940 - (k47 + 1) < n57 := by
  have b_y18 := ia_b y18
  have b_r24 := ia_b r24
  have b_x46 := ia_b x46
  have b_x48 := ia_b x48
  have b_r60 := ia_b r60
  have b_y68 := ia_b y68
  try have k_0 := ia_n 0 (by first | decide | omega)
  try have k_1 := ia_n 1 (by first | decide | omega)
  try simp only [ia_lt, ia_le, ia_eq, ia_m1, ia_0, ia_1, ne_eq, true_and, and_true, false_and, and_false, or_false, false_or, or_true, true_or, not_true_eq_false, not_false_eq_true] at *
  all_goals omega
set_option maxRecDepth 20000 in
theorem lf_x_goP_81   : (nI 1) = nI 0 ∨ (nI 1) = nI 1 := by
  try have k_0 := ia_n 1 (by first | decide | omega)
  try have k_1 := ia_n 0 (by first | decide | omega)
  try simp only [ia_lt, ia_le, ia_eq, ia_m1, ia_0, ia_1, ne_eq, true_and, and_true, false_and, and_false, or_false, false_or, or_true, true_or, not_true_eq_false, not_false_eq_true] at *
  all_goals omega
set_option maxRecDepth 20000 in
theorem lf_x_goP_82 (ksize : Nat) (kto : Nat) (ktapeF : Nat → Int32) (k5 : Nat) (n10 : Nat) (y18 : Int32) (r24 : Int32) (x46 : Int32) (k47 : Nat) (x48 : Int32) (n57 : Nat) (r60 : Int32) (y68 : Int32) (y162 : Int32) (y164 : Int32) (y166 : Int32) (iv_ko_1 : ksize ≤ 940) (iv_ko_3 : kto ≤ ksize) (j6 : k5 ≤ 940) (j7 : k5 ≤ ksize) (j8 : kto ≤ k5) (hm12 : 940 - k5 < n10 + 1) (c17 : k5 < ksize) (e19 : y18 = ktapeF k5) (p25 : r24 = nI 0 ∨ r24 = nI 1) (j50 : x46 = nI 0 ∨ x46 = nI 1) (j51 : k47 ≤ 941) (j52 : k47 ≤ ksize) (j53 : kto ≤ k47) (j54 : k5 ≤ k47) (j55 : (x46 = nI 0 ∨ r24 = nI 1) ∨ (0 ≤ x48.toInt ∧ x48.toInt ≤ 999 ∧ (k5 + 3 ≤ k47 ∨ x48.toInt ≤ 99) ∧ (k5 + 2 ≤ k47 ∨ x48.toInt ≤ 9) ∧ (k5 + 1 ≤ k47 ∨ x48.toInt ≤ 0))) (hm59 : 940 - k47 < n57 + 1) (p61 : (k47 < ksize ∧ r60 = ktapeF k47) ∨ (ksize ≤ k47 ∧ r60 = nI 0)) (t64 : 97 ≤ r60.toInt) (t65 : r60.toInt ≤ 122) (e69 : y68 = ktapeF k47) (c70 : ¬ x46 = 0) (t93 : ¬ (97 ≤ y68.toInt ∧ y68.toInt ≤ 122)) (c139 : nI 0 = r24) (c161 : (k47 - k5) < 3) (e163 : y162 = (nI 10) * x48) (e165 : y164 = y162 + y68) (e167 : y166 = y164 - (nI 48)) : (k47 + 1) ≤ 941 := by
  have b_y18 := ia_b y18
  have b_r24 := ia_b r24
  have b_x46 := ia_b x46
  have b_x48 := ia_b x48
  have b_r60 := ia_b r60
  have b_y68 := ia_b y68
  have b_y162 := ia_b y162
  have b_y164 := ia_b y164
  have b_y166 := ia_b y166
  try have k_0 := ia_n 0 (by first | decide | omega)
  try have k_1 := ia_n 1 (by first | decide | omega)
  try have k_2 := ia_n 10 (by first | decide | omega)
  try have k_3 := ia_n 48 (by first | decide | omega)
  try simp only [ia_lt, ia_le, ia_eq, ia_m1, ia_0, ia_1, ne_eq, true_and, and_true, false_and, and_false, or_false, false_or, or_true, true_or, not_true_eq_false, not_false_eq_true] at *
  all_goals omega
set_option maxRecDepth 20000 in
theorem lf_x_goP_83 (ksize : Nat) (kto : Nat) (ktapeF : Nat → Int32) (k5 : Nat) (n10 : Nat) (y18 : Int32) (r24 : Int32) (x46 : Int32) (k47 : Nat) (x48 : Int32) (n57 : Nat) (r60 : Int32) (y68 : Int32) (y162 : Int32) (y164 : Int32) (y166 : Int32) (iv_ko_1 : ksize ≤ 940) (iv_ko_3 : kto ≤ ksize) (j6 : k5 ≤ 940) (j7 : k5 ≤ ksize) (j8 : kto ≤ k5) (hm12 : 940 - k5 < n10 + 1) (c17 : k5 < ksize) (e19 : y18 = ktapeF k5) (p25 : r24 = nI 0 ∨ r24 = nI 1) (j50 : x46 = nI 0 ∨ x46 = nI 1) (j51 : k47 ≤ 941) (j52 : k47 ≤ ksize) (j53 : kto ≤ k47) (j54 : k5 ≤ k47) (j55 : (x46 = nI 0 ∨ r24 = nI 1) ∨ (0 ≤ x48.toInt ∧ x48.toInt ≤ 999 ∧ (k5 + 3 ≤ k47 ∨ x48.toInt ≤ 99) ∧ (k5 + 2 ≤ k47 ∨ x48.toInt ≤ 9) ∧ (k5 + 1 ≤ k47 ∨ x48.toInt ≤ 0))) (hm59 : 940 - k47 < n57 + 1) (p61 : (k47 < ksize ∧ r60 = ktapeF k47) ∨ (ksize ≤ k47 ∧ r60 = nI 0)) (t64 : 97 ≤ r60.toInt) (t65 : r60.toInt ≤ 122) (e69 : y68 = ktapeF k47) (c70 : ¬ x46 = 0) (t93 : ¬ (97 ≤ y68.toInt ∧ y68.toInt ≤ 122)) (c139 : nI 0 = r24) (c161 : (k47 - k5) < 3) (e163 : y162 = (nI 10) * x48) (e165 : y164 = y162 + y68) (e167 : y166 = y164 - (nI 48)) : (k47 + 1) ≤ ksize := by
  have b_y18 := ia_b y18
  have b_r24 := ia_b r24
  have b_x46 := ia_b x46
  have b_x48 := ia_b x48
  have b_r60 := ia_b r60
  have b_y68 := ia_b y68
  have b_y162 := ia_b y162
  have b_y164 := ia_b y164
  have b_y166 := ia_b y166
  try have k_0 := ia_n 0 (by first | decide | omega)
  try have k_1 := ia_n 1 (by first | decide | omega)
  try have k_2 := ia_n 10 (by first | decide | omega)
  try have k_3 := ia_n 48 (by first | decide | omega)
  try simp only [ia_lt, ia_le, ia_eq, ia_m1, ia_0, ia_1, ne_eq, true_and, and_true, false_and, and_false, or_false, false_or, or_true, true_or, not_true_eq_false, not_false_eq_true] at *
  all_goals omega
set_option maxRecDepth 20000 in
theorem lf_x_goP_84 (ksize : Nat) (kto : Nat) (ktapeF : Nat → Int32) (k5 : Nat) (n10 : Nat) (y18 : Int32) (r24 : Int32) (x46 : Int32) (k47 : Nat) (x48 : Int32) (n57 : Nat) (r60 : Int32) (y68 : Int32) (y162 : Int32) (y164 : Int32) (y166 : Int32) (iv_ko_1 : ksize ≤ 940) (iv_ko_3 : kto ≤ ksize) (j6 : k5 ≤ 940) (j7 : k5 ≤ ksize) (j8 : kto ≤ k5) (hm12 : 940 - k5 < n10 + 1) (c17 : k5 < ksize) (e19 : y18 = ktapeF k5) (p25 : r24 = nI 0 ∨ r24 = nI 1) (j50 : x46 = nI 0 ∨ x46 = nI 1) (j51 : k47 ≤ 941) (j52 : k47 ≤ ksize) (j53 : kto ≤ k47) (j54 : k5 ≤ k47) (j55 : (x46 = nI 0 ∨ r24 = nI 1) ∨ (0 ≤ x48.toInt ∧ x48.toInt ≤ 999 ∧ (k5 + 3 ≤ k47 ∨ x48.toInt ≤ 99) ∧ (k5 + 2 ≤ k47 ∨ x48.toInt ≤ 9) ∧ (k5 + 1 ≤ k47 ∨ x48.toInt ≤ 0))) (hm59 : 940 - k47 < n57 + 1) (p61 : (k47 < ksize ∧ r60 = ktapeF k47) ∨ (ksize ≤ k47 ∧ r60 = nI 0)) (t64 : 97 ≤ r60.toInt) (t65 : r60.toInt ≤ 122) (e69 : y68 = ktapeF k47) (c70 : ¬ x46 = 0) (t93 : ¬ (97 ≤ y68.toInt ∧ y68.toInt ≤ 122)) (c139 : nI 0 = r24) (c161 : (k47 - k5) < 3) (e163 : y162 = (nI 10) * x48) (e165 : y164 = y162 + y68) (e167 : y166 = y164 - (nI 48)) : kto ≤ (k47 + 1) := by
  have b_y18 := ia_b y18
  have b_r24 := ia_b r24
  have b_x46 := ia_b x46
  have b_x48 := ia_b x48
  have b_r60 := ia_b r60
  have b_y68 := ia_b y68
  have b_y162 := ia_b y162
  have b_y164 := ia_b y164
  have b_y166 := ia_b y166
  try have k_0 := ia_n 0 (by first | decide | omega)
  try have k_1 := ia_n 1 (by first | decide | omega)
  try have k_2 := ia_n 10 (by first | decide | omega)
  try have k_3 := ia_n 48 (by first | decide | omega)
  try simp only [ia_lt, ia_le, ia_eq, ia_m1, ia_0, ia_1, ne_eq, true_and, and_true, false_and, and_false, or_false, false_or, or_true, true_or, not_true_eq_false, not_false_eq_true] at *
  all_goals omega
set_option maxRecDepth 20000 in
theorem lf_x_goP_85 (ksize : Nat) (kto : Nat) (ktapeF : Nat → Int32) (k5 : Nat) (n10 : Nat) (y18 : Int32) (r24 : Int32) (x46 : Int32) (k47 : Nat) (x48 : Int32) (n57 : Nat) (r60 : Int32) (y68 : Int32) (y162 : Int32) (y164 : Int32) (y166 : Int32) (iv_ko_1 : ksize ≤ 940) (iv_ko_3 : kto ≤ ksize) (j6 : k5 ≤ 940) (j7 : k5 ≤ ksize) (j8 : kto ≤ k5) (hm12 : 940 - k5 < n10 + 1) (c17 : k5 < ksize) (e19 : y18 = ktapeF k5) (p25 : r24 = nI 0 ∨ r24 = nI 1) (j50 : x46 = nI 0 ∨ x46 = nI 1) (j51 : k47 ≤ 941) (j52 : k47 ≤ ksize) (j53 : kto ≤ k47) (j54 : k5 ≤ k47) (j55 : (x46 = nI 0 ∨ r24 = nI 1) ∨ (0 ≤ x48.toInt ∧ x48.toInt ≤ 999 ∧ (k5 + 3 ≤ k47 ∨ x48.toInt ≤ 99) ∧ (k5 + 2 ≤ k47 ∨ x48.toInt ≤ 9) ∧ (k5 + 1 ≤ k47 ∨ x48.toInt ≤ 0))) (hm59 : 940 - k47 < n57 + 1) (p61 : (k47 < ksize ∧ r60 = ktapeF k47) ∨ (ksize ≤ k47 ∧ r60 = nI 0)) (t64 : 97 ≤ r60.toInt) (t65 : r60.toInt ≤ 122) (e69 : y68 = ktapeF k47) (c70 : ¬ x46 = 0) (t93 : ¬ (97 ≤ y68.toInt ∧ y68.toInt ≤ 122)) (c139 : nI 0 = r24) (c161 : (k47 - k5) < 3) (e163 : y162 = (nI 10) * x48) (e165 : y164 = y162 + y68) (e167 : y166 = y164 - (nI 48)) : k5 ≤ (k47 + 1) := by
  have b_y18 := ia_b y18
  have b_r24 := ia_b r24
  have b_x46 := ia_b x46
  have b_x48 := ia_b x48
  have b_r60 := ia_b r60
  have b_y68 := ia_b y68
  have b_y162 := ia_b y162
  have b_y164 := ia_b y164
  have b_y166 := ia_b y166
  try have k_0 := ia_n 0 (by first | decide | omega)
  try have k_1 := ia_n 1 (by first | decide | omega)
  try have k_2 := ia_n 10 (by first | decide | omega)
  try have k_3 := ia_n 48 (by first | decide | omega)
  try simp only [ia_lt, ia_le, ia_eq, ia_m1, ia_0, ia_1, ne_eq, true_and, and_true, false_and, and_false, or_false, false_or, or_true, true_or, not_true_eq_false, not_false_eq_true] at *
  all_goals omega
set_option maxRecDepth 20000 in
theorem lf_x_goP_86 (ksize : Nat) (kto : Nat) (ktapeF : Nat → Int32) (k5 : Nat) (n10 : Nat) (y18 : Int32) (r24 : Int32) (x46 : Int32) (k47 : Nat) (x48 : Int32) (n57 : Nat) (r60 : Int32) (y68 : Int32) (y162 : Int32) (y164 : Int32) (y166 : Int32) (iv_ko_1 : ksize ≤ 940) (iv_ko_3 : kto ≤ ksize) (j6 : k5 ≤ 940) (j7 : k5 ≤ ksize) (j8 : kto ≤ k5) (hm12 : 940 - k5 < n10 + 1) (c17 : k5 < ksize) (e19 : y18 = ktapeF k5) (p25 : r24 = nI 0 ∨ r24 = nI 1) (j50 : x46 = nI 0 ∨ x46 = nI 1) (j51 : k47 ≤ 941) (j52 : k47 ≤ ksize) (j53 : kto ≤ k47) (j54 : k5 ≤ k47) (j55 : (x46 = nI 0 ∨ r24 = nI 1) ∨ (0 ≤ x48.toInt ∧ x48.toInt ≤ 999 ∧ (k5 + 3 ≤ k47 ∨ x48.toInt ≤ 99) ∧ (k5 + 2 ≤ k47 ∨ x48.toInt ≤ 9) ∧ (k5 + 1 ≤ k47 ∨ x48.toInt ≤ 0))) (hm59 : 940 - k47 < n57 + 1) (p61 : (k47 < ksize ∧ r60 = ktapeF k47) ∨ (ksize ≤ k47 ∧ r60 = nI 0)) (t64 : 97 ≤ r60.toInt) (t65 : r60.toInt ≤ 122) (e69 : y68 = ktapeF k47) (c70 : ¬ x46 = 0) (t93 : ¬ (97 ≤ y68.toInt ∧ y68.toInt ≤ 122)) (c139 : nI 0 = r24) (c161 : (k47 - k5) < 3) (e163 : y162 = (nI 10) * x48) (e165 : y164 = y162 + y68) (e167 : y166 = y164 - (nI 48)) : ((nI 1) = nI 0 ∨ r24 = nI 1) ∨ (0 ≤ y166.toInt ∧ y166.toInt ≤ 999 ∧ (k5 + 3 ≤ (k47 + 1) ∨ y166.toInt ≤ 99) ∧ (k5 + 2 ≤ (k47 + 1) ∨ y166.toInt ≤ 9) ∧ (k5 + 1 ≤ (k47 + 1) ∨ y166.toInt ≤ 0)) := by
  have b_y18 := ia_b y18
  have b_r24 := ia_b r24
  have b_x46 := ia_b x46
  have b_x48 := ia_b x48
  have b_r60 := ia_b r60
  have b_y68 := ia_b y68
  have b_y162 := ia_b y162
  have b_y164 := ia_b y164
  have b_y166 := ia_b y166
  try have k_0 := ia_n 0 (by first | decide | omega)
  try have k_1 := ia_n 1 (by first | decide | omega)
  try have k_2 := ia_n 10 (by first | decide | omega)
  try have k_3 := ia_n 48 (by first | decide | omega)
  have h9 := ten_step x48 y68
  rw [← e163, ← e165, ← e167] at h9
  clear e167 e165 e163
  try simp only [ia_lt, ia_le, ia_eq, ia_m1, ia_0, ia_1, ne_eq, true_and, and_true, false_and, and_false, or_false, false_or, or_true, true_or, not_true_eq_false, not_false_eq_true] at *
  all_goals omega
set_option maxRecDepth 20000 in
theorem lf_x_goP_87 (ksize : Nat) (kto : Nat) (ktapeF : Nat → Int32) (k5 : Nat) (n10 : Nat) (y18 : Int32) (r24 : Int32) (x46 : Int32) (k47 : Nat) (x48 : Int32) (n57 : Nat) (r60 : Int32) (y68 : Int32) (y162 : Int32) (y164 : Int32) (y166 : Int32) (iv_ko_1 : ksize ≤ 940) (iv_ko_3 : kto ≤ ksize) (j6 : k5 ≤ 940) (j7 : k5 ≤ ksize) (j8 : kto ≤ k5) (hm12 : 940 - k5 < n10 + 1) (c17 : k5 < ksize) (e19 : y18 = ktapeF k5) (p25 : r24 = nI 0 ∨ r24 = nI 1) (j50 : x46 = nI 0 ∨ x46 = nI 1) (j51 : k47 ≤ 941) (j52 : k47 ≤ ksize) (j53 : kto ≤ k47) (j54 : k5 ≤ k47) (j55 : (x46 = nI 0 ∨ r24 = nI 1) ∨ (0 ≤ x48.toInt ∧ x48.toInt ≤ 999 ∧ (k5 + 3 ≤ k47 ∨ x48.toInt ≤ 99) ∧ (k5 + 2 ≤ k47 ∨ x48.toInt ≤ 9) ∧ (k5 + 1 ≤ k47 ∨ x48.toInt ≤ 0))) (hm59 : 940 - k47 < n57 + 1) (p61 : (k47 < ksize ∧ r60 = ktapeF k47) ∨ (ksize ≤ k47 ∧ r60 = nI 0)) (t64 : 97 ≤ r60.toInt) (t65 : r60.toInt ≤ 122) (e69 : y68 = ktapeF k47) (c70 : ¬ x46 = 0) (t93 : ¬ (97 ≤ y68.toInt ∧ y68.toInt ≤ 122)) (c139 : nI 0 = r24) (c161 : (k47 - k5) < 3) (e163 : y162 = (nI 10) * x48) (e165 : y164 = y162 + y68) (e167 : y166 = y164 - (nI 48)) : 940 - (k47 + 1) < n57 := by
  have b_y18 := ia_b y18
  have b_r24 := ia_b r24
  have b_x46 := ia_b x46
  have b_x48 := ia_b x48
  have b_r60 := ia_b r60
  have b_y68 := ia_b y68
  have b_y162 := ia_b y162
  have b_y164 := ia_b y164
  have b_y166 := ia_b y166
  try have k_0 := ia_n 0 (by first | decide | omega)
  try have k_1 := ia_n 1 (by first | decide | omega)
  try have k_2 := ia_n 10 (by first | decide | omega)
  try have k_3 := ia_n 48 (by first | decide | omega)
  try simp only [ia_lt, ia_le, ia_eq, ia_m1, ia_0, ia_1, ne_eq, true_and, and_true, false_and, and_false, or_false, false_or, or_true, true_or, not_true_eq_false, not_false_eq_true] at *
  all_goals omega
set_option maxRecDepth 20000 in
theorem lf_x_goP_88 (ksize : Nat) (kto : Nat) (ktapeF : Nat → Int32) (k5 : Nat) (n10 : Nat) (y18 : Int32) (r24 : Int32) (x46 : Int32) (k47 : Nat) (x48 : Int32) (n57 : Nat) (r60 : Int32) (iv_ko_1 : ksize ≤ 940) (iv_ko_3 : kto ≤ ksize) (j6 : k5 ≤ 940) (j7 : k5 ≤ ksize) (j8 : kto ≤ k5) (hm12 : 940 - k5 < n10 + 1) (c17 : k5 < ksize) (e19 : y18 = ktapeF k5) (p25 : r24 = nI 0 ∨ r24 = nI 1) (j50 : x46 = nI 0 ∨ x46 = nI 1) (j51 : k47 ≤ 941) (j52 : k47 ≤ ksize) (j53 : kto ≤ k47) (j54 : k5 ≤ k47) (j55 : (x46 = nI 0 ∨ r24 = nI 1) ∨ (0 ≤ x48.toInt ∧ x48.toInt ≤ 999 ∧ (k5 + 3 ≤ k47 ∨ x48.toInt ≤ 99) ∧ (k5 + 2 ≤ k47 ∨ x48.toInt ≤ 9) ∧ (k5 + 1 ≤ k47 ∨ x48.toInt ≤ 0))) (hm59 : 940 - k47 < n57 + 1) (p61 : (k47 < ksize ∧ r60 = ktapeF k47) ∨ (ksize ≤ k47 ∧ r60 = nI 0)) (t66 : ¬ (97 ≤ r60.toInt ∧ r60.toInt ≤ 122)) : k47 ≤ 940 := by
  have b_y18 := ia_b y18
  have b_r24 := ia_b r24
  have b_x46 := ia_b x46
  have b_x48 := ia_b x48
  have b_r60 := ia_b r60
  try have k_0 := ia_n 0 (by first | decide | omega)
  try have k_1 := ia_n 1 (by first | decide | omega)
  try simp only [ia_lt, ia_le, ia_eq, ia_m1, ia_0, ia_1, ne_eq, true_and, and_true, false_and, and_false, or_false, false_or, or_true, true_or, not_true_eq_false, not_false_eq_true] at *
  all_goals omega
set_option maxRecDepth 20000 in
theorem lf_x_goP_89 (ksize : Nat) (kto : Nat) (ktapeF : Nat → Int32) (k5 : Nat) (n10 : Nat) (y18 : Int32) (r24 : Int32) (x46 : Int32) (k47 : Nat) (x48 : Int32) (n57 : Nat) (r60 : Int32) (r177 : Int32) (y185 : Int32) (iv_ko_1 : ksize ≤ 940) (iv_ko_3 : kto ≤ ksize) (j6 : k5 ≤ 940) (j7 : k5 ≤ ksize) (j8 : kto ≤ k5) (hm12 : 940 - k5 < n10 + 1) (c17 : k5 < ksize) (e19 : y18 = ktapeF k5) (p25 : r24 = nI 0 ∨ r24 = nI 1) (j50 : x46 = nI 0 ∨ x46 = nI 1) (j51 : k47 ≤ 941) (j52 : k47 ≤ ksize) (j53 : kto ≤ k47) (j54 : k5 ≤ k47) (j55 : (x46 = nI 0 ∨ r24 = nI 1) ∨ (0 ≤ x48.toInt ∧ x48.toInt ≤ 999 ∧ (k5 + 3 ≤ k47 ∨ x48.toInt ≤ 99) ∧ (k5 + 2 ≤ k47 ∨ x48.toInt ≤ 9) ∧ (k5 + 1 ≤ k47 ∨ x48.toInt ≤ 0))) (hm59 : 940 - k47 < n57 + 1) (p61 : (k47 < ksize ∧ r60 = ktapeF k47) ∨ (ksize ≤ k47 ∧ r60 = nI 0)) (t66 : ¬ (97 ≤ r60.toInt ∧ r60.toInt ≤ 122)) (p178 : (k47 < ksize ∧ r177 = ktapeF k47) ∨ (ksize ≤ k47 ∧ r177 = nI 0)) (t181 : 48 ≤ r177.toInt) (t182 : r177.toInt ≤ 57) (e186 : y185 = ktapeF k47) : k47 < 940 := by
  have b_y18 := ia_b y18
  have b_r24 := ia_b r24
  have b_x46 := ia_b x46
  have b_x48 := ia_b x48
  have b_r60 := ia_b r60
  have b_r177 := ia_b r177
  have b_y185 := ia_b y185
  try have k_0 := ia_n 0 (by first | decide | omega)
  try have k_1 := ia_n 1 (by first | decide | omega)
  try simp only [ia_lt, ia_le, ia_eq, ia_m1, ia_0, ia_1, ne_eq, true_and, and_true, false_and, and_false, or_false, false_or, or_true, true_or, not_true_eq_false, not_false_eq_true] at *
  all_goals omega
set_option maxRecDepth 20000 in
theorem lf_x_goP_90 (ksize : Nat) (kto : Nat) (ktapeF : Nat → Int32) (k5 : Nat) (n10 : Nat) (y18 : Int32) (r24 : Int32) (x46 : Int32) (k47 : Nat) (x48 : Int32) (n57 : Nat) (r60 : Int32) (r177 : Int32) (y185 : Int32) (iv_ko_1 : ksize ≤ 940) (iv_ko_3 : kto ≤ ksize) (j6 : k5 ≤ 940) (j7 : k5 ≤ ksize) (j8 : kto ≤ k5) (hm12 : 940 - k5 < n10 + 1) (c17 : k5 < ksize) (e19 : y18 = ktapeF k5) (p25 : r24 = nI 0 ∨ r24 = nI 1) (j50 : x46 = nI 0 ∨ x46 = nI 1) (j51 : k47 ≤ 941) (j52 : k47 ≤ ksize) (j53 : kto ≤ k47) (j54 : k5 ≤ k47) (j55 : (x46 = nI 0 ∨ r24 = nI 1) ∨ (0 ≤ x48.toInt ∧ x48.toInt ≤ 999 ∧ (k5 + 3 ≤ k47 ∨ x48.toInt ≤ 99) ∧ (k5 + 2 ≤ k47 ∨ x48.toInt ≤ 9) ∧ (k5 + 1 ≤ k47 ∨ x48.toInt ≤ 0))) (hm59 : 940 - k47 < n57 + 1) (p61 : (k47 < ksize ∧ r60 = ktapeF k47) ∨ (ksize ≤ k47 ∧ r60 = nI 0)) (t66 : ¬ (97 ≤ r60.toInt ∧ r60.toInt ≤ 122)) (p178 : (k47 < ksize ∧ r177 = ktapeF k47) ∨ (ksize ≤ k47 ∧ r177 = nI 0)) (t181 : 48 ≤ r177.toInt) (t182 : r177.toInt ≤ 57) (e186 : y185 = ktapeF k47) (c187 : x46 = 0) : k5 ≤ k47 := by
  have b_y18 := ia_b y18
  have b_r24 := ia_b r24
  have b_x46 := ia_b x46
  have b_x48 := ia_b x48
  have b_r60 := ia_b r60
  have b_r177 := ia_b r177
  have b_y185 := ia_b y185
  try have k_0 := ia_n 0 (by first | decide | omega)
  try have k_1 := ia_n 1 (by first | decide | omega)
  try simp only [ia_lt, ia_le, ia_eq, ia_m1, ia_0, ia_1, ne_eq, true_and, and_true, false_and, and_false, or_false, false_or, or_true, true_or, not_true_eq_false, not_false_eq_true] at *
  all_goals omega
set_option maxRecDepth 20000 in
theorem lf_x_goP_91 (ksize : Nat) (kto : Nat) (ktapeF : Nat → Int32) (k5 : Nat) (n10 : Nat) (y18 : Int32) (r24 : Int32) (x46 : Int32) (k47 : Nat) (x48 : Int32) (n57 : Nat) (r60 : Int32) (r177 : Int32) (y185 : Int32) (iv_ko_1 : ksize ≤ 940) (iv_ko_3 : kto ≤ ksize) (j6 : k5 ≤ 940) (j7 : k5 ≤ ksize) (j8 : kto ≤ k5) (hm12 : 940 - k5 < n10 + 1) (c17 : k5 < ksize) (e19 : y18 = ktapeF k5) (p25 : r24 = nI 0 ∨ r24 = nI 1) (j50 : x46 = nI 0 ∨ x46 = nI 1) (j51 : k47 ≤ 941) (j52 : k47 ≤ ksize) (j53 : kto ≤ k47) (j54 : k5 ≤ k47) (j55 : (x46 = nI 0 ∨ r24 = nI 1) ∨ (0 ≤ x48.toInt ∧ x48.toInt ≤ 999 ∧ (k5 + 3 ≤ k47 ∨ x48.toInt ≤ 99) ∧ (k5 + 2 ≤ k47 ∨ x48.toInt ≤ 9) ∧ (k5 + 1 ≤ k47 ∨ x48.toInt ≤ 0))) (hm59 : 940 - k47 < n57 + 1) (p61 : (k47 < ksize ∧ r60 = ktapeF k47) ∨ (ksize ≤ k47 ∧ r60 = nI 0)) (t66 : ¬ (97 ≤ r60.toInt ∧ r60.toInt ≤ 122)) (p178 : (k47 < ksize ∧ r177 = ktapeF k47) ∨ (ksize ≤ k47 ∧ r177 = nI 0)) (t181 : 48 ≤ r177.toInt) (t182 : r177.toInt ≤ 57) (e186 : y185 = ktapeF k47) (c187 : x46 = 0) : k5 ≤ k47 := by
  have b_y18 := ia_b y18
  have b_r24 := ia_b r24
  have b_x46 := ia_b x46
  have b_x48 := ia_b x48
  have b_r60 := ia_b r60
  have b_r177 := ia_b r177
  have b_y185 := ia_b y185
  try have k_0 := ia_n 0 (by first | decide | omega)
  try have k_1 := ia_n 1 (by first | decide | omega)
  try simp only [ia_lt, ia_le, ia_eq, ia_m1, ia_0, ia_1, ne_eq, true_and, and_true, false_and, and_false, or_false, false_or, or_true, true_or, not_true_eq_false, not_false_eq_true] at *
  all_goals omega
set_option maxRecDepth 20000 in
theorem lf_x_goP_92   : (nI 0) = nI 0 ∨ (nI 0) = nI 1 := by
  try have k_0 := ia_n 0 (by first | decide | omega)
  try have k_1 := ia_n 1 (by first | decide | omega)
  try simp only [ia_lt, ia_le, ia_eq, ia_m1, ia_0, ia_1, ne_eq, true_and, and_true, false_and, and_false, or_false, false_or, or_true, true_or, not_true_eq_false, not_false_eq_true] at *
  all_goals omega
set_option maxRecDepth 20000 in
theorem lf_x_goP_93 (ksize : Nat) (kto : Nat) (ktapeF : Nat → Int32) (k5 : Nat) (n10 : Nat) (y18 : Int32) (r24 : Int32) (x46 : Int32) (k47 : Nat) (x48 : Int32) (n57 : Nat) (r60 : Int32) (r177 : Int32) (y185 : Int32) (iv_ko_1 : ksize ≤ 940) (iv_ko_3 : kto ≤ ksize) (j6 : k5 ≤ 940) (j7 : k5 ≤ ksize) (j8 : kto ≤ k5) (hm12 : 940 - k5 < n10 + 1) (c17 : k5 < ksize) (e19 : y18 = ktapeF k5) (p25 : r24 = nI 0 ∨ r24 = nI 1) (j50 : x46 = nI 0 ∨ x46 = nI 1) (j51 : k47 ≤ 941) (j52 : k47 ≤ ksize) (j53 : kto ≤ k47) (j54 : k5 ≤ k47) (j55 : (x46 = nI 0 ∨ r24 = nI 1) ∨ (0 ≤ x48.toInt ∧ x48.toInt ≤ 999 ∧ (k5 + 3 ≤ k47 ∨ x48.toInt ≤ 99) ∧ (k5 + 2 ≤ k47 ∨ x48.toInt ≤ 9) ∧ (k5 + 1 ≤ k47 ∨ x48.toInt ≤ 0))) (hm59 : 940 - k47 < n57 + 1) (p61 : (k47 < ksize ∧ r60 = ktapeF k47) ∨ (ksize ≤ k47 ∧ r60 = nI 0)) (t66 : ¬ (97 ≤ r60.toInt ∧ r60.toInt ≤ 122)) (p178 : (k47 < ksize ∧ r177 = ktapeF k47) ∨ (ksize ≤ k47 ∧ r177 = nI 0)) (t181 : 48 ≤ r177.toInt) (t182 : r177.toInt ≤ 57) (e186 : y185 = ktapeF k47) (c187 : x46 = 0) (c191 : 3 ≤ (k47 - k5)) : (k47 + 1) ≤ 941 := by
  have b_y18 := ia_b y18
  have b_r24 := ia_b r24
  have b_x46 := ia_b x46
  have b_x48 := ia_b x48
  have b_r60 := ia_b r60
  have b_r177 := ia_b r177
  have b_y185 := ia_b y185
  try have k_0 := ia_n 0 (by first | decide | omega)
  try have k_1 := ia_n 1 (by first | decide | omega)
  try simp only [ia_lt, ia_le, ia_eq, ia_m1, ia_0, ia_1, ne_eq, true_and, and_true, false_and, and_false, or_false, false_or, or_true, true_or, not_true_eq_false, not_false_eq_true] at *
  all_goals omega
set_option maxRecDepth 20000 in
theorem lf_x_goP_94 (ksize : Nat) (kto : Nat) (ktapeF : Nat → Int32) (k5 : Nat) (n10 : Nat) (y18 : Int32) (r24 : Int32) (x46 : Int32) (k47 : Nat) (x48 : Int32) (n57 : Nat) (r60 : Int32) (r177 : Int32) (y185 : Int32) (iv_ko_1 : ksize ≤ 940) (iv_ko_3 : kto ≤ ksize) (j6 : k5 ≤ 940) (j7 : k5 ≤ ksize) (j8 : kto ≤ k5) (hm12 : 940 - k5 < n10 + 1) (c17 : k5 < ksize) (e19 : y18 = ktapeF k5) (p25 : r24 = nI 0 ∨ r24 = nI 1) (j50 : x46 = nI 0 ∨ x46 = nI 1) (j51 : k47 ≤ 941) (j52 : k47 ≤ ksize) (j53 : kto ≤ k47) (j54 : k5 ≤ k47) (j55 : (x46 = nI 0 ∨ r24 = nI 1) ∨ (0 ≤ x48.toInt ∧ x48.toInt ≤ 999 ∧ (k5 + 3 ≤ k47 ∨ x48.toInt ≤ 99) ∧ (k5 + 2 ≤ k47 ∨ x48.toInt ≤ 9) ∧ (k5 + 1 ≤ k47 ∨ x48.toInt ≤ 0))) (hm59 : 940 - k47 < n57 + 1) (p61 : (k47 < ksize ∧ r60 = ktapeF k47) ∨ (ksize ≤ k47 ∧ r60 = nI 0)) (t66 : ¬ (97 ≤ r60.toInt ∧ r60.toInt ≤ 122)) (p178 : (k47 < ksize ∧ r177 = ktapeF k47) ∨ (ksize ≤ k47 ∧ r177 = nI 0)) (t181 : 48 ≤ r177.toInt) (t182 : r177.toInt ≤ 57) (e186 : y185 = ktapeF k47) (c187 : x46 = 0) (c191 : 3 ≤ (k47 - k5)) : (k47 + 1) ≤ ksize := by
  have b_y18 := ia_b y18
  have b_r24 := ia_b r24
  have b_x46 := ia_b x46
  have b_x48 := ia_b x48
  have b_r60 := ia_b r60
  have b_r177 := ia_b r177
  have b_y185 := ia_b y185
  try have k_0 := ia_n 0 (by first | decide | omega)
  try have k_1 := ia_n 1 (by first | decide | omega)
  try simp only [ia_lt, ia_le, ia_eq, ia_m1, ia_0, ia_1, ne_eq, true_and, and_true, false_and, and_false, or_false, false_or, or_true, true_or, not_true_eq_false, not_false_eq_true] at *
  all_goals omega
set_option maxRecDepth 20000 in
theorem lf_x_goP_95 (ksize : Nat) (kto : Nat) (ktapeF : Nat → Int32) (k5 : Nat) (n10 : Nat) (y18 : Int32) (r24 : Int32) (x46 : Int32) (k47 : Nat) (x48 : Int32) (n57 : Nat) (r60 : Int32) (r177 : Int32) (y185 : Int32) (iv_ko_1 : ksize ≤ 940) (iv_ko_3 : kto ≤ ksize) (j6 : k5 ≤ 940) (j7 : k5 ≤ ksize) (j8 : kto ≤ k5) (hm12 : 940 - k5 < n10 + 1) (c17 : k5 < ksize) (e19 : y18 = ktapeF k5) (p25 : r24 = nI 0 ∨ r24 = nI 1) (j50 : x46 = nI 0 ∨ x46 = nI 1) (j51 : k47 ≤ 941) (j52 : k47 ≤ ksize) (j53 : kto ≤ k47) (j54 : k5 ≤ k47) (j55 : (x46 = nI 0 ∨ r24 = nI 1) ∨ (0 ≤ x48.toInt ∧ x48.toInt ≤ 999 ∧ (k5 + 3 ≤ k47 ∨ x48.toInt ≤ 99) ∧ (k5 + 2 ≤ k47 ∨ x48.toInt ≤ 9) ∧ (k5 + 1 ≤ k47 ∨ x48.toInt ≤ 0))) (hm59 : 940 - k47 < n57 + 1) (p61 : (k47 < ksize ∧ r60 = ktapeF k47) ∨ (ksize ≤ k47 ∧ r60 = nI 0)) (t66 : ¬ (97 ≤ r60.toInt ∧ r60.toInt ≤ 122)) (p178 : (k47 < ksize ∧ r177 = ktapeF k47) ∨ (ksize ≤ k47 ∧ r177 = nI 0)) (t181 : 48 ≤ r177.toInt) (t182 : r177.toInt ≤ 57) (e186 : y185 = ktapeF k47) (c187 : x46 = 0) (c191 : 3 ≤ (k47 - k5)) : kto ≤ (k47 + 1) := by
  have b_y18 := ia_b y18
  have b_r24 := ia_b r24
  have b_x46 := ia_b x46
  have b_x48 := ia_b x48
  have b_r60 := ia_b r60
  have b_r177 := ia_b r177
  have b_y185 := ia_b y185
  try have k_0 := ia_n 0 (by first | decide | omega)
  try have k_1 := ia_n 1 (by first | decide | omega)
  try simp only [ia_lt, ia_le, ia_eq, ia_m1, ia_0, ia_1, ne_eq, true_and, and_true, false_and, and_false, or_false, false_or, or_true, true_or, not_true_eq_false, not_false_eq_true] at *
  all_goals omega
set_option maxRecDepth 20000 in
theorem lf_x_goP_96 (ksize : Nat) (kto : Nat) (ktapeF : Nat → Int32) (k5 : Nat) (n10 : Nat) (y18 : Int32) (r24 : Int32) (x46 : Int32) (k47 : Nat) (x48 : Int32) (n57 : Nat) (r60 : Int32) (r177 : Int32) (y185 : Int32) (iv_ko_1 : ksize ≤ 940) (iv_ko_3 : kto ≤ ksize) (j6 : k5 ≤ 940) (j7 : k5 ≤ ksize) (j8 : kto ≤ k5) (hm12 : 940 - k5 < n10 + 1) (c17 : k5 < ksize) (e19 : y18 = ktapeF k5) (p25 : r24 = nI 0 ∨ r24 = nI 1) (j50 : x46 = nI 0 ∨ x46 = nI 1) (j51 : k47 ≤ 941) (j52 : k47 ≤ ksize) (j53 : kto ≤ k47) (j54 : k5 ≤ k47) (j55 : (x46 = nI 0 ∨ r24 = nI 1) ∨ (0 ≤ x48.toInt ∧ x48.toInt ≤ 999 ∧ (k5 + 3 ≤ k47 ∨ x48.toInt ≤ 99) ∧ (k5 + 2 ≤ k47 ∨ x48.toInt ≤ 9) ∧ (k5 + 1 ≤ k47 ∨ x48.toInt ≤ 0))) (hm59 : 940 - k47 < n57 + 1) (p61 : (k47 < ksize ∧ r60 = ktapeF k47) ∨ (ksize ≤ k47 ∧ r60 = nI 0)) (t66 : ¬ (97 ≤ r60.toInt ∧ r60.toInt ≤ 122)) (p178 : (k47 < ksize ∧ r177 = ktapeF k47) ∨ (ksize ≤ k47 ∧ r177 = nI 0)) (t181 : 48 ≤ r177.toInt) (t182 : r177.toInt ≤ 57) (e186 : y185 = ktapeF k47) (c187 : x46 = 0) (c191 : 3 ≤ (k47 - k5)) : k5 ≤ (k47 + 1) := by
  have b_y18 := ia_b y18
  have b_r24 := ia_b r24
  have b_x46 := ia_b x46
  have b_x48 := ia_b x48
  have b_r60 := ia_b r60
  have b_r177 := ia_b r177
  have b_y185 := ia_b y185
  try have k_0 := ia_n 0 (by first | decide | omega)
  try have k_1 := ia_n 1 (by first | decide | omega)
  try simp only [ia_lt, ia_le, ia_eq, ia_m1, ia_0, ia_1, ne_eq, true_and, and_true, false_and, and_false, or_false, false_or, or_true, true_or, not_true_eq_false, not_false_eq_true] at *
  all_goals omega
set_option maxRecDepth 20000 in
theorem lf_x_goP_97 (ksize : Nat) (kto : Nat) (ktapeF : Nat → Int32) (k5 : Nat) (n10 : Nat) (y18 : Int32) (r24 : Int32) (x46 : Int32) (k47 : Nat) (x48 : Int32) (n57 : Nat) (r60 : Int32) (r177 : Int32) (y185 : Int32) (iv_ko_1 : ksize ≤ 940) (iv_ko_3 : kto ≤ ksize) (j6 : k5 ≤ 940) (j7 : k5 ≤ ksize) (j8 : kto ≤ k5) (hm12 : 940 - k5 < n10 + 1) (c17 : k5 < ksize) (e19 : y18 = ktapeF k5) (p25 : r24 = nI 0 ∨ r24 = nI 1) (j50 : x46 = nI 0 ∨ x46 = nI 1) (j51 : k47 ≤ 941) (j52 : k47 ≤ ksize) (j53 : kto ≤ k47) (j54 : k5 ≤ k47) (j55 : (x46 = nI 0 ∨ r24 = nI 1) ∨ (0 ≤ x48.toInt ∧ x48.toInt ≤ 999 ∧ (k5 + 3 ≤ k47 ∨ x48.toInt ≤ 99) ∧ (k5 + 2 ≤ k47 ∨ x48.toInt ≤ 9) ∧ (k5 + 1 ≤ k47 ∨ x48.toInt ≤ 0))) (hm59 : 940 - k47 < n57 + 1) (p61 : (k47 < ksize ∧ r60 = ktapeF k47) ∨ (ksize ≤ k47 ∧ r60 = nI 0)) (t66 : ¬ (97 ≤ r60.toInt ∧ r60.toInt ≤ 122)) (p178 : (k47 < ksize ∧ r177 = ktapeF k47) ∨ (ksize ≤ k47 ∧ r177 = nI 0)) (t181 : 48 ≤ r177.toInt) (t182 : r177.toInt ≤ 57) (e186 : y185 = ktapeF k47) (c187 : x46 = 0) (c191 : 3 ≤ (k47 - k5)) : ((nI 0) = nI 0 ∨ r24 = nI 1) ∨ (0 ≤ x48.toInt ∧ x48.toInt ≤ 999 ∧ (k5 + 3 ≤ (k47 + 1) ∨ x48.toInt ≤ 99) ∧ (k5 + 2 ≤ (k47 + 1) ∨ x48.toInt ≤ 9) ∧ (k5 + 1 ≤ (k47 + 1) ∨ x48.toInt ≤ 0)) := by
  have b_y18 := ia_b y18
  have b_r24 := ia_b r24
  have b_x46 := ia_b x46
  have b_x48 := ia_b x48
  have b_r60 := ia_b r60
  have b_r177 := ia_b r177
  have b_y185 := ia_b y185
  try have k_0 := ia_n 0 (by first | decide | omega)
  try have k_1 := ia_n 1 (by first | decide | omega)
  try simp only [ia_lt, ia_le, ia_eq, ia_m1, ia_0, ia_1, ne_eq, true_and, and_true, false_and, and_false, or_false, false_or, or_true, true_or, not_true_eq_false, not_false_eq_true] at *
  all_goals omega
set_option maxRecDepth 20000 in
theorem lf_x_goP_98 (ksize : Nat) (kto : Nat) (ktapeF : Nat → Int32) (k5 : Nat) (n10 : Nat) (y18 : Int32) (r24 : Int32) (x46 : Int32) (k47 : Nat) (x48 : Int32) (n57 : Nat) (r60 : Int32) (r177 : Int32) (y185 : Int32) (iv_ko_1 : ksize ≤ 940) (iv_ko_3 : kto ≤ ksize) (j6 : k5 ≤ 940) (j7 : k5 ≤ ksize) (j8 : kto ≤ k5) (hm12 : 940 - k5 < n10 + 1) (c17 : k5 < ksize) (e19 : y18 = ktapeF k5) (p25 : r24 = nI 0 ∨ r24 = nI 1) (j50 : x46 = nI 0 ∨ x46 = nI 1) (j51 : k47 ≤ 941) (j52 : k47 ≤ ksize) (j53 : kto ≤ k47) (j54 : k5 ≤ k47) (j55 : (x46 = nI 0 ∨ r24 = nI 1) ∨ (0 ≤ x48.toInt ∧ x48.toInt ≤ 999 ∧ (k5 + 3 ≤ k47 ∨ x48.toInt ≤ 99) ∧ (k5 + 2 ≤ k47 ∨ x48.toInt ≤ 9) ∧ (k5 + 1 ≤ k47 ∨ x48.toInt ≤ 0))) (hm59 : 940 - k47 < n57 + 1) (p61 : (k47 < ksize ∧ r60 = ktapeF k47) ∨ (ksize ≤ k47 ∧ r60 = nI 0)) (t66 : ¬ (97 ≤ r60.toInt ∧ r60.toInt ≤ 122)) (p178 : (k47 < ksize ∧ r177 = ktapeF k47) ∨ (ksize ≤ k47 ∧ r177 = nI 0)) (t181 : 48 ≤ r177.toInt) (t182 : r177.toInt ≤ 57) (e186 : y185 = ktapeF k47) (c187 : x46 = 0) (c191 : 3 ≤ (k47 - k5)) : 940 - (k47 + 1) < n57 := by
  have b_y18 := ia_b y18
  have b_r24 := ia_b r24
  have b_x46 := ia_b x46
  have b_x48 := ia_b x48
  have b_r60 := ia_b r60
  have b_r177 := ia_b r177
  have b_y185 := ia_b y185
  try have k_0 := ia_n 0 (by first | decide | omega)
  try have k_1 := ia_n 1 (by first | decide | omega)
  try simp only [ia_lt, ia_le, ia_eq, ia_m1, ia_0, ia_1, ne_eq, true_and, and_true, false_and, and_false, or_false, false_or, or_true, true_or, not_true_eq_false, not_false_eq_true] at *
  all_goals omega
set_option maxRecDepth 20000 in
theorem lf_x_goP_99   : (nI 0) = nI 0 ∨ (nI 0) = nI 1 := by
  try have k_0 := ia_n 0 (by first | decide | omega)
  try have k_1 := ia_n 1 (by first | decide | omega)
  try simp only [ia_lt, ia_le, ia_eq, ia_m1, ia_0, ia_1, ne_eq, true_and, and_true, false_and, and_false, or_false, false_or, or_true, true_or, not_true_eq_false, not_false_eq_true] at *
  all_goals omega
set_option maxRecDepth 20000 in
theorem lf_x_goP_100 (ksize : Nat) (kto : Nat) (ktapeF : Nat → Int32) (k5 : Nat) (n10 : Nat) (y18 : Int32) (r24 : Int32) (x46 : Int32) (k47 : Nat) (x48 : Int32) (n57 : Nat) (r60 : Int32) (r177 : Int32) (y185 : Int32) (y192 : Int32) (y194 : Int32) (y196 : Int32) (iv_ko_1 : ksize ≤ 940) (iv_ko_3 : kto ≤ ksize) (j6 : k5 ≤ 940) (j7 : k5 ≤ ksize) (j8 : kto ≤ k5) (hm12 : 940 - k5 < n10 + 1) (c17 : k5 < ksize) (e19 : y18 = ktapeF k5) (p25 : r24 = nI 0 ∨ r24 = nI 1) (j50 : x46 = nI 0 ∨ x46 = nI 1) (j51 : k47 ≤ 941) (j52 : k47 ≤ ksize) (j53 : kto ≤ k47) (j54 : k5 ≤ k47) (j55 : (x46 = nI 0 ∨ r24 = nI 1) ∨ (0 ≤ x48.toInt ∧ x48.toInt ≤ 999 ∧ (k5 + 3 ≤ k47 ∨ x48.toInt ≤ 99) ∧ (k5 + 2 ≤ k47 ∨ x48.toInt ≤ 9) ∧ (k5 + 1 ≤ k47 ∨ x48.toInt ≤ 0))) (hm59 : 940 - k47 < n57 + 1) (p61 : (k47 < ksize ∧ r60 = ktapeF k47) ∨ (ksize ≤ k47 ∧ r60 = nI 0)) (t66 : ¬ (97 ≤ r60.toInt ∧ r60.toInt ≤ 122)) (p178 : (k47 < ksize ∧ r177 = ktapeF k47) ∨ (ksize ≤ k47 ∧ r177 = nI 0)) (t181 : 48 ≤ r177.toInt) (t182 : r177.toInt ≤ 57) (e186 : y185 = ktapeF k47) (c187 : x46 = 0) (c191 : (k47 - k5) < 3) (e193 : y192 = (nI 10) * x48) (e195 : y194 = y192 + y185) (e197 : y196 = y194 - (nI 48)) : (k47 + 1) ≤ 941 := by
  have b_y18 := ia_b y18
  have b_r24 := ia_b r24
  have b_x46 := ia_b x46
  have b_x48 := ia_b x48
  have b_r60 := ia_b r60
  have b_r177 := ia_b r177
  have b_y185 := ia_b y185
  have b_y192 := ia_b y192
  have b_y194 := ia_b y194
  have b_y196 := ia_b y196
  try have k_0 := ia_n 0 (by first | decide | omega)
  try have k_1 := ia_n 1 (by first | decide | omega)
  try have k_2 := ia_n 10 (by first | decide | omega)
  try have k_3 := ia_n 48 (by first | decide | omega)
  try simp only [ia_lt, ia_le, ia_eq, ia_m1, ia_0, ia_1, ne_eq, true_and, and_true, false_and, and_false, or_false, false_or, or_true, true_or, not_true_eq_false, not_false_eq_true] at *
  all_goals omega
set_option maxRecDepth 20000 in
theorem lf_x_goP_101 (ksize : Nat) (kto : Nat) (ktapeF : Nat → Int32) (k5 : Nat) (n10 : Nat) (y18 : Int32) (r24 : Int32) (x46 : Int32) (k47 : Nat) (x48 : Int32) (n57 : Nat) (r60 : Int32) (r177 : Int32) (y185 : Int32) (y192 : Int32) (y194 : Int32) (y196 : Int32) (iv_ko_1 : ksize ≤ 940) (iv_ko_3 : kto ≤ ksize) (j6 : k5 ≤ 940) (j7 : k5 ≤ ksize) (j8 : kto ≤ k5) (hm12 : 940 - k5 < n10 + 1) (c17 : k5 < ksize) (e19 : y18 = ktapeF k5) (p25 : r24 = nI 0 ∨ r24 = nI 1) (j50 : x46 = nI 0 ∨ x46 = nI 1) (j51 : k47 ≤ 941) (j52 : k47 ≤ ksize) (j53 : kto ≤ k47) (j54 : k5 ≤ k47) (j55 : (x46 = nI 0 ∨ r24 = nI 1) ∨ (0 ≤ x48.toInt ∧ x48.toInt ≤ 999 ∧ (k5 + 3 ≤ k47 ∨ x48.toInt ≤ 99) ∧ (k5 + 2 ≤ k47 ∨ x48.toInt ≤ 9) ∧ (k5 + 1 ≤ k47 ∨ x48.toInt ≤ 0))) (hm59 : 940 - k47 < n57 + 1) (p61 : (k47 < ksize ∧ r60 = ktapeF k47) ∨ (ksize ≤ k47 ∧ r60 = nI 0)) (t66 : ¬ (97 ≤ r60.toInt ∧ r60.toInt ≤ 122)) (p178 : (k47 < ksize ∧ r177 = ktapeF k47) ∨ (ksize ≤ k47 ∧ r177 = nI 0)) (t181 : 48 ≤ r177.toInt) (t182 : r177.toInt ≤ 57) (e186 : y185 = ktapeF k47) (c187 : x46 = 0) (c191 : (k47 - k5) < 3) (e193 : y192 = (nI 10) * x48) (e195 : y194 = y192 + y185) (e197 : y196 = y194 - (nI 48)) : (k47 + 1) ≤ ksize := by
  have b_y18 := ia_b y18
  have b_r24 := ia_b r24
  have b_x46 := ia_b x46
  have b_x48 := ia_b x48
  have b_r60 := ia_b r60
  have b_r177 := ia_b r177
  have b_y185 := ia_b y185
  have b_y192 := ia_b y192
  have b_y194 := ia_b y194
  have b_y196 := ia_b y196
  try have k_0 := ia_n 0 (by first | decide | omega)
  try have k_1 := ia_n 1 (by first | decide | omega)
  try have k_2 := ia_n 10 (by first | decide | omega)
  try have k_3 := ia_n 48 (by first | decide | omega)
  try simp only [ia_lt, ia_le, ia_eq, ia_m1, ia_0, ia_1, ne_eq, true_and, and_true, false_and, and_false, or_false, false_or, or_true, true_or, not_true_eq_false, not_false_eq_true] at *
  all_goals omega
set_option maxRecDepth 20000 in
theorem lf_x_goP_102 (ksize : Nat) (kto : Nat) (ktapeF : Nat → Int32) (k5 : Nat) (n10 : Nat) (y18 : Int32) (r24 : Int32) (x46 : Int32) (k47 : Nat) (x48 : Int32) (n57 : Nat) (r60 : Int32) (r177 : Int32) (y185 : Int32) (y192 : Int32) (y194 : Int32) (y196 : Int32) (iv_ko_1 : ksize ≤ 940) (iv_ko_3 : kto ≤ ksize) (j6 : k5 ≤ 940) (j7 : k5 ≤ ksize) (j8 : kto ≤ k5) (hm12 : 940 - k5 < n10 + 1) (c17 : k5 < ksize) (e19 : y18 = ktapeF k5) (p25 : r24 = nI 0 ∨ r24 = nI 1) (j50 : x46 = nI 0 ∨ x46 = nI 1) (j51 : k47 ≤ 941) (j52 : k47 ≤ ksize) (j53 : kto ≤ k47) (j54 : k5 ≤ k47) (j55 : (x46 = nI 0 ∨ r24 = nI 1) ∨ (0 ≤ x48.toInt ∧ x48.toInt ≤ 999 ∧ (k5 + 3 ≤ k47 ∨ x48.toInt ≤ 99) ∧ (k5 + 2 ≤ k47 ∨ x48.toInt ≤ 9) ∧ (k5 + 1 ≤ k47 ∨ x48.toInt ≤ 0))) (hm59 : 940 - k47 < n57 + 1) (p61 : (k47 < ksize ∧ r60 = ktapeF k47) ∨ (ksize ≤ k47 ∧ r60 = nI 0)) (t66 : ¬ (97 ≤ r60.toInt ∧ r60.toInt ≤ 122)) (p178 : (k47 < ksize ∧ r177 = ktapeF k47) ∨ (ksize ≤ k47 ∧ r177 = nI 0)) (t181 : 48 ≤ r177.toInt) (t182 : r177.toInt ≤ 57) (e186 : y185 = ktapeF k47) (c187 : x46 = 0) (c191 : (k47 - k5) < 3) (e193 : y192 = (nI 10) * x48) (e195 : y194 = y192 + y185) (e197 : y196 = y194 - (nI 48)) : kto ≤ (k47 + 1) := by
  have b_y18 := ia_b y18
  have b_r24 := ia_b r24
  have b_x46 := ia_b x46
  have b_x48 := ia_b x48
  have b_r60 := ia_b r60
  have b_r177 := ia_b r177
  have b_y185 := ia_b y185
  have b_y192 := ia_b y192
  have b_y194 := ia_b y194
  have b_y196 := ia_b y196
  try have k_0 := ia_n 0 (by first | decide | omega)
  try have k_1 := ia_n 1 (by first | decide | omega)
  try have k_2 := ia_n 10 (by first | decide | omega)
  try have k_3 := ia_n 48 (by first | decide | omega)
  try simp only [ia_lt, ia_le, ia_eq, ia_m1, ia_0, ia_1, ne_eq, true_and, and_true, false_and, and_false, or_false, false_or, or_true, true_or, not_true_eq_false, not_false_eq_true] at *
  all_goals omega
set_option maxRecDepth 20000 in
theorem lf_x_goP_103 (ksize : Nat) (kto : Nat) (ktapeF : Nat → Int32) (k5 : Nat) (n10 : Nat) (y18 : Int32) (r24 : Int32) (x46 : Int32) (k47 : Nat) (x48 : Int32) (n57 : Nat) (r60 : Int32) (r177 : Int32) (y185 : Int32) (y192 : Int32) (y194 : Int32) (y196 : Int32) (iv_ko_1 : ksize ≤ 940) (iv_ko_3 : kto ≤ ksize) (j6 : k5 ≤ 940) (j7 : k5 ≤ ksize) (j8 : kto ≤ k5) (hm12 : 940 - k5 < n10 + 1) (c17 : k5 < ksize) (e19 : y18 = ktapeF k5) (p25 : r24 = nI 0 ∨ r24 = nI 1) (j50 : x46 = nI 0 ∨ x46 = nI 1) (j51 : k47 ≤ 941) (j52 : k47 ≤ ksize) (j53 : kto ≤ k47) (j54 : k5 ≤ k47) (j55 : (x46 = nI 0 ∨ r24 = nI 1) ∨ (0 ≤ x48.toInt ∧ x48.toInt ≤ 999 ∧ (k5 + 3 ≤ k47 ∨ x48.toInt ≤ 99) ∧ (k5 + 2 ≤ k47 ∨ x48.toInt ≤ 9) ∧ (k5 + 1 ≤ k47 ∨ x48.toInt ≤ 0))) (hm59 : 940 - k47 < n57 + 1) (p61 : (k47 < ksize ∧ r60 = ktapeF k47) ∨ (ksize ≤ k47 ∧ r60 = nI 0)) (t66 : ¬ (97 ≤ r60.toInt ∧ r60.toInt ≤ 122)) (p178 : (k47 < ksize ∧ r177 = ktapeF k47) ∨ (ksize ≤ k47 ∧ r177 = nI 0)) (t181 : 48 ≤ r177.toInt) (t182 : r177.toInt ≤ 57) (e186 : y185 = ktapeF k47) (c187 : x46 = 0) (c191 : (k47 - k5) < 3) (e193 : y192 = (nI 10) * x48) (e195 : y194 = y192 + y185) (e197 : y196 = y194 - (nI 48)) : k5 ≤ (k47 + 1) := by
  have b_y18 := ia_b y18
  have b_r24 := ia_b r24
  have b_x46 := ia_b x46
  have b_x48 := ia_b x48
  have b_r60 := ia_b r60
  have b_r177 := ia_b r177
  have b_y185 := ia_b y185
  have b_y192 := ia_b y192
  have b_y194 := ia_b y194
  have b_y196 := ia_b y196
  try have k_0 := ia_n 0 (by first | decide | omega)
  try have k_1 := ia_n 1 (by first | decide | omega)
  try have k_2 := ia_n 10 (by first | decide | omega)
  try have k_3 := ia_n 48 (by first | decide | omega)
  try simp only [ia_lt, ia_le, ia_eq, ia_m1, ia_0, ia_1, ne_eq, true_and, and_true, false_and, and_false, or_false, false_or, or_true, true_or, not_true_eq_false, not_false_eq_true] at *
  all_goals omega
set_option maxRecDepth 20000 in
theorem lf_x_goP_104 (ksize : Nat) (kto : Nat) (ktapeF : Nat → Int32) (k5 : Nat) (n10 : Nat) (y18 : Int32) (r24 : Int32) (x46 : Int32) (k47 : Nat) (x48 : Int32) (n57 : Nat) (r60 : Int32) (r177 : Int32) (y185 : Int32) (y192 : Int32) (y194 : Int32) (y196 : Int32) (iv_ko_1 : ksize ≤ 940) (iv_ko_3 : kto ≤ ksize) (j6 : k5 ≤ 940) (j7 : k5 ≤ ksize) (j8 : kto ≤ k5) (hm12 : 940 - k5 < n10 + 1) (c17 : k5 < ksize) (e19 : y18 = ktapeF k5) (p25 : r24 = nI 0 ∨ r24 = nI 1) (j50 : x46 = nI 0 ∨ x46 = nI 1) (j51 : k47 ≤ 941) (j52 : k47 ≤ ksize) (j53 : kto ≤ k47) (j54 : k5 ≤ k47) (j55 : (x46 = nI 0 ∨ r24 = nI 1) ∨ (0 ≤ x48.toInt ∧ x48.toInt ≤ 999 ∧ (k5 + 3 ≤ k47 ∨ x48.toInt ≤ 99) ∧ (k5 + 2 ≤ k47 ∨ x48.toInt ≤ 9) ∧ (k5 + 1 ≤ k47 ∨ x48.toInt ≤ 0))) (hm59 : 940 - k47 < n57 + 1) (p61 : (k47 < ksize ∧ r60 = ktapeF k47) ∨ (ksize ≤ k47 ∧ r60 = nI 0)) (t66 : ¬ (97 ≤ r60.toInt ∧ r60.toInt ≤ 122)) (p178 : (k47 < ksize ∧ r177 = ktapeF k47) ∨ (ksize ≤ k47 ∧ r177 = nI 0)) (t181 : 48 ≤ r177.toInt) (t182 : r177.toInt ≤ 57) (e186 : y185 = ktapeF k47) (c187 : x46 = 0) (c191 : (k47 - k5) < 3) (e193 : y192 = (nI 10) * x48) (e195 : y194 = y192 + y185) (e197 : y196 = y194 - (nI 48)) : ((nI 0) = nI 0 ∨ r24 = nI 1) ∨ (0 ≤ y196.toInt ∧ y196.toInt ≤ 999 ∧ (k5 + 3 ≤ (k47 + 1) ∨ y196.toInt ≤ 99) ∧ (k5 + 2 ≤ (k47 + 1) ∨ y196.toInt ≤ 9) ∧ (k5 + 1 ≤ (k47 + 1) ∨ y196.toInt ≤ 0)) := by
  have b_y18 := ia_b y18
  have b_r24 := ia_b r24
  have b_x46 := ia_b x46
  have b_x48 := ia_b x48
  have b_r60 := ia_b r60
  have b_r177 := ia_b r177
  have b_y185 := ia_b y185
  have b_y192 := ia_b y192
  have b_y194 := ia_b y194
  have b_y196 := ia_b y196
  try have k_0 := ia_n 0 (by first | decide | omega)
  try have k_1 := ia_n 1 (by first | decide | omega)
  try have k_2 := ia_n 10 (by first | decide | omega)
  try have k_3 := ia_n 48 (by first | decide | omega)
  have h9 := ten_step x48 y185
  rw [← e193, ← e195, ← e197] at h9
  clear e197 e195 e193
  try simp only [ia_lt, ia_le, ia_eq, ia_m1, ia_0, ia_1, ne_eq, true_and, and_true, false_and, and_false, or_false, false_or, or_true, true_or, not_true_eq_false, not_false_eq_true] at *
  all_goals omega
set_option maxRecDepth 20000 in
theorem lf_x_goP_105 (ksize : Nat) (kto : Nat) (ktapeF : Nat → Int32) (k5 : Nat) (n10 : Nat) (y18 : Int32) (r24 : Int32) (x46 : Int32) (k47 : Nat) (x48 : Int32) (n57 : Nat) (r60 : Int32) (r177 : Int32) (y185 : Int32) (y192 : Int32) (y194 : Int32) (y196 : Int32) (iv_ko_1 : ksize ≤ 940) (iv_ko_3 : kto ≤ ksize) (j6 : k5 ≤ 940) (j7 : k5 ≤ ksize) (j8 : kto ≤ k5) (hm12 : 940 - k5 < n10 + 1) (c17 : k5 < ksize) (e19 : y18 = ktapeF k5) (p25 : r24 = nI 0 ∨ r24 = nI 1) (j50 : x46 = nI 0 ∨ x46 = nI 1) (j51 : k47 ≤ 941) (j52 : k47 ≤ ksize) (j53 : kto ≤ k47) (j54 : k5 ≤ k47) (j55 : (x46 = nI 0 ∨ r24 = nI 1) ∨ (0 ≤ x48.toInt ∧ x48.toInt ≤ 999 ∧ (k5 + 3 ≤ k47 ∨ x48.toInt ≤ 99) ∧ (k5 + 2 ≤ k47 ∨ x48.toInt ≤ 9) ∧ (k5 + 1 ≤ k47 ∨ x48.toInt ≤ 0))) (hm59 : 940 - k47 < n57 + 1) (p61 : (k47 < ksize ∧ r60 = ktapeF k47) ∨ (ksize ≤ k47 ∧ r60 = nI 0)) (t66 : ¬ (97 ≤ r60.toInt ∧ r60.toInt ≤ 122)) (p178 : (k47 < ksize ∧ r177 = ktapeF k47) ∨ (ksize ≤ k47 ∧ r177 = nI 0)) (t181 : 48 ≤ r177.toInt) (t182 : r177.toInt ≤ 57) (e186 : y185 = ktapeF k47) (c187 : x46 = 0) (c191 : (k47 - k5) < 3) (e193 : y192 = (nI 10) * x48) (e195 : y194 = y192 + y185) (e197 : y196 = y194 - (nI 48)) : 940 - (k47 + 1) < n57 := by
  have b_y18 := ia_b y18
  have b_r24 := ia_b r24
  have b_x46 := ia_b x46
  have b_x48 := ia_b x48
  have b_r60 := ia_b r60
  have b_r177 := ia_b r177
  have b_y185 := ia_b y185
  have b_y192 := ia_b y192
  have b_y194 := ia_b y194
  have b_y196 := ia_b y196
  try have k_0 := ia_n 0 (by first | decide | omega)
  try have k_1 := ia_n 1 (by first | decide | omega)
  try have k_2 := ia_n 10 (by first | decide | omega)
  try have k_3 := ia_n 48 (by first | decide | omega)
  try simp only [ia_lt, ia_le, ia_eq, ia_m1, ia_0, ia_1, ne_eq, true_and, and_true, false_and, and_false, or_false, false_or, or_true, true_or, not_true_eq_false, not_false_eq_true] at *
  all_goals omega
set_option maxRecDepth 20000 in
theorem lf_x_goP_106 (ksize : Nat) (kto : Nat) (ktapeF : Nat → Int32) (k5 : Nat) (n10 : Nat) (y18 : Int32) (r24 : Int32) (x46 : Int32) (k47 : Nat) (x48 : Int32) (n57 : Nat) (r60 : Int32) (r177 : Int32) (y185 : Int32) (iv_ko_1 : ksize ≤ 940) (iv_ko_3 : kto ≤ ksize) (j6 : k5 ≤ 940) (j7 : k5 ≤ ksize) (j8 : kto ≤ k5) (hm12 : 940 - k5 < n10 + 1) (c17 : k5 < ksize) (e19 : y18 = ktapeF k5) (p25 : r24 = nI 0 ∨ r24 = nI 1) (j50 : x46 = nI 0 ∨ x46 = nI 1) (j51 : k47 ≤ 941) (j52 : k47 ≤ ksize) (j53 : kto ≤ k47) (j54 : k5 ≤ k47) (j55 : (x46 = nI 0 ∨ r24 = nI 1) ∨ (0 ≤ x48.toInt ∧ x48.toInt ≤ 999 ∧ (k5 + 3 ≤ k47 ∨ x48.toInt ≤ 99) ∧ (k5 + 2 ≤ k47 ∨ x48.toInt ≤ 9) ∧ (k5 + 1 ≤ k47 ∨ x48.toInt ≤ 0))) (hm59 : 940 - k47 < n57 + 1) (p61 : (k47 < ksize ∧ r60 = ktapeF k47) ∨ (ksize ≤ k47 ∧ r60 = nI 0)) (t66 : ¬ (97 ≤ r60.toInt ∧ r60.toInt ≤ 122)) (p178 : (k47 < ksize ∧ r177 = ktapeF k47) ∨ (ksize ≤ k47 ∧ r177 = nI 0)) (t181 : 48 ≤ r177.toInt) (t182 : r177.toInt ≤ 57) (e186 : y185 = ktapeF k47) (c187 : ¬ x46 = 0) (t208 : 97 ≤ y185.toInt) (t209 : y185.toInt ≤ 122) (c211 : nI 1 ≠ r24) : k5 ≤ k47 := by
  have b_y18 := ia_b y18
  have b_r24 := ia_b r24
  have b_x46 := ia_b x46
  have b_x48 := ia_b x48
  have b_r60 := ia_b r60
  have b_r177 := ia_b r177
  have b_y185 := ia_b y185
  try have k_0 := ia_n 0 (by first | decide | omega)
  try have k_1 := ia_n 1 (by first | decide | omega)
  try simp only [ia_lt, ia_le, ia_eq, ia_m1, ia_0, ia_1, ne_eq, true_and, and_true, false_and, and_false, or_false, false_or, or_true, true_or, not_true_eq_false, not_false_eq_true] at *
  all_goals omega
set_option maxRecDepth 20000 in
theorem lf_x_goP_107 (ksize : Nat) (kto : Nat) (ktapeF : Nat → Int32) (k5 : Nat) (n10 : Nat) (y18 : Int32) (r24 : Int32) (x46 : Int32) (k47 : Nat) (x48 : Int32) (n57 : Nat) (r60 : Int32) (r177 : Int32) (y185 : Int32) (iv_ko_1 : ksize ≤ 940) (iv_ko_3 : kto ≤ ksize) (j6 : k5 ≤ 940) (j7 : k5 ≤ ksize) (j8 : kto ≤ k5) (hm12 : 940 - k5 < n10 + 1) (c17 : k5 < ksize) (e19 : y18 = ktapeF k5) (p25 : r24 = nI 0 ∨ r24 = nI 1) (j50 : x46 = nI 0 ∨ x46 = nI 1) (j51 : k47 ≤ 941) (j52 : k47 ≤ ksize) (j53 : kto ≤ k47) (j54 : k5 ≤ k47) (j55 : (x46 = nI 0 ∨ r24 = nI 1) ∨ (0 ≤ x48.toInt ∧ x48.toInt ≤ 999 ∧ (k5 + 3 ≤ k47 ∨ x48.toInt ≤ 99) ∧ (k5 + 2 ≤ k47 ∨ x48.toInt ≤ 9) ∧ (k5 + 1 ≤ k47 ∨ x48.toInt ≤ 0))) (hm59 : 940 - k47 < n57 + 1) (p61 : (k47 < ksize ∧ r60 = ktapeF k47) ∨ (ksize ≤ k47 ∧ r60 = nI 0)) (t66 : ¬ (97 ≤ r60.toInt ∧ r60.toInt ≤ 122)) (p178 : (k47 < ksize ∧ r177 = ktapeF k47) ∨ (ksize ≤ k47 ∧ r177 = nI 0)) (t181 : 48 ≤ r177.toInt) (t182 : r177.toInt ≤ 57) (e186 : y185 = ktapeF k47) (c187 : ¬ x46 = 0) (t208 : 97 ≤ y185.toInt) (t209 : y185.toInt ≤ 122) (c211 : nI 1 ≠ r24) : k5 ≤ k47 := by
  have b_y18 := ia_b y18
  have b_r24 := ia_b r24
  have b_x46 := ia_b x46
  have b_x48 := ia_b x48
  have b_r60 := ia_b r60
  have b_r177 := ia_b r177
  have b_y185 := ia_b y185
  try have k_0 := ia_n 0 (by first | decide | omega)
  try have k_1 := ia_n 1 (by first | decide | omega)
  try simp only [ia_lt, ia_le, ia_eq, ia_m1, ia_0, ia_1, ne_eq, true_and, and_true, false_and, and_false, or_false, false_or, or_true, true_or, not_true_eq_false, not_false_eq_true] at *
  all_goals omega
set_option maxRecDepth 20000 in
theorem lf_x_goP_108   : (nI 0) = nI 0 ∨ (nI 0) = nI 1 := by
  try have k_0 := ia_n 0 (by first | decide | omega)
  try have k_1 := ia_n 1 (by first | decide | omega)
  try simp only [ia_lt, ia_le, ia_eq, ia_m1, ia_0, ia_1, ne_eq, true_and, and_true, false_and, and_false, or_false, false_or, or_true, true_or, not_true_eq_false, not_false_eq_true] at *
  all_goals omega
set_option maxRecDepth 20000 in
theorem lf_x_goP_109 (ksize : Nat) (kto : Nat) (ktapeF : Nat → Int32) (k5 : Nat) (n10 : Nat) (y18 : Int32) (r24 : Int32) (x46 : Int32) (k47 : Nat) (x48 : Int32) (n57 : Nat) (r60 : Int32) (r177 : Int32) (y185 : Int32) (iv_ko_1 : ksize ≤ 940) (iv_ko_3 : kto ≤ ksize) (j6 : k5 ≤ 940) (j7 : k5 ≤ ksize) (j8 : kto ≤ k5) (hm12 : 940 - k5 < n10 + 1) (c17 : k5 < ksize) (e19 : y18 = ktapeF k5) (p25 : r24 = nI 0 ∨ r24 = nI 1) (j50 : x46 = nI 0 ∨ x46 = nI 1) (j51 : k47 ≤ 941) (j52 : k47 ≤ ksize) (j53 : kto ≤ k47) (j54 : k5 ≤ k47) (j55 : (x46 = nI 0 ∨ r24 = nI 1) ∨ (0 ≤ x48.toInt ∧ x48.toInt ≤ 999 ∧ (k5 + 3 ≤ k47 ∨ x48.toInt ≤ 99) ∧ (k5 + 2 ≤ k47 ∨ x48.toInt ≤ 9) ∧ (k5 + 1 ≤ k47 ∨ x48.toInt ≤ 0))) (hm59 : 940 - k47 < n57 + 1) (p61 : (k47 < ksize ∧ r60 = ktapeF k47) ∨ (ksize ≤ k47 ∧ r60 = nI 0)) (t66 : ¬ (97 ≤ r60.toInt ∧ r60.toInt ≤ 122)) (p178 : (k47 < ksize ∧ r177 = ktapeF k47) ∨ (ksize ≤ k47 ∧ r177 = nI 0)) (t181 : 48 ≤ r177.toInt) (t182 : r177.toInt ≤ 57) (e186 : y185 = ktapeF k47) (c187 : ¬ x46 = 0) (t208 : 97 ≤ y185.toInt) (t209 : y185.toInt ≤ 122) (c211 : nI 1 ≠ r24) (c215 : 3 ≤ (k47 - k5)) : (k47 + 1) ≤ 941 := by
  have b_y18 := ia_b y18
  have b_r24 := ia_b r24
  have b_x46 := ia_b x46
  have b_x48 := ia_b x48
  have b_r60 := ia_b r60
  have b_r177 := ia_b r177
  have b_y185 := ia_b y185
  try have k_0 := ia_n 0 (by first | decide | omega)
  try have k_1 := ia_n 1 (by first | decide | omega)
  try simp only [ia_lt, ia_le, ia_eq, ia_m1, ia_0, ia_1, ne_eq, true_and, and_true, false_and, and_false, or_false, false_or, or_true, true_or, not_true_eq_false, not_false_eq_true] at *
  all_goals omega
set_option maxRecDepth 20000 in
theorem lf_x_goP_110 (ksize : Nat) (kto : Nat) (ktapeF : Nat → Int32) (k5 : Nat) (n10 : Nat) (y18 : Int32) (r24 : Int32) (x46 : Int32) (k47 : Nat) (x48 : Int32) (n57 : Nat) (r60 : Int32) (r177 : Int32) (y185 : Int32) (iv_ko_1 : ksize ≤ 940) (iv_ko_3 : kto ≤ ksize) (j6 : k5 ≤ 940) (j7 : k5 ≤ ksize) (j8 : kto ≤ k5) (hm12 : 940 - k5 < n10 + 1) (c17 : k5 < ksize) (e19 : y18 = ktapeF k5) (p25 : r24 = nI 0 ∨ r24 = nI 1) (j50 : x46 = nI 0 ∨ x46 = nI 1) (j51 : k47 ≤ 941) (j52 : k47 ≤ ksize) (j53 : kto ≤ k47) (j54 : k5 ≤ k47) (j55 : (x46 = nI 0 ∨ r24 = nI 1) ∨ (0 ≤ x48.toInt ∧ x48.toInt ≤ 999 ∧ (k5 + 3 ≤ k47 ∨ x48.toInt ≤ 99) ∧ (k5 + 2 ≤ k47 ∨ x48.toInt ≤ 9) ∧ (k5 + 1 ≤ k47 ∨ x48.toInt ≤ 0))) (hm59 : 940 - k47 < n57 + 1) (p61 : (k47 < ksize ∧ r60 = ktapeF k47) ∨ (ksize ≤ k47 ∧ r60 = nI 0)) (t66 : ¬ (97 ≤ r60.toInt ∧ r60.toInt ≤ 122)) (p178 : (k47 < ksize ∧ r177 = ktapeF k47) ∨ (ksize ≤ k47 ∧ r177 = nI 0)) (t181 : 48 ≤ r177.toInt) (t182 : r177.toInt ≤ 57) (e186 : y185 = ktapeF k47) (c187 : ¬ x46 = 0) (t208 : 97 ≤ y185.toInt) (t209 : y185.toInt ≤ 122) (c211 : nI 1 ≠ r24) (c215 : 3 ≤ (k47 - k5)) : (k47 + 1) ≤ ksize := by
  have b_y18 := ia_b y18
  have b_r24 := ia_b r24
  have b_x46 := ia_b x46
  have b_x48 := ia_b x48
  have b_r60 := ia_b r60
  have b_r177 := ia_b r177
  have b_y185 := ia_b y185
  try have k_0 := ia_n 0 (by first | decide | omega)
  try have k_1 := ia_n 1 (by first | decide | omega)
  try simp only [ia_lt, ia_le, ia_eq, ia_m1, ia_0, ia_1, ne_eq, true_and, and_true, false_and, and_false, or_false, false_or, or_true, true_or, not_true_eq_false, not_false_eq_true] at *
  all_goals omega
set_option maxRecDepth 20000 in
theorem lf_x_goP_111 (ksize : Nat) (kto : Nat) (ktapeF : Nat → Int32) (k5 : Nat) (n10 : Nat) (y18 : Int32) (r24 : Int32) (x46 : Int32) (k47 : Nat) (x48 : Int32) (n57 : Nat) (r60 : Int32) (r177 : Int32) (y185 : Int32) (iv_ko_1 : ksize ≤ 940) (iv_ko_3 : kto ≤ ksize) (j6 : k5 ≤ 940) (j7 : k5 ≤ ksize) (j8 : kto ≤ k5) (hm12 : 940 - k5 < n10 + 1) (c17 : k5 < ksize) (e19 : y18 = ktapeF k5) (p25 : r24 = nI 0 ∨ r24 = nI 1) (j50 : x46 = nI 0 ∨ x46 = nI 1) (j51 : k47 ≤ 941) (j52 : k47 ≤ ksize) (j53 : kto ≤ k47) (j54 : k5 ≤ k47) (j55 : (x46 = nI 0 ∨ r24 = nI 1) ∨ (0 ≤ x48.toInt ∧ x48.toInt ≤ 999 ∧ (k5 + 3 ≤ k47 ∨ x48.toInt ≤ 99) ∧ (k5 + 2 ≤ k47 ∨ x48.toInt ≤ 9) ∧ (k5 + 1 ≤ k47 ∨ x48.toInt ≤ 0))) (hm59 : 940 - k47 < n57 + 1) (p61 : (k47 < ksize ∧ r60 = ktapeF k47) ∨ (ksize ≤ k47 ∧ r60 = nI 0)) (t66 : ¬ (97 ≤ r60.toInt ∧ r60.toInt ≤ 122)) (p178 : (k47 < ksize ∧ r177 = ktapeF k47) ∨ (ksize ≤ k47 ∧ r177 = nI 0)) (t181 : 48 ≤ r177.toInt) (t182 : r177.toInt ≤ 57) (e186 : y185 = ktapeF k47) (c187 : ¬ x46 = 0) (t208 : 97 ≤ y185.toInt) (t209 : y185.toInt ≤ 122) (c211 : nI 1 ≠ r24) (c215 : 3 ≤ (k47 - k5)) : kto ≤ (k47 + 1) := by
  have b_y18 := ia_b y18
  have b_r24 := ia_b r24
  have b_x46 := ia_b x46
  have b_x48 := ia_b x48
  have b_r60 := ia_b r60
  have b_r177 := ia_b r177
  have b_y185 := ia_b y185
  try have k_0 := ia_n 0 (by first | decide | omega)
  try have k_1 := ia_n 1 (by first | decide | omega)
  try simp only [ia_lt, ia_le, ia_eq, ia_m1, ia_0, ia_1, ne_eq, true_and, and_true, false_and, and_false, or_false, false_or, or_true, true_or, not_true_eq_false, not_false_eq_true] at *
  all_goals omega
set_option maxRecDepth 20000 in
theorem lf_x_goP_112 (ksize : Nat) (kto : Nat) (ktapeF : Nat → Int32) (k5 : Nat) (n10 : Nat) (y18 : Int32) (r24 : Int32) (x46 : Int32) (k47 : Nat) (x48 : Int32) (n57 : Nat) (r60 : Int32) (r177 : Int32) (y185 : Int32) (iv_ko_1 : ksize ≤ 940) (iv_ko_3 : kto ≤ ksize) (j6 : k5 ≤ 940) (j7 : k5 ≤ ksize) (j8 : kto ≤ k5) (hm12 : 940 - k5 < n10 + 1) (c17 : k5 < ksize) (e19 : y18 = ktapeF k5) (p25 : r24 = nI 0 ∨ r24 = nI 1) (j50 : x46 = nI 0 ∨ x46 = nI 1) (j51 : k47 ≤ 941) (j52 : k47 ≤ ksize) (j53 : kto ≤ k47) (j54 : k5 ≤ k47) (j55 : (x46 = nI 0 ∨ r24 = nI 1) ∨ (0 ≤ x48.toInt ∧ x48.toInt ≤ 999 ∧ (k5 + 3 ≤ k47 ∨ x48.toInt ≤ 99) ∧ (k5 + 2 ≤ k47 ∨ x48.toInt ≤ 9) ∧ (k5 + 1 ≤ k47 ∨ x48.toInt ≤ 0))) (hm59 : 940 - k47 < n57 + 1) (p61 : (k47 < ksize ∧ r60 = ktapeF k47) ∨ (ksize ≤ k47 ∧ r60 = nI 0)) (t66 : ¬ (97 ≤ r60.toInt ∧ r60.toInt ≤ 122)) (p178 : (k47 < ksize ∧ r177 = ktapeF k47) ∨ (ksize ≤ k47 ∧ r177 = nI 0)) (t181 : 48 ≤ r177.toInt) (t182 : r177.toInt ≤ 57) (e186 : y185 = ktapeF k47) (c187 : ¬ x46 = 0) (t208 : 97 ≤ y185.toInt) (t209 : y185.toInt ≤ 122) (c211 : nI 1 ≠ r24) (c215 : 3 ≤ (k47 - k5)) : k5 ≤ (k47 + 1) := by
  have b_y18 := ia_b y18
  have b_r24 := ia_b r24
  have b_x46 := ia_b x46
  have b_x48 := ia_b x48
  have b_r60 := ia_b r60
  have b_r177 := ia_b r177
  have b_y185 := ia_b y185
  try have k_0 := ia_n 0 (by first | decide | omega)
  try have k_1 := ia_n 1 (by first | decide | omega)
  try simp only [ia_lt, ia_le, ia_eq, ia_m1, ia_0, ia_1, ne_eq, true_and, and_true, false_and, and_false, or_false, false_or, or_true, true_or, not_true_eq_false, not_false_eq_true] at *
  all_goals omega
set_option maxRecDepth 20000 in
theorem lf_x_goP_113 (ksize : Nat) (kto : Nat) (ktapeF : Nat → Int32) (k5 : Nat) (n10 : Nat) (y18 : Int32) (r24 : Int32) (x46 : Int32) (k47 : Nat) (x48 : Int32) (n57 : Nat) (r60 : Int32) (r177 : Int32) (y185 : Int32) (iv_ko_1 : ksize ≤ 940) (iv_ko_3 : kto ≤ ksize) (j6 : k5 ≤ 940) (j7 : k5 ≤ ksize) (j8 : kto ≤ k5) (hm12 : 940 - k5 < n10 + 1) (c17 : k5 < ksize) (e19 : y18 = ktapeF k5) (p25 : r24 = nI 0 ∨ r24 = nI 1) (j50 : x46 = nI 0 ∨ x46 = nI 1) (j51 : k47 ≤ 941) (j52 : k47 ≤ ksize) (j53 : kto ≤ k47) (j54 : k5 ≤ k47) (j55 : (x46 = nI 0 ∨ r24 = nI 1) ∨ (0 ≤ x48.toInt ∧ x48.toInt ≤ 999 ∧ (k5 + 3 ≤ k47 ∨ x48.toInt ≤ 99) ∧ (k5 + 2 ≤ k47 ∨ x48.toInt ≤ 9) ∧ (k5 + 1 ≤ k47 ∨ x48.toInt ≤ 0))) (hm59 : 940 - k47 < n57 + 1) (p61 : (k47 < ksize ∧ r60 = ktapeF k47) ∨ (ksize ≤ k47 ∧ r60 = nI 0)) (t66 : ¬ (97 ≤ r60.toInt ∧ r60.toInt ≤ 122)) (p178 : (k47 < ksize ∧ r177 = ktapeF k47) ∨ (ksize ≤ k47 ∧ r177 = nI 0)) (t181 : 48 ≤ r177.toInt) (t182 : r177.toInt ≤ 57) (e186 : y185 = ktapeF k47) (c187 : ¬ x46 = 0) (t208 : 97 ≤ y185.toInt) (t209 : y185.toInt ≤ 122) (c211 : nI 1 ≠ r24) (c215 : 3 ≤ (k47 - k5)) : ((nI 0) = nI 0 ∨ r24 = nI 1) ∨ (0 ≤ x48.toInt ∧ x48.toInt ≤ 999 ∧ (k5 + 3 ≤ (k47 + 1) ∨ x48.toInt ≤ 99) ∧ (k5 + 2 ≤ (k47 + 1) ∨ x48.toInt ≤ 9) ∧ (k5 + 1 ≤ (k47 + 1) ∨ x48.toInt ≤ 0)) := by
  have b_y18 := ia_b y18
  have b_r24 := ia_b r24
  have b_x46 := ia_b x46
  have b_x48 := ia_b x48
  have b_r60 := ia_b r60
  have b_r177 := ia_b r177
  have b_y185 := ia_b y185
  try have k_0 := ia_n 0 (by first | decide | omega)
  try have k_1 := ia_n 1 (by first | decide | omega)
  try simp only [ia_lt, ia_le, ia_eq, ia_m1, ia_0, ia_1, ne_eq, true_and, and_true, false_and, and_false, or_false, false_or, or_true, true_or, not_true_eq_false, not_false_eq_true] at *
  all_goals omega
set_option maxRecDepth 20000 in
theorem lf_x_goP_114 (ksize : Nat) (kto : Nat) (ktapeF : Nat → Int32) (k5 : Nat) (n10 : Nat) (y18 : Int32) (r24 : Int32) (x46 : Int32) (k47 : Nat) (x48 : Int32) (n57 : Nat) (r60 : Int32) (r177 : Int32) (y185 : Int32) (iv_ko_1 : ksize ≤ 940) (iv_ko_3 : kto ≤ ksize) (j6 : k5 ≤ 940) (j7 : k5 ≤ ksize) (j8 : kto ≤ k5) (hm12 : 940 - k5 < n10 + 1) (c17 : k5 < ksize) (e19 : y18 = ktapeF k5) (p25 : r24 = nI 0 ∨ r24 = nI 1) (j50 : x46 = nI 0 ∨ x46 = nI 1) (j51 : k47 ≤ 941) (j52 : k47 ≤ ksize) (j53 : kto ≤ k47) (j54 : k5 ≤ k47) (j55 : (x46 = nI 0 ∨ r24 = nI 1) ∨ (0 ≤ x48.toInt ∧ x48.toInt ≤ 999 ∧ (k5 + 3 ≤ k47 ∨ x48.toInt ≤ 99) ∧ (k5 + 2 ≤ k47 ∨ x48.toInt ≤ 9) ∧ (k5 + 1 ≤ k47 ∨ x48.toInt ≤ 0))) (hm59 : 940 - k47 < n57 + 1) (p61 : (k47 < ksize ∧ r60 = ktapeF k47) ∨ (ksize ≤ k47 ∧ r60 = nI 0)) (t66 : ¬ (97 ≤ r60.toInt ∧ r60.toInt ≤ 122)) (p178 : (k47 < ksize ∧ r177 = ktapeF k47) ∨ (ksize ≤ k47 ∧ r177 = nI 0)) (t181 : 48 ≤ r177.toInt) (t182 : r177.toInt ≤ 57) (e186 : y185 = ktapeF k47) (c187 : ¬ x46 = 0) (t208 : 97 ≤ y185.toInt) (t209 : y185.toInt ≤ 122) (c211 : nI 1 ≠ r24) (c215 : 3 ≤ (k47 - k5)) : 940 - (k47 + 1) < n57 := by
  have b_y18 := ia_b y18
  have b_r24 := ia_b r24
  have b_x46 := ia_b x46
  have b_x48 := ia_b x48
  have b_r60 := ia_b r60
  have b_r177 := ia_b r177
  have b_y185 := ia_b y185
  try have k_0 := ia_n 0 (by first | decide | omega)
  try have k_1 := ia_n 1 (by first | decide | omega)
  try simp only [ia_lt, ia_le, ia_eq, ia_m1, ia_0, ia_1, ne_eq, true_and, and_true, false_and, and_false, or_false, false_or, or_true, true_or, not_true_eq_false, not_false_eq_true] at *
  all_goals omega
set_option maxRecDepth 20000 in
theorem lf_x_goP_115 (ksize : Nat) (kto : Nat) (ktapeF : Nat → Int32) (k5 : Nat) (n10 : Nat) (y18 : Int32) (r24 : Int32) (x46 : Int32) (k47 : Nat) (x48 : Int32) (n57 : Nat) (r60 : Int32) (r177 : Int32) (y185 : Int32) (y216 : Int32) (iv_ko_1 : ksize ≤ 940) (iv_ko_3 : kto ≤ ksize) (j6 : k5 ≤ 940) (j7 : k5 ≤ ksize) (j8 : kto ≤ k5) (hm12 : 940 - k5 < n10 + 1) (c17 : k5 < ksize) (e19 : y18 = ktapeF k5) (p25 : r24 = nI 0 ∨ r24 = nI 1) (j50 : x46 = nI 0 ∨ x46 = nI 1) (j51 : k47 ≤ 941) (j52 : k47 ≤ ksize) (j53 : kto ≤ k47) (j54 : k5 ≤ k47) (j55 : (x46 = nI 0 ∨ r24 = nI 1) ∨ (0 ≤ x48.toInt ∧ x48.toInt ≤ 999 ∧ (k5 + 3 ≤ k47 ∨ x48.toInt ≤ 99) ∧ (k5 + 2 ≤ k47 ∨ x48.toInt ≤ 9) ∧ (k5 + 1 ≤ k47 ∨ x48.toInt ≤ 0))) (hm59 : 940 - k47 < n57 + 1) (p61 : (k47 < ksize ∧ r60 = ktapeF k47) ∨ (ksize ≤ k47 ∧ r60 = nI 0)) (t66 : ¬ (97 ≤ r60.toInt ∧ r60.toInt ≤ 122)) (p178 : (k47 < ksize ∧ r177 = ktapeF k47) ∨ (ksize ≤ k47 ∧ r177 = nI 0)) (t181 : 48 ≤ r177.toInt) (t182 : r177.toInt ≤ 57) (e186 : y185 = ktapeF k47) (c187 : ¬ x46 = 0) (t208 : 97 ≤ y185.toInt) (t209 : y185.toInt ≤ 122) (c211 : nI 1 ≠ r24) (c215 : (k47 - k5) < 3) (e217 : y216 = (nI 10) * x48) : 0 ≤ y185.toInt ∧ y185.toInt < ((123 : Nat) : Int) := by
  have b_y18 := ia_b y18
  have b_r24 := ia_b r24
  have b_x46 := ia_b x46
  have b_x48 := ia_b x48
  have b_r60 := ia_b r60
  have b_r177 := ia_b r177
  have b_y185 := ia_b y185
  have b_y216 := ia_b y216
  try have k_0 := ia_n 0 (by first | decide | omega)
  try have k_1 := ia_n 1 (by first | decide | omega)
  try have k_2 := ia_n 10 (by first | decide | omega)
  try simp only [ia_lt, ia_le, ia_eq, ia_m1, ia_0, ia_1, ne_eq, true_and, and_true, false_and, and_false, or_false, false_or, or_true, true_or, not_true_eq_false, not_false_eq_true] at *
  all_goals omega
set_option maxRecDepth 20000 in
theorem lf_x_goP_116 (ksize : Nat) (kto : Nat) (ktapeF : Nat → Int32) (k5 : Nat) (n10 : Nat) (y18 : Int32) (r24 : Int32) (x46 : Int32) (k47 : Nat) (x48 : Int32) (n57 : Nat) (r60 : Int32) (r177 : Int32) (y185 : Int32) (y216 : Int32) (n218 : Nat) (iv_ko_1 : ksize ≤ 940) (iv_ko_3 : kto ≤ ksize) (j6 : k5 ≤ 940) (j7 : k5 ≤ ksize) (j8 : kto ≤ k5) (hm12 : 940 - k5 < n10 + 1) (c17 : k5 < ksize) (e19 : y18 = ktapeF k5) (p25 : r24 = nI 0 ∨ r24 = nI 1) (j50 : x46 = nI 0 ∨ x46 = nI 1) (j51 : k47 ≤ 941) (j52 : k47 ≤ ksize) (j53 : kto ≤ k47) (j54 : k5 ≤ k47) (j55 : (x46 = nI 0 ∨ r24 = nI 1) ∨ (0 ≤ x48.toInt ∧ x48.toInt ≤ 999 ∧ (k5 + 3 ≤ k47 ∨ x48.toInt ≤ 99) ∧ (k5 + 2 ≤ k47 ∨ x48.toInt ≤ 9) ∧ (k5 + 1 ≤ k47 ∨ x48.toInt ≤ 0))) (hm59 : 940 - k47 < n57 + 1) (p61 : (k47 < ksize ∧ r60 = ktapeF k47) ∨ (ksize ≤ k47 ∧ r60 = nI 0)) (t66 : ¬ (97 ≤ r60.toInt ∧ r60.toInt ≤ 122)) (p178 : (k47 < ksize ∧ r177 = ktapeF k47) ∨ (ksize ≤ k47 ∧ r177 = nI 0)) (t181 : 48 ≤ r177.toInt) (t182 : r177.toInt ≤ 57) (e186 : y185 = ktapeF k47) (c187 : ¬ x46 = 0) (t208 : 97 ≤ y185.toInt) (t209 : y185.toInt ≤ 122) (c211 : nI 1 ≠ r24) (c215 : (k47 - k5) < 3) (e217 : y216 = (nI 10) * x48) (h219 : n218 < 123) (e220 : y185 = nI n218) : 97 ≤ n218 := by
  have b_y18 := ia_b y18
  have b_r24 := ia_b r24
  have b_x46 := ia_b x46
  have b_x48 := ia_b x48
  have b_r60 := ia_b r60
  have b_r177 := ia_b r177
  have b_y185 := ia_b y185
  have b_y216 := ia_b y216
  try have k_0 := ia_n 0 (by first | decide | omega)
  try have k_1 := ia_n 1 (by first | decide | omega)
  try have k_2 := ia_n 10 (by first | decide | omega)
  try have k_3 := ia_n n218 (by first | decide | omega)
  try simp only [ia_lt, ia_le, ia_eq, ia_m1, ia_0, ia_1, ne_eq, true_and, and_true, false_and, and_false, or_false, false_or, or_true, true_or, not_true_eq_false, not_false_eq_true] at *
  all_goals omega
set_option maxRecDepth 20000 in
theorem lf_x_goP_117   : (nI 0) = nI 0 ∨ (nI 0) = nI 1 := by
  try have k_0 := ia_n 0 (by first | decide | omega)
  try have k_1 := ia_n 1 (by first | decide | omega)
  try simp only [ia_lt, ia_le, ia_eq, ia_m1, ia_0, ia_1, ne_eq, true_and, and_true, false_and, and_false, or_false, false_or, or_true, true_or, not_true_eq_false, not_false_eq_true] at *
  all_goals omega
set_option maxRecDepth 20000 in
theorem lf_x_goP_118 (ksize : Nat) (kto : Nat) (ktapeF : Nat → Int32) (k5 : Nat) (n10 : Nat) (y18 : Int32) (r24 : Int32) (x46 : Int32) (k47 : Nat) (x48 : Int32) (n57 : Nat) (r60 : Int32) (r177 : Int32) (y185 : Int32) (y216 : Int32) (n218 : Nat) (y222 : Int32) (y224 : Int32) (iv_ko_1 : ksize ≤ 940) (iv_ko_3 : kto ≤ ksize) (j6 : k5 ≤ 940) (j7 : k5 ≤ ksize) (j8 : kto ≤ k5) (hm12 : 940 - k5 < n10 + 1) (c17 : k5 < ksize) (e19 : y18 = ktapeF k5) (p25 : r24 = nI 0 ∨ r24 = nI 1) (j50 : x46 = nI 0 ∨ x46 = nI 1) (j51 : k47 ≤ 941) (j52 : k47 ≤ ksize) (j53 : kto ≤ k47) (j54 : k5 ≤ k47) (j55 : (x46 = nI 0 ∨ r24 = nI 1) ∨ (0 ≤ x48.toInt ∧ x48.toInt ≤ 999 ∧ (k5 + 3 ≤ k47 ∨ x48.toInt ≤ 99) ∧ (k5 + 2 ≤ k47 ∨ x48.toInt ≤ 9) ∧ (k5 + 1 ≤ k47 ∨ x48.toInt ≤ 0))) (hm59 : 940 - k47 < n57 + 1) (p61 : (k47 < ksize ∧ r60 = ktapeF k47) ∨ (ksize ≤ k47 ∧ r60 = nI 0)) (t66 : ¬ (97 ≤ r60.toInt ∧ r60.toInt ≤ 122)) (p178 : (k47 < ksize ∧ r177 = ktapeF k47) ∨ (ksize ≤ k47 ∧ r177 = nI 0)) (t181 : 48 ≤ r177.toInt) (t182 : r177.toInt ≤ 57) (e186 : y185 = ktapeF k47) (c187 : ¬ x46 = 0) (t208 : 97 ≤ y185.toInt) (t209 : y185.toInt ≤ 122) (c211 : nI 1 ≠ r24) (c215 : (k47 - k5) < 3) (e217 : y216 = (nI 10) * x48) (h219 : n218 < 123) (e220 : y185 = nI n218) (f221 : 97 ≤ n218) (e223 : y222 = y216 + (nI n218)) (e225 : y224 = y222 - (nI 48)) : (k47 + 1) ≤ 941 := by
  have b_y18 := ia_b y18
  have b_r24 := ia_b r24
  have b_x46 := ia_b x46
  have b_x48 := ia_b x48
  have b_r60 := ia_b r60
  have b_r177 := ia_b r177
  have b_y185 := ia_b y185
  have b_y216 := ia_b y216
  have b_y222 := ia_b y222
  have b_y224 := ia_b y224
  try have k_0 := ia_n 0 (by first | decide | omega)
  try have k_1 := ia_n 1 (by first | decide | omega)
  try have k_2 := ia_n 10 (by first | decide | omega)
  try have k_3 := ia_n n218 (by first | decide | omega)
  try have k_4 := ia_n 48 (by first | decide | omega)
  try simp only [ia_lt, ia_le, ia_eq, ia_m1, ia_0, ia_1, ne_eq, true_and, and_true, false_and, and_false, or_false, false_or, or_true, true_or, not_true_eq_false, not_false_eq_true] at *
  all_goals omega
set_option maxRecDepth 20000 in
theorem lf_x_goP_119 (ksize : Nat) (kto : Nat) (ktapeF : Nat → Int32) (k5 : Nat) (n10 : Nat) (y18 : Int32) (r24 : Int32) (x46 : Int32) (k47 : Nat) (x48 : Int32) (n57 : Nat) (r60 : Int32) (r177 : Int32) (y185 : Int32) (y216 : Int32) (n218 : Nat) (y222 : Int32) (y224 : Int32) (iv_ko_1 : ksize ≤ 940) (iv_ko_3 : kto ≤ ksize) (j6 : k5 ≤ 940) (j7 : k5 ≤ ksize) (j8 : kto ≤ k5) (hm12 : 940 - k5 < n10 + 1) (c17 : k5 < ksize) (e19 : y18 = ktapeF k5) (p25 : r24 = nI 0 ∨ r24 = nI 1) (j50 : x46 = nI 0 ∨ x46 = nI 1) (j51 : k47 ≤ 941) (j52 : k47 ≤ ksize) (j53 : kto ≤ k47) (j54 : k5 ≤ k47) (j55 : (x46 = nI 0 ∨ r24 = nI 1) ∨ (0 ≤ x48.toInt ∧ x48.toInt ≤ 999 ∧ (k5 + 3 ≤ k47 ∨ x48.toInt ≤ 99) ∧ (k5 + 2 ≤ k47 ∨ x48.toInt ≤ 9) ∧ (k5 + 1 ≤ k47 ∨ x48.toInt ≤ 0))) (hm59 : 940 - k47 < n57 + 1) (p61 : (k47 < ksize ∧ r60 = ktapeF k47) ∨ (ksize ≤ k47 ∧ r60 = nI 0)) (t66 : ¬ (97 ≤ r60.toInt ∧ r60.toInt ≤ 122)) (p178 : (k47 < ksize ∧ r177 = ktapeF k47) ∨ (ksize ≤ k47 ∧ r177 = nI 0)) (t181 : 48 ≤ r177.toInt) (t182 : r177.toInt ≤ 57) (e186 : y185 = ktapeF k47) (c187 : ¬ x46 = 0) (t208 : 97 ≤ y185.toInt) (t209 : y185.toInt ≤ 122) (c211 : nI 1 ≠ r24) (c215 : (k47 - k5) < 3) (e217 : y216 = (nI 10) * x48) (h219 : n218 < 123) (e220 : y185 = nI n218) (f221 : 97 ≤ n218) (e223 : y222 = y216 + (nI n218)) (e225 : y224 = y222 - (nI 48)) : (k47 + 1) ≤ ksize := by
  have b_y18 := ia_b y18
  have b_r24 := ia_b r24
  have b_x46 := ia_b x46
  have b_x48 := ia_b x48
  have b_r60 := ia_b r60
  have b_r177 := ia_b r177
  have b_y185 := ia_b y185
  have b_y216 := ia_b y216
  have b_y222 := ia_b y222
  have b_y224 := ia_b y224
  try have k_0 := ia_n 0 (by first | decide | omega)
  try have k_1 := ia_n 1 (by first | decide | omega)
  try have k_2 := ia_n 10 (by first | decide | omega)
  try have k_3 := ia_n n218 (by first | decide | omega)
  try have k_4 := ia_n 48 (by first | decide | omega)
  try simp only [ia_lt, ia_le, ia_eq, ia_m1, ia_0, ia_1, ne_eq, true_and, and_true, false_and, and_false, or_false, false_or, or_true, true_or, not_true_eq_false, not_false_eq_true] at *
  all_goals omega
set_option maxRecDepth 20000 in
theorem lf_x_goP_120 (ksize : Nat) (kto : Nat) (ktapeF : Nat → Int32) (k5 : Nat) (n10 : Nat) (y18 : Int32) (r24 : Int32) (x46 : Int32) (k47 : Nat) (x48 : Int32) (n57 : Nat) (r60 : Int32) (r177 : Int32) (y185 : Int32) (y216 : Int32) (n218 : Nat) (y222 : Int32) (y224 : Int32) (iv_ko_1 : ksize ≤ 940) (iv_ko_3 : kto ≤ ksize) (j6 : k5 ≤ 940) (j7 : k5 ≤ ksize) (j8 : kto ≤ k5) (hm12 : 940 - k5 < n10 + 1) (c17 : k5 < ksize) (e19 : y18 = ktapeF k5) (p25 : r24 = nI 0 ∨ r24 = nI 1) (j50 : x46 = nI 0 ∨ x46 = nI 1) (j51 : k47 ≤ 941) (j52 : k47 ≤ ksize) (j53 : kto ≤ k47) (j54 : k5 ≤ k47) (j55 : (x46 = nI 0 ∨ r24 = nI 1) ∨ (0 ≤ x48.toInt ∧ x48.toInt ≤ 999 ∧ (k5 + 3 ≤ k47 ∨ x48.toInt ≤ 99) ∧ (k5 + 2 ≤ k47 ∨ x48.toInt ≤ 9) ∧ (k5 + 1 ≤ k47 ∨ x48.toInt ≤ 0))) (hm59 : 940 - k47 < n57 + 1) (p61 : (k47 < ksize ∧ r60 = ktapeF k47) ∨ (ksize ≤ k47 ∧ r60 = nI 0)) (t66 : ¬ (97 ≤ r60.toInt ∧ r60.toInt ≤ 122)) (p178 : (k47 < ksize ∧ r177 = ktapeF k47) ∨ (ksize ≤ k47 ∧ r177 = nI 0)) (t181 : 48 ≤ r177.toInt) (t182 : r177.toInt ≤ 57) (e186 : y185 = ktapeF k47) (c187 : ¬ x46 = 0) (t208 : 97 ≤ y185.toInt) (t209 : y185.toInt ≤ 122) (c211 : nI 1 ≠ r24) (c215 : (k47 - k5) < 3) (e217 : y216 = (nI 10) * x48) (h219 : n218 < 123) (e220 : y185 = nI n218) (f221 : 97 ≤ n218) (e223 : y222 = y216 + (nI n218)) (e225 : y224 = y222 - (nI 48)) : kto ≤ (k47 + 1) := by
  have b_y18 := ia_b y18
  have b_r24 := ia_b r24
  have b_x46 := ia_b x46
  have b_x48 := ia_b x48
  have b_r60 := ia_b r60
  have b_r177 := ia_b r177
  have b_y185 := ia_b y185
  have b_y216 := ia_b y216
  have b_y222 := ia_b y222
  have b_y224 := ia_b y224
  try have k_0 := ia_n 0 (by first | decide | omega)
  try have k_1 := ia_n 1 (by first | decide | omega)
  try have k_2 := ia_n 10 (by first | decide | omega)
  try have k_3 := ia_n n218 (by first | decide | omega)
  try have k_4 := ia_n 48 (by first | decide | omega)
  try simp only [ia_lt, ia_le, ia_eq, ia_m1, ia_0, ia_1, ne_eq, true_and, and_true, false_and, and_false, or_false, false_or, or_true, true_or, not_true_eq_false, not_false_eq_true] at *
  all_goals omega
set_option maxRecDepth 20000 in
theorem lf_x_goP_121 (ksize : Nat) (kto : Nat) (ktapeF : Nat → Int32) (k5 : Nat) (n10 : Nat) (y18 : Int32) (r24 : Int32) (x46 : Int32) (k47 : Nat) (x48 : Int32) (n57 : Nat) (r60 : Int32) (r177 : Int32) (y185 : Int32) (y216 : Int32) (n218 : Nat) (y222 : Int32) (y224 : Int32) (iv_ko_1 : ksize ≤ 940) (iv_ko_3 : kto ≤ ksize) (j6 : k5 ≤ 940) (j7 : k5 ≤ ksize) (j8 : kto ≤ k5) (hm12 : 940 - k5 < n10 + 1) (c17 : k5 < ksize) (e19 : y18 = ktapeF k5) (p25 : r24 = nI 0 ∨ r24 = nI 1) (j50 : x46 = nI 0 ∨ x46 = nI 1) (j51 : k47 ≤ 941) (j52 : k47 ≤ ksize) (j53 : kto ≤ k47) (j54 : k5 ≤ k47) (j55 : (x46 = nI 0 ∨ r24 = nI 1) ∨ (0 ≤ x48.toInt ∧ x48.toInt ≤ 999 ∧ (k5 + 3 ≤ k47 ∨ x48.toInt ≤ 99) ∧ (k5 + 2 ≤ k47 ∨ x48.toInt ≤ 9) ∧ (k5 + 1 ≤ k47 ∨ x48.toInt ≤ 0))) (hm59 : 940 - k47 < n57 + 1) (p61 : (k47 < ksize ∧ r60 = ktapeF k47) ∨ (ksize ≤ k47 ∧ r60 = nI 0)) (t66 : ¬ (97 ≤ r60.toInt ∧ r60.toInt ≤ 122)) (p178 : (k47 < ksize ∧ r177 = ktapeF k47) ∨ (ksize ≤ k47 ∧ r177 = nI 0)) (t181 : 48 ≤ r177.toInt) (t182 : r177.toInt ≤ 57) (e186 : y185 = ktapeF k47) (c187 : ¬ x46 = 0) (t208 : 97 ≤ y185.toInt) (t209 : y185.toInt ≤ 122) (c211 : nI 1 ≠ r24) (c215 : (k47 - k5) < 3) (e217 : y216 = (nI 10) * x48) (h219 : n218 < 123) (e220 : y185 = nI n218) (f221 : 97 ≤ n218) (e223 : y222 = y216 + (nI n218)) (e225 : y224 = y222 - (nI 48)) : k5 ≤ (k47 + 1) := by
  have b_y18 := ia_b y18
  have b_r24 := ia_b r24
  have b_x46 := ia_b x46
  have b_x48 := ia_b x48
  have b_r60 := ia_b r60
  have b_r177 := ia_b r177
  have b_y185 := ia_b y185
  have b_y216 := ia_b y216
  have b_y222 := ia_b y222
  have b_y224 := ia_b y224
  try have k_0 := ia_n 0 (by first | decide | omega)
  try have k_1 := ia_n 1 (by first | decide | omega)
  try have k_2 := ia_n 10 (by first | decide | omega)
  try have k_3 := ia_n n218 (by first | decide | omega)
  try have k_4 := ia_n 48 (by first | decide | omega)
  try simp only [ia_lt, ia_le, ia_eq, ia_m1, ia_0, ia_1, ne_eq, true_and, and_true, false_and, and_false, or_false, false_or, or_true, true_or, not_true_eq_false, not_false_eq_true] at *
  all_goals omega
set_option maxRecDepth 20000 in
theorem lf_x_goP_122 (ksize : Nat) (kto : Nat) (ktapeF : Nat → Int32) (k5 : Nat) (n10 : Nat) (y18 : Int32) (r24 : Int32) (x46 : Int32) (k47 : Nat) (x48 : Int32) (n57 : Nat) (r60 : Int32) (r177 : Int32) (y185 : Int32) (y216 : Int32) (n218 : Nat) (y222 : Int32) (y224 : Int32) (iv_ko_1 : ksize ≤ 940) (iv_ko_3 : kto ≤ ksize) (j6 : k5 ≤ 940) (j7 : k5 ≤ ksize) (j8 : kto ≤ k5) (hm12 : 940 - k5 < n10 + 1) (c17 : k5 < ksize) (e19 : y18 = ktapeF k5) (p25 : r24 = nI 0 ∨ r24 = nI 1) (j50 : x46 = nI 0 ∨ x46 = nI 1) (j51 : k47 ≤ 941) (j52 : k47 ≤ ksize) (j53 : kto ≤ k47) (j54 : k5 ≤ k47) (j55 : (x46 = nI 0 ∨ r24 = nI 1) ∨ (0 ≤ x48.toInt ∧ x48.toInt ≤ 999 ∧ (k5 + 3 ≤ k47 ∨ x48.toInt ≤ 99) ∧ (k5 + 2 ≤ k47 ∨ x48.toInt ≤ 9) ∧ (k5 + 1 ≤ k47 ∨ x48.toInt ≤ 0))) (hm59 : 940 - k47 < n57 + 1) (p61 : (k47 < ksize ∧ r60 = ktapeF k47) ∨ (ksize ≤ k47 ∧ r60 = nI 0)) (t66 : ¬ (97 ≤ r60.toInt ∧ r60.toInt ≤ 122)) (p178 : (k47 < ksize ∧ r177 = ktapeF k47) ∨ (ksize ≤ k47 ∧ r177 = nI 0)) (t181 : 48 ≤ r177.toInt) (t182 : r177.toInt ≤ 57) (e186 : y185 = ktapeF k47) (c187 : ¬ x46 = 0) (t208 : 97 ≤ y185.toInt) (t209 : y185.toInt ≤ 122) (c211 : nI 1 ≠ r24) (c215 : (k47 - k5) < 3) (e217 : y216 = (nI 10) * x48) (h219 : n218 < 123) (e220 : y185 = nI n218) (f221 : 97 ≤ n218) (e223 : y222 = y216 + (nI n218)) (e225 : y224 = y222 - (nI 48)) : ((nI 0) = nI 0 ∨ r24 = nI 1) ∨ (0 ≤ y224.toInt ∧ y224.toInt ≤ 999 ∧ (k5 + 3 ≤ (k47 + 1) ∨ y224.toInt ≤ 99) ∧ (k5 + 2 ≤ (k47 + 1) ∨ y224.toInt ≤ 9) ∧ (k5 + 1 ≤ (k47 + 1) ∨ y224.toInt ≤ 0)) := by
  have b_y18 := ia_b y18
  have b_r24 := ia_b r24
  have b_x46 := ia_b x46
  have b_x48 := ia_b x48
  have b_r60 := ia_b r60
  have b_r177 := ia_b r177
  have b_y185 := ia_b y185
  have b_y216 := ia_b y216
  have b_y222 := ia_b y222
  have b_y224 := ia_b y224
  try have k_0 := ia_n 0 (by first | decide | omega)
  try have k_1 := ia_n 1 (by first | decide | omega)
  try have k_2 := ia_n 10 (by first | decide | omega)
  try have k_3 := ia_n n218 (by first | decide | omega)
  try have k_4 := ia_n 48 (by first | decide | omega)
  try simp only [ia_lt, ia_le, ia_eq, ia_m1, ia_0, ia_1, ne_eq, true_and, and_true, false_and, and_false, or_false, false_or, or_true, true_or, not_true_eq_false, not_false_eq_true] at *
  all_goals omega
set_option maxRecDepth 20000 in
theorem lf_x_goP_123 (ksize : Nat) (kto : Nat) (ktapeF : Nat → Int32) (k5 : Nat) (n10 : Nat) (y18 : Int32) (r24 : Int32) (x46 : Int32) (k47 : Nat) (x48 : Int32) (n57 : Nat) (r60 : Int32) (r177 : Int32) (y185 : Int32) (y216 : Int32) (n218 : Nat) (y222 : Int32) (y224 : Int32) (iv_ko_1 : ksize ≤ 940) (iv_ko_3 : kto ≤ ksize) (j6 : k5 ≤ 940) (j7 : k5 ≤ ksize) (j8 : kto ≤ k5) (hm12 : 940 - k5 < n10 + 1) (c17 : k5 < ksize) (e19 : y18 = ktapeF k5) (p25 : r24 = nI 0 ∨ r24 = nI 1) (j50 : x46 = nI 0 ∨ x46 = nI 1) (j51 : k47 ≤ 941) (j52 : k47 ≤ ksize) (j53 : kto ≤ k47) (j54 : k5 ≤ k47) (j55 : (x46 = nI 0 ∨ r24 = nI 1) ∨ (0 ≤ x48.toInt ∧ x48.toInt ≤ 999 ∧ (k5 + 3 ≤ k47 ∨ x48.toInt ≤ 99) ∧ (k5 + 2 ≤ k47 ∨ x48.toInt ≤ 9) ∧ (k5 + 1 ≤ k47 ∨ x48.toInt ≤ 0))) (hm59 : 940 - k47 < n57 + 1) (p61 : (k47 < ksize ∧ r60 = ktapeF k47) ∨ (ksize ≤ k47 ∧ r60 = nI 0)) (t66 : ¬ (97 ≤ r60.toInt ∧ r60.toInt ≤ 122)) (p178 : (k47 < ksize ∧ r177 = ktapeF k47) ∨ (ksize ≤ k47 ∧ r177 = nI 0)) (t181 : 48 ≤ r177.toInt) (t182 : r177.toInt ≤ 57) (e186 : y185 = ktapeF k47) (c187 : ¬ x46 = 0) (t208 : 97 ≤ y185.toInt) (t209 : y185.toInt ≤ 122) (c211 : nI 1 ≠ r24) (c215 : (k47 - k5) < 3) (e217 : y216 = (nI 10) * x48) (h219 : n218 < 123) (e220 : y185 = nI n218) (f221 : 97 ≤ n218) (e223 : y222 = y216 + (nI n218)) (e225 : y224 = y222 - (nI 48)) : 940 - (k47 + 1) < n57 := by
  have b_y18 := ia_b y18
  have b_r24 := ia_b r24
  have b_x46 := ia_b x46
  have b_x48 := ia_b x48
  have b_r60 := ia_b r60
  have b_r177 := ia_b r177
  have b_y185 := ia_b y185
  have b_y216 := ia_b y216
  have b_y222 := ia_b y222
  have b_y224 := ia_b y224
  try have k_0 := ia_n 0 (by first | decide | omega)
  try have k_1 := ia_n 1 (by first | decide | omega)
  try have k_2 := ia_n 10 (by first | decide | omega)
  try have k_3 := ia_n n218 (by first | decide | omega)
  try have k_4 := ia_n 48 (by first | decide | omega)
  try simp only [ia_lt, ia_le, ia_eq, ia_m1, ia_0, ia_1, ne_eq, true_and, and_true, false_and, and_false, or_false, false_or, or_true, true_or, not_true_eq_false, not_false_eq_true] at *
  all_goals omega
set_option maxRecDepth 20000 in
theorem lf_x_goP_124 (ksize : Nat) (kto : Nat) (ktapeF : Nat → Int32) (k5 : Nat) (n10 : Nat) (y18 : Int32) (r24 : Int32) (x46 : Int32) (k47 : Nat) (x48 : Int32) (n57 : Nat) (r60 : Int32) (r177 : Int32) (y185 : Int32) (iv_ko_1 : ksize ≤ 940) (iv_ko_3 : kto ≤ ksize) (j6 : k5 ≤ 940) (j7 : k5 ≤ ksize) (j8 : kto ≤ k5) (hm12 : 940 - k5 < n10 + 1) (c17 : k5 < ksize) (e19 : y18 = ktapeF k5) (p25 : r24 = nI 0 ∨ r24 = nI 1) (j50 : x46 = nI 0 ∨ x46 = nI 1) (j51 : k47 ≤ 941) (j52 : k47 ≤ ksize) (j53 : kto ≤ k47) (j54 : k5 ≤ k47) (j55 : (x46 = nI 0 ∨ r24 = nI 1) ∨ (0 ≤ x48.toInt ∧ x48.toInt ≤ 999 ∧ (k5 + 3 ≤ k47 ∨ x48.toInt ≤ 99) ∧ (k5 + 2 ≤ k47 ∨ x48.toInt ≤ 9) ∧ (k5 + 1 ≤ k47 ∨ x48.toInt ≤ 0))) (hm59 : 940 - k47 < n57 + 1) (p61 : (k47 < ksize ∧ r60 = ktapeF k47) ∨ (ksize ≤ k47 ∧ r60 = nI 0)) (t66 : ¬ (97 ≤ r60.toInt ∧ r60.toInt ≤ 122)) (p178 : (k47 < ksize ∧ r177 = ktapeF k47) ∨ (ksize ≤ k47 ∧ r177 = nI 0)) (t181 : 48 ≤ r177.toInt) (t182 : r177.toInt ≤ 57) (e186 : y185 = ktapeF k47) (c187 : ¬ x46 = 0) (t208 : 97 ≤ y185.toInt) (t209 : y185.toInt ≤ 122) (c211 : nI 1 = r24) : k5 ≤ k47 := by
  have b_y18 := ia_b y18
  have b_r24 := ia_b r24
  have b_x46 := ia_b x46
  have b_x48 := ia_b x48
  have b_r60 := ia_b r60
  have b_r177 := ia_b r177
  have b_y185 := ia_b y185
  try have k_0 := ia_n 0 (by first | decide | omega)
  try have k_1 := ia_n 1 (by first | decide | omega)
  try simp only [ia_lt, ia_le, ia_eq, ia_m1, ia_0, ia_1, ne_eq, true_and, and_true, false_and, and_false, or_false, false_or, or_true, true_or, not_true_eq_false, not_false_eq_true] at *
  all_goals omega
set_option maxRecDepth 20000 in
theorem lf_x_goP_125 (ksize : Nat) (kto : Nat) (ktapeF : Nat → Int32) (k5 : Nat) (n10 : Nat) (y18 : Int32) (r24 : Int32) (x46 : Int32) (k47 : Nat) (x48 : Int32) (n57 : Nat) (r60 : Int32) (r177 : Int32) (y185 : Int32) (iv_ko_1 : ksize ≤ 940) (iv_ko_3 : kto ≤ ksize) (j6 : k5 ≤ 940) (j7 : k5 ≤ ksize) (j8 : kto ≤ k5) (hm12 : 940 - k5 < n10 + 1) (c17 : k5 < ksize) (e19 : y18 = ktapeF k5) (p25 : r24 = nI 0 ∨ r24 = nI 1) (j50 : x46 = nI 0 ∨ x46 = nI 1) (j51 : k47 ≤ 941) (j52 : k47 ≤ ksize) (j53 : kto ≤ k47) (j54 : k5 ≤ k47) (j55 : (x46 = nI 0 ∨ r24 = nI 1) ∨ (0 ≤ x48.toInt ∧ x48.toInt ≤ 999 ∧ (k5 + 3 ≤ k47 ∨ x48.toInt ≤ 99) ∧ (k5 + 2 ≤ k47 ∨ x48.toInt ≤ 9) ∧ (k5 + 1 ≤ k47 ∨ x48.toInt ≤ 0))) (hm59 : 940 - k47 < n57 + 1) (p61 : (k47 < ksize ∧ r60 = ktapeF k47) ∨ (ksize ≤ k47 ∧ r60 = nI 0)) (t66 : ¬ (97 ≤ r60.toInt ∧ r60.toInt ≤ 122)) (p178 : (k47 < ksize ∧ r177 = ktapeF k47) ∨ (ksize ≤ k47 ∧ r177 = nI 0)) (t181 : 48 ≤ r177.toInt) (t182 : r177.toInt ≤ 57) (e186 : y185 = ktapeF k47) (c187 : ¬ x46 = 0) (t208 : 97 ≤ y185.toInt) (t209 : y185.toInt ≤ 122) (c211 : nI 1 = r24) : k5 ≤ k47 := by
  have b_y18 := ia_b y18
  have b_r24 := ia_b r24
  have b_x46 := ia_b x46
  have b_x48 := ia_b x48
  have b_r60 := ia_b r60
  have b_r177 := ia_b r177
  have b_y185 := ia_b y185
  try have k_0 := ia_n 0 (by first | decide | omega)
  try have k_1 := ia_n 1 (by first | decide | omega)
  try simp only [ia_lt, ia_le, ia_eq, ia_m1, ia_0, ia_1, ne_eq, true_and, and_true, false_and, and_false, or_false, false_or, or_true, true_or, not_true_eq_false, not_false_eq_true] at *
  all_goals omega
set_option maxRecDepth 20000 in
theorem lf_x_goP_126   : (nI 1) = nI 0 ∨ (nI 1) = nI 1 := by
  try have k_0 := ia_n 1 (by first | decide | omega)
  try have k_1 := ia_n 0 (by first | decide | omega)
  try simp only [ia_lt, ia_le, ia_eq, ia_m1, ia_0, ia_1, ne_eq, true_and, and_true, false_and, and_false, or_false, false_or, or_true, true_or, not_true_eq_false, not_false_eq_true] at *
  all_goals omega
set_option maxRecDepth 20000 in
theorem lf_x_goP_127 (ksize : Nat) (kto : Nat) (ktapeF : Nat → Int32) (k5 : Nat) (n10 : Nat) (y18 : Int32) (r24 : Int32) (x46 : Int32) (k47 : Nat) (x48 : Int32) (n57 : Nat) (r60 : Int32) (r177 : Int32) (y185 : Int32) (iv_ko_1 : ksize ≤ 940) (iv_ko_3 : kto ≤ ksize) (j6 : k5 ≤ 940) (j7 : k5 ≤ ksize) (j8 : kto ≤ k5) (hm12 : 940 - k5 < n10 + 1) (c17 : k5 < ksize) (e19 : y18 = ktapeF k5) (p25 : r24 = nI 0 ∨ r24 = nI 1) (j50 : x46 = nI 0 ∨ x46 = nI 1) (j51 : k47 ≤ 941) (j52 : k47 ≤ ksize) (j53 : kto ≤ k47) (j54 : k5 ≤ k47) (j55 : (x46 = nI 0 ∨ r24 = nI 1) ∨ (0 ≤ x48.toInt ∧ x48.toInt ≤ 999 ∧ (k5 + 3 ≤ k47 ∨ x48.toInt ≤ 99) ∧ (k5 + 2 ≤ k47 ∨ x48.toInt ≤ 9) ∧ (k5 + 1 ≤ k47 ∨ x48.toInt ≤ 0))) (hm59 : 940 - k47 < n57 + 1) (p61 : (k47 < ksize ∧ r60 = ktapeF k47) ∨ (ksize ≤ k47 ∧ r60 = nI 0)) (t66 : ¬ (97 ≤ r60.toInt ∧ r60.toInt ≤ 122)) (p178 : (k47 < ksize ∧ r177 = ktapeF k47) ∨ (ksize ≤ k47 ∧ r177 = nI 0)) (t181 : 48 ≤ r177.toInt) (t182 : r177.toInt ≤ 57) (e186 : y185 = ktapeF k47) (c187 : ¬ x46 = 0) (t208 : 97 ≤ y185.toInt) (t209 : y185.toInt ≤ 122) (c211 : nI 1 = r24) (c237 : 3 ≤ (k47 - k5)) : (k47 + 1) ≤ 941 := by
  have b_y18 := ia_b y18
  have b_r24 := ia_b r24
  have b_x46 := ia_b x46
  have b_x48 := ia_b x48
  have b_r60 := ia_b r60
  have b_r177 := ia_b r177
  have b_y185 := ia_b y185
  try have k_0 := ia_n 0 (by first | decide | omega)
  try have k_1 := ia_n 1 (by first | decide | omega)
  try simp only [ia_lt, ia_le, ia_eq, ia_m1, ia_0, ia_1, ne_eq, true_and, and_true, false_and, and_false, or_false, false_or, or_true, true_or, not_true_eq_false, not_false_eq_true] at *
  all_goals omega
set_option maxRecDepth 20000 in
theorem lf_x_goP_128 (ksize : Nat) (kto : Nat) (ktapeF : Nat → Int32) (k5 : Nat) (n10 : Nat) (y18 : Int32) (r24 : Int32) (x46 : Int32) (k47 : Nat) (x48 : Int32) (n57 : Nat) (r60 : Int32) (r177 : Int32) (y185 : Int32) (iv_ko_1 : ksize ≤ 940) (iv_ko_3 : kto ≤ ksize) (j6 : k5 ≤ 940) (j7 : k5 ≤ ksize) (j8 : kto ≤ k5) (hm12 : 940 - k5 < n10 + 1) (c17 : k5 < ksize) (e19 : y18 = ktapeF k5) (p25 : r24 = nI 0 ∨ r24 = nI 1) (j50 : x46 = nI 0 ∨ x46 = nI 1) (j51 : k47 ≤ 941) (j52 : k47 ≤ ksize) (j53 : kto ≤ k47) (j54 : k5 ≤ k47) (j55 : (x46 = nI 0 ∨ r24 = nI 1) ∨ (0 ≤ x48.toInt ∧ x48.toInt ≤ 999 ∧ (k5 + 3 ≤ k47 ∨ x48.toInt ≤ 99) ∧ (k5 + 2 ≤ k47 ∨ x48.toInt ≤ 9) ∧ (k5 + 1 ≤ k47 ∨ x48.toInt ≤ 0))) (hm59 : 940 - k47 < n57 + 1) (p61 : (k47 < ksize ∧ r60 = ktapeF k47) ∨ (ksize ≤ k47 ∧ r60 = nI 0)) (t66 : ¬ (97 ≤ r60.toInt ∧ r60.toInt ≤ 122)) (p178 : (k47 < ksize ∧ r177 = ktapeF k47) ∨ (ksize ≤ k47 ∧ r177 = nI 0)) (t181 : 48 ≤ r177.toInt) (t182 : r177.toInt ≤ 57) (e186 : y185 = ktapeF k47) (c187 : ¬ x46 = 0) (t208 : 97 ≤ y185.toInt) (t209 : y185.toInt ≤ 122) (c211 : nI 1 = r24) (c237 : 3 ≤ (k47 - k5)) : (k47 + 1) ≤ ksize := by
  have b_y18 := ia_b y18
  have b_r24 := ia_b r24
  have b_x46 := ia_b x46
  have b_x48 := ia_b x48
  have b_r60 := ia_b r60
  have b_r177 := ia_b r177
  have b_y185 := ia_b y185
  try have k_0 := ia_n 0 (by first | decide | omega)
  try have k_1 := ia_n 1 (by first | decide | omega)
  try simp only [ia_lt, ia_le, ia_eq, ia_m1, ia_0, ia_1, ne_eq, true_and, and_true, false_and, and_false, or_false, false_or, or_true, true_or, not_true_eq_false, not_false_eq_true] at *
  all_goals omega
set_option maxRecDepth 20000 in
theorem lf_x_goP_129 (ksize : Nat) (kto : Nat) (ktapeF : Nat → Int32) (k5 : Nat) (n10 : Nat) (y18 : Int32) (r24 : Int32) (x46 : Int32) (k47 : Nat) (x48 : Int32) (n57 : Nat) (r60 : Int32) (r177 : Int32) (y185 : Int32) (iv_ko_1 : ksize ≤ 940) (iv_ko_3 : kto ≤ ksize) (j6 : k5 ≤ 940) (j7 : k5 ≤ ksize) (j8 : kto ≤ k5) (hm12 : 940 - k5 < n10 + 1) (c17 : k5 < ksize) (e19 : y18 = ktapeF k5) (p25 : r24 = nI 0 ∨ r24 = nI 1) (j50 : x46 = nI 0 ∨ x46 = nI 1) (j51 : k47 ≤ 941) (j52 : k47 ≤ ksize) (j53 : kto ≤ k47) (j54 : k5 ≤ k47) (j55 : (x46 = nI 0 ∨ r24 = nI 1) ∨ (0 ≤ x48.toInt ∧ x48.toInt ≤ 999 ∧ (k5 + 3 ≤ k47 ∨ x48.toInt ≤ 99) ∧ (k5 + 2 ≤ k47 ∨ x48.toInt ≤ 9) ∧ (k5 + 1 ≤ k47 ∨ x48.toInt ≤ 0))) (hm59 : 940 - k47 < n57 + 1) (p61 : (k47 < ksize ∧ r60 = ktapeF k47) ∨ (ksize ≤ k47 ∧ r60 = nI 0)) (t66 : ¬ (97 ≤ r60.toInt ∧ r60.toInt ≤ 122)) (p178 : (k47 < ksize ∧ r177 = ktapeF k47) ∨ (ksize ≤ k47 ∧ r177 = nI 0)) (t181 : 48 ≤ r177.toInt) (t182 : r177.toInt ≤ 57) (e186 : y185 = ktapeF k47) (c187 : ¬ x46 = 0) (t208 : 97 ≤ y185.toInt) (t209 : y185.toInt ≤ 122) (c211 : nI 1 = r24) (c237 : 3 ≤ (k47 - k5)) : kto ≤ (k47 + 1) := by
  have b_y18 := ia_b y18
  have b_r24 := ia_b r24
  have b_x46 := ia_b x46
  have b_x48 := ia_b x48
  have b_r60 := ia_b r60
  have b_r177 := ia_b r177
  have b_y185 := ia_b y185
  try have k_0 := ia_n 0 (by first | decide | omega)
  try have k_1 := ia_n 1 (by first | decide | omega)
  try simp only [ia_lt, ia_le, ia_eq, ia_m1, ia_0, ia_1, ne_eq, true_and, and_true, false_and, and_false, or_false, false_or, or_true, true_or, not_true_eq_false, not_false_eq_true] at *
  all_goals omega
set_option maxRecDepth 20000 in
theorem lf_x_goP_130 (ksize : Nat) (kto : Nat) (ktapeF : Nat → Int32) (k5 : Nat) (n10 : Nat) (y18 : Int32) (r24 : Int32) (x46 : Int32) (k47 : Nat) (x48 : Int32) (n57 : Nat) (r60 : Int32) (r177 : Int32) (y185 : Int32) (iv_ko_1 : ksize ≤ 940) (iv_ko_3 : kto ≤ ksize) (j6 : k5 ≤ 940) (j7 : k5 ≤ ksize) (j8 : kto ≤ k5) (hm12 : 940 - k5 < n10 + 1) (c17 : k5 < ksize) (e19 : y18 = ktapeF k5) (p25 : r24 = nI 0 ∨ r24 = nI 1) (j50 : x46 = nI 0 ∨ x46 = nI 1) (j51 : k47 ≤ 941) (j52 : k47 ≤ ksize) (j53 : kto ≤ k47) (j54 : k5 ≤ k47) (j55 : (x46 = nI 0 ∨ r24 = nI 1) ∨ (0 ≤ x48.toInt ∧ x48.toInt ≤ 999 ∧ (k5 + 3 ≤ k47 ∨ x48.toInt ≤ 99) ∧ (k5 + 2 ≤ k47 ∨ x48.toInt ≤ 9) ∧ (k5 + 1 ≤ k47 ∨ x48.toInt ≤ 0))) (hm59 : 940 - k47 < n57 + 1) (p61 : (k47 < ksize ∧ r60 = ktapeF k47) ∨ (ksize ≤ k47 ∧ r60 = nI 0)) (t66 : ¬ (97 ≤ r60.toInt ∧ r60.toInt ≤ 122)) (p178 : (k47 < ksize ∧ r177 = ktapeF k47) ∨ (ksize ≤ k47 ∧ r177 = nI 0)) (t181 : 48 ≤ r177.toInt) (t182 : r177.toInt ≤ 57) (e186 : y185 = ktapeF k47) (c187 : ¬ x46 = 0) (t208 : 97 ≤ y185.toInt) (t209 : y185.toInt ≤ 122) (c211 : nI 1 = r24) (c237 : 3 ≤ (k47 - k5)) : k5 ≤ (k47 + 1) := by
  have b_y18 := ia_b y18
  have b_r24 := ia_b r24
  have b_x46 := ia_b x46
  have b_x48 := ia_b x48
  have b_r60 := ia_b r60
  have b_r177 := ia_b r177
  have b_y185 := ia_b y185
  try have k_0 := ia_n 0 (by first | decide | omega)
  try have k_1 := ia_n 1 (by first | decide | omega)
  try simp only [ia_lt, ia_le, ia_eq, ia_m1, ia_0, ia_1, ne_eq, true_and, and_true, false_and, and_false, or_false, false_or, or_true, true_or, not_true_eq_false, not_false_eq_true] at *
  all_goals omega
set_option maxRecDepth 20000 in
theorem lf_x_goP_131 (ksize : Nat) (kto : Nat) (ktapeF : Nat → Int32) (k5 : Nat) (n10 : Nat) (y18 : Int32) (r24 : Int32) (x46 : Int32) (k47 : Nat) (x48 : Int32) (n57 : Nat) (r60 : Int32) (r177 : Int32) (y185 : Int32) (iv_ko_1 : ksize ≤ 940) (iv_ko_3 : kto ≤ ksize) (j6 : k5 ≤ 940) (j7 : k5 ≤ ksize) (j8 : kto ≤ k5) (hm12 : 940 - k5 < n10 + 1) (c17 : k5 < ksize) (e19 : y18 = ktapeF k5) (p25 : r24 = nI 0 ∨ r24 = nI 1) (j50 : x46 = nI 0 ∨ x46 = nI 1) (j51 : k47 ≤ 941) (j52 : k47 ≤ ksize) (j53 : kto ≤ k47) (j54 : k5 ≤ k47) (j55 : (x46 = nI 0 ∨ r24 = nI 1) ∨ (0 ≤ x48.toInt ∧ x48.toInt ≤ 999 ∧ (k5 + 3 ≤ k47 ∨ x48.toInt ≤ 99) ∧ (k5 + 2 ≤ k47 ∨ x48.toInt ≤ 9) ∧ (k5 + 1 ≤ k47 ∨ x48.toInt ≤ 0))) (hm59 : 940 - k47 < n57 + 1) (p61 : (k47 < ksize ∧ r60 = ktapeF k47) ∨ (ksize ≤ k47 ∧ r60 = nI 0)) (t66 : ¬ (97 ≤ r60.toInt ∧ r60.toInt ≤ 122)) (p178 : (k47 < ksize ∧ r177 = ktapeF k47) ∨ (ksize ≤ k47 ∧ r177 = nI 0)) (t181 : 48 ≤ r177.toInt) (t182 : r177.toInt ≤ 57) (e186 : y185 = ktapeF k47) (c187 : ¬ x46 = 0) (t208 : 97 ≤ y185.toInt) (t209 : y185.toInt ≤ 122) (c211 : nI 1 = r24) (c237 : 3 ≤ (k47 - k5)) : ((nI 1) = nI 0 ∨ r24 = nI 1) ∨ (0 ≤ x48.toInt ∧ x48.toInt ≤ 999 ∧ (k5 + 3 ≤ (k47 + 1) ∨ x48.toInt ≤ 99) ∧ (k5 + 2 ≤ (k47 + 1) ∨ x48.toInt ≤ 9) ∧ (k5 + 1 ≤ (k47 + 1) ∨ x48.toInt ≤ 0)) := by
  have b_y18 := ia_b y18
  have b_r24 := ia_b r24
  have b_x46 := ia_b x46
  have b_x48 := ia_b x48
  have b_r60 := ia_b r60
  have b_r177 := ia_b r177
  have b_y185 := ia_b y185
  try have k_0 := ia_n 0 (by first | decide | omega)
  try have k_1 := ia_n 1 (by first | decide | omega)
  try simp only [ia_lt, ia_le, ia_eq, ia_m1, ia_0, ia_1, ne_eq, true_and, and_true, false_and, and_false, or_false, false_or, or_true, true_or, not_true_eq_false, not_false_eq_true] at *
  all_goals omega
set_option maxRecDepth 20000 in
theorem lf_x_goP_132 (ksize : Nat) (kto : Nat) (ktapeF : Nat → Int32) (k5 : Nat) (n10 : Nat) (y18 : Int32) (r24 : Int32) (x46 : Int32) (k47 : Nat) (x48 : Int32) (n57 : Nat) (r60 : Int32) (r177 : Int32) (y185 : Int32) (iv_ko_1 : ksize ≤ 940) (iv_ko_3 : kto ≤ ksize) (j6 : k5 ≤ 940) (j7 : k5 ≤ ksize) (j8 : kto ≤ k5) (hm12 : 940 - k5 < n10 + 1) (c17 : k5 < ksize) (e19 : y18 = ktapeF k5) (p25 : r24 = nI 0 ∨ r24 = nI 1) (j50 : x46 = nI 0 ∨ x46 = nI 1) (j51 : k47 ≤ 941) (j52 : k47 ≤ ksize) (j53 : kto ≤ k47) (j54 : k5 ≤ k47) (j55 : (x46 = nI 0 ∨ r24 = nI 1) ∨ (0 ≤ x48.toInt ∧ x48.toInt ≤ 999 ∧ (k5 + 3 ≤ k47 ∨ x48.toInt ≤ 99) ∧ (k5 + 2 ≤ k47 ∨ x48.toInt ≤ 9) ∧ (k5 + 1 ≤ k47 ∨ x48.toInt ≤ 0))) (hm59 : 940 - k47 < n57 + 1) (p61 : (k47 < ksize ∧ r60 = ktapeF k47) ∨ (ksize ≤ k47 ∧ r60 = nI 0)) (t66 : ¬ (97 ≤ r60.toInt ∧ r60.toInt ≤ 122)) (p178 : (k47 < ksize ∧ r177 = ktapeF k47) ∨ (ksize ≤ k47 ∧ r177 = nI 0)) (t181 : 48 ≤ r177.toInt) (t182 : r177.toInt ≤ 57) (e186 : y185 = ktapeF k47) (c187 : ¬ x46 = 0) (t208 : 97 ≤ y185.toInt) (t209 : y185.toInt ≤ 122) (c211 : nI 1 = r24) (c237 : 3 ≤ (k47 - k5)) : 940 - (k47 + 1) < n57 := by
  have b_y18 := ia_b y18
  have b_r24 := ia_b r24
  have b_x46 := ia_b x46
  have b_x48 := ia_b x48
  have b_r60 := ia_b r60
  have b_r177 := ia_b r177
  have b_y185 := ia_b y185
  try have k_0 := ia_n 0 (by first | decide | omega)
  try have k_1 := ia_n 1 (by first | decide | omega)
  try simp only [ia_lt, ia_le, ia_eq, ia_m1, ia_0, ia_1, ne_eq, true_and, and_true, false_and, and_false, or_false, false_or, or_true, true_or, not_true_eq_false, not_false_eq_true] at *
  all_goals omega
set_option maxRecDepth 20000 in
theorem lf_x_goP_133 (ksize : Nat) (kto : Nat) (ktapeF : Nat → Int32) (k5 : Nat) (n10 : Nat) (y18 : Int32) (r24 : Int32) (x46 : Int32) (k47 : Nat) (x48 : Int32) (n57 : Nat) (r60 : Int32) (r177 : Int32) (y185 : Int32) (y238 : Int32) (iv_ko_1 : ksize ≤ 940) (iv_ko_3 : kto ≤ ksize) (j6 : k5 ≤ 940) (j7 : k5 ≤ ksize) (j8 : kto ≤ k5) (hm12 : 940 - k5 < n10 + 1) (c17 : k5 < ksize) (e19 : y18 = ktapeF k5) (p25 : r24 = nI 0 ∨ r24 = nI 1) (j50 : x46 = nI 0 ∨ x46 = nI 1) (j51 : k47 ≤ 941) (j52 : k47 ≤ ksize) (j53 : kto ≤ k47) (j54 : k5 ≤ k47) (j55 : (x46 = nI 0 ∨ r24 = nI 1) ∨ (0 ≤ x48.toInt ∧ x48.toInt ≤ 999 ∧ (k5 + 3 ≤ k47 ∨ x48.toInt ≤ 99) ∧ (k5 + 2 ≤ k47 ∨ x48.toInt ≤ 9) ∧ (k5 + 1 ≤ k47 ∨ x48.toInt ≤ 0))) (hm59 : 940 - k47 < n57 + 1) (p61 : (k47 < ksize ∧ r60 = ktapeF k47) ∨ (ksize ≤ k47 ∧ r60 = nI 0)) (t66 : ¬ (97 ≤ r60.toInt ∧ r60.toInt ≤ 122)) (p178 : (k47 < ksize ∧ r177 = ktapeF k47) ∨ (ksize ≤ k47 ∧ r177 = nI 0)) (t181 : 48 ≤ r177.toInt) (t182 : r177.toInt ≤ 57) (e186 : y185 = ktapeF k47) (c187 : ¬ x46 = 0) (t208 : 97 ≤ y185.toInt) (t209 : y185.toInt ≤ 122) (c211 : nI 1 = r24) (c237 : (k47 - k5) < 3) (e239 : y238 = (nI 10) * x48) : 0 ≤ y185.toInt ∧ y185.toInt < ((123 : Nat) : Int) := by
  have b_y18 := ia_b y18
  have b_r24 := ia_b r24
  have b_x46 := ia_b x46
  have b_x48 := ia_b x48
  have b_r60 := ia_b r60
  have b_r177 := ia_b r177
  have b_y185 := ia_b y185
  have b_y238 := ia_b y238
  try have k_0 := ia_n 0 (by first | decide | omega)
  try have k_1 := ia_n 1 (by first | decide | omega)
  try have k_2 := ia_n 10 (by first | decide | omega)
  try simp only [ia_lt, ia_le, ia_eq, ia_m1, ia_0, ia_1, ne_eq, true_and, and_true, false_and, and_false, or_false, false_or, or_true, true_or, not_true_eq_false, not_false_eq_true] at *
  all_goals omega
set_option maxRecDepth 20000 in
theorem lf_x_goP_134 (ksize : Nat) (kto : Nat) (ktapeF : Nat → Int32) (k5 : Nat) (n10 : Nat) (y18 : Int32) (r24 : Int32) (x46 : Int32) (k47 : Nat) (x48 : Int32) (n57 : Nat) (r60 : Int32) (r177 : Int32) (y185 : Int32) (y238 : Int32) (n240 : Nat) (iv_ko_1 : ksize ≤ 940) (iv_ko_3 : kto ≤ ksize) (j6 : k5 ≤ 940) (j7 : k5 ≤ ksize) (j8 : kto ≤ k5) (hm12 : 940 - k5 < n10 + 1) (c17 : k5 < ksize) (e19 : y18 = ktapeF k5) (p25 : r24 = nI 0 ∨ r24 = nI 1) (j50 : x46 = nI 0 ∨ x46 = nI 1) (j51 : k47 ≤ 941) (j52 : k47 ≤ ksize) (j53 : kto ≤ k47) (j54 : k5 ≤ k47) (j55 : (x46 = nI 0 ∨ r24 = nI 1) ∨ (0 ≤ x48.toInt ∧ x48.toInt ≤ 999 ∧ (k5 + 3 ≤ k47 ∨ x48.toInt ≤ 99) ∧ (k5 + 2 ≤ k47 ∨ x48.toInt ≤ 9) ∧ (k5 + 1 ≤ k47 ∨ x48.toInt ≤ 0))) (hm59 : 940 - k47 < n57 + 1) (p61 : (k47 < ksize ∧ r60 = ktapeF k47) ∨ (ksize ≤ k47 ∧ r60 = nI 0)) (t66 : ¬ (97 ≤ r60.toInt ∧ r60.toInt ≤ 122)) (p178 : (k47 < ksize ∧ r177 = ktapeF k47) ∨ (ksize ≤ k47 ∧ r177 = nI 0)) (t181 : 48 ≤ r177.toInt) (t182 : r177.toInt ≤ 57) (e186 : y185 = ktapeF k47) (c187 : ¬ x46 = 0) (t208 : 97 ≤ y185.toInt) (t209 : y185.toInt ≤ 122) (c211 : nI 1 = r24) (c237 : (k47 - k5) < 3) (e239 : y238 = (nI 10) * x48) (h241 : n240 < 123) (e242 : y185 = nI n240) : 97 ≤ n240 := by
  have b_y18 := ia_b y18
  have b_r24 := ia_b r24
  have b_x46 := ia_b x46
  have b_x48 := ia_b x48
  have b_r60 := ia_b r60
  have b_r177 := ia_b r177
  have b_y185 := ia_b y185
  have b_y238 := ia_b y238
  try have k_0 := ia_n 0 (by first | decide | omega)
  try have k_1 := ia_n 1 (by first | decide | omega)
  try have k_2 := ia_n 10 (by first | decide | omega)
  try have k_3 := ia_n n240 (by first | decide | omega)
  try simp only [ia_lt, ia_le, ia_eq, ia_m1, ia_0, ia_1, ne_eq, true_and, and_true, false_and, and_false, or_false, false_or, or_true, true_or, not_true_eq_false, not_false_eq_true] at *
  all_goals omega
set_option maxRecDepth 20000 in
theorem lf_x_goP_135   : (nI 1) = nI 0 ∨ (nI 1) = nI 1 := by
  try have k_0 := ia_n 1 (by first | decide | omega)
  try have k_1 := ia_n 0 (by first | decide | omega)
  try simp only [ia_lt, ia_le, ia_eq, ia_m1, ia_0, ia_1, ne_eq, true_and, and_true, false_and, and_false, or_false, false_or, or_true, true_or, not_true_eq_false, not_false_eq_true] at *
  all_goals omega
set_option maxRecDepth 20000 in
theorem lf_x_goP_136 (ksize : Nat) (kto : Nat) (ktapeF : Nat → Int32) (k5 : Nat) (n10 : Nat) (y18 : Int32) (r24 : Int32) (x46 : Int32) (k47 : Nat) (x48 : Int32) (n57 : Nat) (r60 : Int32) (r177 : Int32) (y185 : Int32) (y238 : Int32) (n240 : Nat) (y244 : Int32) (y246 : Int32) (iv_ko_1 : ksize ≤ 940) (iv_ko_3 : kto ≤ ksize) (j6 : k5 ≤ 940) (j7 : k5 ≤ ksize) (j8 : kto ≤ k5) (hm12 : 940 - k5 < n10 + 1) (c17 : k5 < ksize) (e19 : y18 = ktapeF k5) (p25 : r24 = nI 0 ∨ r24 = nI 1) (j50 : x46 = nI 0 ∨ x46 = nI 1) (j51 : k47 ≤ 941) (j52 : k47 ≤ ksize) (j53 : kto ≤ k47) (j54 : k5 ≤ k47) (j55 : (x46 = nI 0 ∨ r24 = nI 1) ∨ (0 ≤ x48.toInt ∧ x48.toInt ≤ 999 ∧ (k5 + 3 ≤ k47 ∨ x48.toInt ≤ 99) ∧ (k5 + 2 ≤ k47 ∨ x48.toInt ≤ 9) ∧ (k5 + 1 ≤ k47 ∨ x48.toInt ≤ 0))) (hm59 : 940 - k47 < n57 + 1) (p61 : (k47 < ksize ∧ r60 = ktapeF k47) ∨ (ksize ≤ k47 ∧ r60 = nI 0)) (t66 : ¬ (97 ≤ r60.toInt ∧ r60.toInt ≤ 122)) (p178 : (k47 < ksize ∧ r177 = ktapeF k47) ∨ (ksize ≤ k47 ∧ r177 = nI 0)) (t181 : 48 ≤ r177.toInt) (t182 : r177.toInt ≤ 57) (e186 : y185 = ktapeF k47) (c187 : ¬ x46 = 0) (t208 : 97 ≤ y185.toInt) (t209 : y185.toInt ≤ 122) (c211 : nI 1 = r24) (c237 : (k47 - k5) < 3) (e239 : y238 = (nI 10) * x48) (h241 : n240 < 123) (e242 : y185 = nI n240) (f243 : 97 ≤ n240) (e245 : y244 = y238 + (nI n240)) (e247 : y246 = y244 - (nI 48)) : (k47 + 1) ≤ 941 := by
  have b_y18 := ia_b y18
  have b_r24 := ia_b r24
  have b_x46 := ia_b x46
  have b_x48 := ia_b x48
  have b_r60 := ia_b r60
  have b_r177 := ia_b r177
  have b_y185 := ia_b y185
  have b_y238 := ia_b y238
  have b_y244 := ia_b y244
  have b_y246 := ia_b y246
  try have k_0 := ia_n 0 (by first | decide | omega)
  try have k_1 := ia_n 1 (by first | decide | omega)
  try have k_2 := ia_n 10 (by first | decide | omega)
  try have k_3 := ia_n n240 (by first | decide | omega)
  try have k_4 := ia_n 48 (by first | decide | omega)
  try simp only [ia_lt, ia_le, ia_eq, ia_m1, ia_0, ia_1, ne_eq, true_and, and_true, false_and, and_false, or_false, false_or, or_true, true_or, not_true_eq_false, not_false_eq_true] at *
  all_goals omega
set_option maxRecDepth 20000 in
theorem lf_x_goP_137 (ksize : Nat) (kto : Nat) (ktapeF : Nat → Int32) (k5 : Nat) (n10 : Nat) (y18 : Int32) (r24 : Int32) (x46 : Int32) (k47 : Nat) (x48 : Int32) (n57 : Nat) (r60 : Int32) (r177 : Int32) (y185 : Int32) (y238 : Int32) (n240 : Nat) (y244 : Int32) (y246 : Int32) (iv_ko_1 : ksize ≤ 940) (iv_ko_3 : kto ≤ ksize) (j6 : k5 ≤ 940) (j7 : k5 ≤ ksize) (j8 : kto ≤ k5) (hm12 : 940 - k5 < n10 + 1) (c17 : k5 < ksize) (e19 : y18 = ktapeF k5) (p25 : r24 = nI 0 ∨ r24 = nI 1) (j50 : x46 = nI 0 ∨ x46 = nI 1) (j51 : k47 ≤ 941) (j52 : k47 ≤ ksize) (j53 : kto ≤ k47) (j54 : k5 ≤ k47) (j55 : (x46 = nI 0 ∨ r24 = nI 1) ∨ (0 ≤ x48.toInt ∧ x48.toInt ≤ 999 ∧ (k5 + 3 ≤ k47 ∨ x48.toInt ≤ 99) ∧ (k5 + 2 ≤ k47 ∨ x48.toInt ≤ 9) ∧ (k5 + 1 ≤ k47 ∨ x48.toInt ≤ 0))) (hm59 : 940 - k47 < n57 + 1) (p61 : (k47 < ksize ∧ r60 = ktapeF k47) ∨ (ksize ≤ k47 ∧ r60 = nI 0)) (t66 : ¬ (97 ≤ r60.toInt ∧ r60.toInt ≤ 122)) (p178 : (k47 < ksize ∧ r177 = ktapeF k47) ∨ (ksize ≤ k47 ∧ r177 = nI 0)) (t181 : 48 ≤ r177.toInt) (t182 : r177.toInt ≤ 57) (e186 : y185 = ktapeF k47) (c187 : ¬ x46 = 0) (t208 : 97 ≤ y185.toInt) (t209 : y185.toInt ≤ 122) (c211 : nI 1 = r24) (c237 : (k47 - k5) < 3) (e239 : y238 = (nI 10) * x48) (h241 : n240 < 123) (e242 : y185 = nI n240) (f243 : 97 ≤ n240) (e245 : y244 = y238 + (nI n240)) (e247 : y246 = y244 - (nI 48)) : (k47 + 1) ≤ ksize := by
  have b_y18 := ia_b y18
  have b_r24 := ia_b r24
  have b_x46 := ia_b x46
  have b_x48 := ia_b x48
  have b_r60 := ia_b r60
  have b_r177 := ia_b r177
  have b_y185 := ia_b y185
  have b_y238 := ia_b y238
  have b_y244 := ia_b y244
  have b_y246 := ia_b y246
  try have k_0 := ia_n 0 (by first | decide | omega)
  try have k_1 := ia_n 1 (by first | decide | omega)
  try have k_2 := ia_n 10 (by first | decide | omega)
  try have k_3 := ia_n n240 (by first | decide | omega)
  try have k_4 := ia_n 48 (by first | decide | omega)
  try simp only [ia_lt, ia_le, ia_eq, ia_m1, ia_0, ia_1, ne_eq, true_and, and_true, false_and, and_false, or_false, false_or, or_true, true_or, not_true_eq_false, not_false_eq_true] at *
  all_goals omega
set_option maxRecDepth 20000 in
theorem lf_x_goP_138 (ksize : Nat) (kto : Nat) (ktapeF : Nat → Int32) (k5 : Nat) (n10 : Nat) (y18 : Int32) (r24 : Int32) (x46 : Int32) (k47 : Nat) (x48 : Int32) (n57 : Nat) (r60 : Int32) (r177 : Int32) (y185 : Int32) (y238 : Int32) (n240 : Nat) (y244 : Int32) (y246 : Int32) (iv_ko_1 : ksize ≤ 940) (iv_ko_3 : kto ≤ ksize) (j6 : k5 ≤ 940) (j7 : k5 ≤ ksize) (j8 : kto ≤ k5) (hm12 : 940 - k5 < n10 + 1) (c17 : k5 < ksize) (e19 : y18 = ktapeF k5) (p25 : r24 = nI 0 ∨ r24 = nI 1) (j50 : x46 = nI 0 ∨ x46 = nI 1) (j51 : k47 ≤ 941) (j52 : k47 ≤ ksize) (j53 : kto ≤ k47) (j54 : k5 ≤ k47) (j55 : (x46 = nI 0 ∨ r24 = nI 1) ∨ (0 ≤ x48.toInt ∧ x48.toInt ≤ 999 ∧ (k5 + 3 ≤ k47 ∨ x48.toInt ≤ 99) ∧ (k5 + 2 ≤ k47 ∨ x48.toInt ≤ 9) ∧ (k5 + 1 ≤ k47 ∨ x48.toInt ≤ 0))) (hm59 : 940 - k47 < n57 + 1) (p61 : (k47 < ksize ∧ r60 = ktapeF k47) ∨ (ksize ≤ k47 ∧ r60 = nI 0)) (t66 : ¬ (97 ≤ r60.toInt ∧ r60.toInt ≤ 122)) (p178 : (k47 < ksize ∧ r177 = ktapeF k47) ∨ (ksize ≤ k47 ∧ r177 = nI 0)) (t181 : 48 ≤ r177.toInt) (t182 : r177.toInt ≤ 57) (e186 : y185 = ktapeF k47) (c187 : ¬ x46 = 0) (t208 : 97 ≤ y185.toInt) (t209 : y185.toInt ≤ 122) (c211 : nI 1 = r24) (c237 : (k47 - k5) < 3) (e239 : y238 = (nI 10) * x48) (h241 : n240 < 123) (e242 : y185 = nI n240) (f243 : 97 ≤ n240) (e245 : y244 = y238 + (nI n240)) (e247 : y246 = y244 - (nI 48)) : kto ≤ (k47 + 1) := by
  have b_y18 := ia_b y18
  have b_r24 := ia_b r24
  have b_x46 := ia_b x46
  have b_x48 := ia_b x48
  have b_r60 := ia_b r60
  have b_r177 := ia_b r177
  have b_y185 := ia_b y185
  have b_y238 := ia_b y238
  have b_y244 := ia_b y244
  have b_y246 := ia_b y246
  try have k_0 := ia_n 0 (by first | decide | omega)
  try have k_1 := ia_n 1 (by first | decide | omega)
  try have k_2 := ia_n 10 (by first | decide | omega)
  try have k_3 := ia_n n240 (by first | decide | omega)
  try have k_4 := ia_n 48 (by first | decide | omega)
  try simp only [ia_lt, ia_le, ia_eq, ia_m1, ia_0, ia_1, ne_eq, true_and, and_true, false_and, and_false, or_false, false_or, or_true, true_or, not_true_eq_false, not_false_eq_true] at *
  all_goals omega
set_option maxRecDepth 20000 in
theorem lf_x_goP_139 (ksize : Nat) (kto : Nat) (ktapeF : Nat → Int32) (k5 : Nat) (n10 : Nat) (y18 : Int32) (r24 : Int32) (x46 : Int32) (k47 : Nat) (x48 : Int32) (n57 : Nat) (r60 : Int32) (r177 : Int32) (y185 : Int32) (y238 : Int32) (n240 : Nat) (y244 : Int32) (y246 : Int32) (iv_ko_1 : ksize ≤ 940) (iv_ko_3 : kto ≤ ksize) (j6 : k5 ≤ 940) (j7 : k5 ≤ ksize) (j8 : kto ≤ k5) (hm12 : 940 - k5 < n10 + 1) (c17 : k5 < ksize) (e19 : y18 = ktapeF k5) (p25 : r24 = nI 0 ∨ r24 = nI 1) (j50 : x46 = nI 0 ∨ x46 = nI 1) (j51 : k47 ≤ 941) (j52 : k47 ≤ ksize) (j53 : kto ≤ k47) (j54 : k5 ≤ k47) (j55 : (x46 = nI 0 ∨ r24 = nI 1) ∨ (0 ≤ x48.toInt ∧ x48.toInt ≤ 999 ∧ (k5 + 3 ≤ k47 ∨ x48.toInt ≤ 99) ∧ (k5 + 2 ≤ k47 ∨ x48.toInt ≤ 9) ∧ (k5 + 1 ≤ k47 ∨ x48.toInt ≤ 0))) (hm59 : 940 - k47 < n57 + 1) (p61 : (k47 < ksize ∧ r60 = ktapeF k47) ∨ (ksize ≤ k47 ∧ r60 = nI 0)) (t66 : ¬ (97 ≤ r60.toInt ∧ r60.toInt ≤ 122)) (p178 : (k47 < ksize ∧ r177 = ktapeF k47) ∨ (ksize ≤ k47 ∧ r177 = nI 0)) (t181 : 48 ≤ r177.toInt) (t182 : r177.toInt ≤ 57) (e186 : y185 = ktapeF k47) (c187 : ¬ x46 = 0) (t208 : 97 ≤ y185.toInt) (t209 : y185.toInt ≤ 122) (c211 : nI 1 = r24) (c237 : (k47 - k5) < 3) (e239 : y238 = (nI 10) * x48) (h241 : n240 < 123) (e242 : y185 = nI n240) (f243 : 97 ≤ n240) (e245 : y244 = y238 + (nI n240)) (e247 : y246 = y244 - (nI 48)) : k5 ≤ (k47 + 1) := by
  have b_y18 := ia_b y18
  have b_r24 := ia_b r24
  have b_x46 := ia_b x46
  have b_x48 := ia_b x48
  have b_r60 := ia_b r60
  have b_r177 := ia_b r177
  have b_y185 := ia_b y185
  have b_y238 := ia_b y238
  have b_y244 := ia_b y244
  have b_y246 := ia_b y246
  try have k_0 := ia_n 0 (by first | decide | omega)
  try have k_1 := ia_n 1 (by first | decide | omega)
  try have k_2 := ia_n 10 (by first | decide | omega)
  try have k_3 := ia_n n240 (by first | decide | omega)
  try have k_4 := ia_n 48 (by first | decide | omega)
  try simp only [ia_lt, ia_le, ia_eq, ia_m1, ia_0, ia_1, ne_eq, true_and, and_true, false_and, and_false, or_false, false_or, or_true, true_or, not_true_eq_false, not_false_eq_true] at *
  all_goals omega
set_option maxRecDepth 20000 in
theorem lf_x_goP_140 (ksize : Nat) (kto : Nat) (ktapeF : Nat → Int32) (k5 : Nat) (n10 : Nat) (y18 : Int32) (r24 : Int32) (x46 : Int32) (k47 : Nat) (x48 : Int32) (n57 : Nat) (r60 : Int32) (r177 : Int32) (y185 : Int32) (y238 : Int32) (n240 : Nat) (y244 : Int32) (y246 : Int32) (iv_ko_1 : ksize ≤ 940) (iv_ko_3 : kto ≤ ksize) (j6 : k5 ≤ 940) (j7 : k5 ≤ ksize) (j8 : kto ≤ k5) (hm12 : 940 - k5 < n10 + 1) (c17 : k5 < ksize) (e19 : y18 = ktapeF k5) (p25 : r24 = nI 0 ∨ r24 = nI 1) (j50 : x46 = nI 0 ∨ x46 = nI 1) (j51 : k47 ≤ 941) (j52 : k47 ≤ ksize) (j53 : kto ≤ k47) (j54 : k5 ≤ k47) (j55 : (x46 = nI 0 ∨ r24 = nI 1) ∨ (0 ≤ x48.toInt ∧ x48.toInt ≤ 999 ∧ (k5 + 3 ≤ k47 ∨ x48.toInt ≤ 99) ∧ (k5 + 2 ≤ k47 ∨ x48.toInt ≤ 9) ∧ (k5 + 1 ≤ k47 ∨ x48.toInt ≤ 0))) (hm59 : 940 - k47 < n57 + 1) (p61 : (k47 < ksize ∧ r60 = ktapeF k47) ∨ (ksize ≤ k47 ∧ r60 = nI 0)) (t66 : ¬ (97 ≤ r60.toInt ∧ r60.toInt ≤ 122)) (p178 : (k47 < ksize ∧ r177 = ktapeF k47) ∨ (ksize ≤ k47 ∧ r177 = nI 0)) (t181 : 48 ≤ r177.toInt) (t182 : r177.toInt ≤ 57) (e186 : y185 = ktapeF k47) (c187 : ¬ x46 = 0) (t208 : 97 ≤ y185.toInt) (t209 : y185.toInt ≤ 122) (c211 : nI 1 = r24) (c237 : (k47 - k5) < 3) (e239 : y238 = (nI 10) * x48) (h241 : n240 < 123) (e242 : y185 = nI n240) (f243 : 97 ≤ n240) (e245 : y244 = y238 + (nI n240)) (e247 : y246 = y244 - (nI 48)) : ((nI 1) = nI 0 ∨ r24 = nI 1) ∨ (0 ≤ y246.toInt ∧ y246.toInt ≤ 999 ∧ (k5 + 3 ≤ (k47 + 1) ∨ y246.toInt ≤ 99) ∧ (k5 + 2 ≤ (k47 + 1) ∨ y246.toInt ≤ 9) ∧ (k5 + 1 ≤ (k47 + 1) ∨ y246.toInt ≤ 0)) := by
  have b_y18 := ia_b y18
  have b_r24 := ia_b r24
  have b_x46 := ia_b x46
  have b_x48 := ia_b x48
  have b_r60 := ia_b r60
  have b_r177 := ia_b r177
  have b_y185 := ia_b y185
  have b_y238 := ia_b y238
  have b_y244 := ia_b y244
  have b_y246 := ia_b y246
  try have k_0 := ia_n 0 (by first | decide | omega)
  try have k_1 := ia_n 1 (by first | decide | omega)
  try have k_2 := ia_n 10 (by first | decide | omega)
  try have k_3 := ia_n n240 (by first | decide | omega)
  try have k_4 := ia_n 48 (by first | decide | omega)
  try simp only [ia_lt, ia_le, ia_eq, ia_m1, ia_0, ia_1, ne_eq, true_and, and_true, false_and, and_false, or_false, false_or, or_true, true_or, not_true_eq_false, not_false_eq_true] at *
  all_goals omega
set_option maxRecDepth 20000 in
theorem lf_x_goP_141 (ksize : Nat) (kto : Nat) (ktapeF : Nat → Int32) (k5 : Nat) (n10 : Nat) (y18 : Int32) (r24 : Int32) (x46 : Int32) (k47 : Nat) (x48 : Int32) (n57 : Nat) (r60 : Int32) (r177 : Int32) (y185 : Int32) (y238 : Int32) (n240 : Nat) (y244 : Int32) (y246 : Int32) (iv_ko_1 : ksize ≤ 940) (iv_ko_3 : kto ≤ ksize) (j6 : k5 ≤ 940) (j7 : k5 ≤ ksize) (j8 : kto ≤ k5) (hm12 : 940 - k5 < n10 + 1) (c17 : k5 < ksize) (e19 : y18 = ktapeF k5) (p25 : r24 = nI 0 ∨ r24 = nI 1) (j50 : x46 = nI 0 ∨ x46 = nI 1) (j51 : k47 ≤ 941) (j52 : k47 ≤ ksize) (j53 : kto ≤ k47) (j54 : k5 ≤ k47) (j55 : (x46 = nI 0 ∨ r24 = nI 1) ∨ (0 ≤ x48.toInt ∧ x48.toInt ≤ 999 ∧ (k5 + 3 ≤ k47 ∨ x48.toInt ≤ 99) ∧ (k5 + 2 ≤ k47 ∨ x48.toInt ≤ 9) ∧ (k5 + 1 ≤ k47 ∨ x48.toInt ≤ 0))) (hm59 : 940 - k47 < n57 + 1) (p61 : (k47 < ksize ∧ r60 = ktapeF k47) ∨ (ksize ≤ k47 ∧ r60 = nI 0)) (t66 : ¬ (97 ≤ r60.toInt ∧ r60.toInt ≤ 122)) (p178 : (k47 < ksize ∧ r177 = ktapeF k47) ∨ (ksize ≤ k47 ∧ r177 = nI 0)) (t181 : 48 ≤ r177.toInt) (t182 : r177.toInt ≤ 57) (e186 : y185 = ktapeF k47) (c187 : ¬ x46 = 0) (t208 : 97 ≤ y185.toInt) (t209 : y185.toInt ≤ 122) (c211 : nI 1 = r24) (c237 : (k47 - k5) < 3) (e239 : y238 = (nI 10) * x48) (h241 : n240 < 123) (e242 : y185 = nI n240) (f243 : 97 ≤ n240) (e245 : y244 = y238 + (nI n240)) (e247 : y246 = y244 - (nI 48)) : 940 - (k47 + 1) < n57 := by
  have b_y18 := ia_b y18
  have b_r24 := ia_b r24
  have b_x46 := ia_b x46
  have b_x48 := ia_b x48
  have b_r60 := ia_b r60
  have b_r177 := ia_b r177
  have b_y185 := ia_b y185
  have b_y238 := ia_b y238
  have b_y244 := ia_b y244
  have b_y246 := ia_b y246
  try have k_0 := ia_n 0 (by first | decide | omega)
  try have k_1 := ia_n 1 (by first | decide | omega)
  try have k_2 := ia_n 10 (by first | decide | omega)
  try have k_3 := ia_n n240 (by first | decide | omega)
  try have k_4 := ia_n 48 (by first | decide | omega)
  try simp only [ia_lt, ia_le, ia_eq, ia_m1, ia_0, ia_1, ne_eq, true_and, and_true, false_and, and_false, or_false, false_or, or_true, true_or, not_true_eq_false, not_false_eq_true] at *
  all_goals omega
set_option maxRecDepth 20000 in
theorem lf_x_goP_142 (ksize : Nat) (kto : Nat) (ktapeF : Nat → Int32) (k5 : Nat) (n10 : Nat) (y18 : Int32) (r24 : Int32) (x46 : Int32) (k47 : Nat) (x48 : Int32) (n57 : Nat) (r60 : Int32) (r177 : Int32) (y185 : Int32) (iv_ko_1 : ksize ≤ 940) (iv_ko_3 : kto ≤ ksize) (j6 : k5 ≤ 940) (j7 : k5 ≤ ksize) (j8 : kto ≤ k5) (hm12 : 940 - k5 < n10 + 1) (c17 : k5 < ksize) (e19 : y18 = ktapeF k5) (p25 : r24 = nI 0 ∨ r24 = nI 1) (j50 : x46 = nI 0 ∨ x46 = nI 1) (j51 : k47 ≤ 941) (j52 : k47 ≤ ksize) (j53 : kto ≤ k47) (j54 : k5 ≤ k47) (j55 : (x46 = nI 0 ∨ r24 = nI 1) ∨ (0 ≤ x48.toInt ∧ x48.toInt ≤ 999 ∧ (k5 + 3 ≤ k47 ∨ x48.toInt ≤ 99) ∧ (k5 + 2 ≤ k47 ∨ x48.toInt ≤ 9) ∧ (k5 + 1 ≤ k47 ∨ x48.toInt ≤ 0))) (hm59 : 940 - k47 < n57 + 1) (p61 : (k47 < ksize ∧ r60 = ktapeF k47) ∨ (ksize ≤ k47 ∧ r60 = nI 0)) (t66 : ¬ (97 ≤ r60.toInt ∧ r60.toInt ≤ 122)) (p178 : (k47 < ksize ∧ r177 = ktapeF k47) ∨ (ksize ≤ k47 ∧ r177 = nI 0)) (t181 : 48 ≤ r177.toInt) (t182 : r177.toInt ≤ 57) (e186 : y185 = ktapeF k47) (c187 : ¬ x46 = 0) (t210 : ¬ (97 ≤ y185.toInt ∧ y185.toInt ≤ 122)) (c256 : nI 0 ≠ r24) : k5 ≤ k47 := by
  have b_y18 := ia_b y18
  have b_r24 := ia_b r24
  have b_x46 := ia_b x46
  have b_x48 := ia_b x48
  have b_r60 := ia_b r60
  have b_r177 := ia_b r177
  have b_y185 := ia_b y185
  try have k_0 := ia_n 0 (by first | decide | omega)
  try have k_1 := ia_n 1 (by first | decide | omega)
  try simp only [ia_lt, ia_le, ia_eq, ia_m1, ia_0, ia_1, ne_eq, true_and, and_true, false_and, and_false, or_false, false_or, or_true, true_or, not_true_eq_false, not_false_eq_true] at *
  all_goals omega
set_option maxRecDepth 20000 in
theorem lf_x_goP_143 (ksize : Nat) (kto : Nat) (ktapeF : Nat → Int32) (k5 : Nat) (n10 : Nat) (y18 : Int32) (r24 : Int32) (x46 : Int32) (k47 : Nat) (x48 : Int32) (n57 : Nat) (r60 : Int32) (r177 : Int32) (y185 : Int32) (iv_ko_1 : ksize ≤ 940) (iv_ko_3 : kto ≤ ksize) (j6 : k5 ≤ 940) (j7 : k5 ≤ ksize) (j8 : kto ≤ k5) (hm12 : 940 - k5 < n10 + 1) (c17 : k5 < ksize) (e19 : y18 = ktapeF k5) (p25 : r24 = nI 0 ∨ r24 = nI 1) (j50 : x46 = nI 0 ∨ x46 = nI 1) (j51 : k47 ≤ 941) (j52 : k47 ≤ ksize) (j53 : kto ≤ k47) (j54 : k5 ≤ k47) (j55 : (x46 = nI 0 ∨ r24 = nI 1) ∨ (0 ≤ x48.toInt ∧ x48.toInt ≤ 999 ∧ (k5 + 3 ≤ k47 ∨ x48.toInt ≤ 99) ∧ (k5 + 2 ≤ k47 ∨ x48.toInt ≤ 9) ∧ (k5 + 1 ≤ k47 ∨ x48.toInt ≤ 0))) (hm59 : 940 - k47 < n57 + 1) (p61 : (k47 < ksize ∧ r60 = ktapeF k47) ∨ (ksize ≤ k47 ∧ r60 = nI 0)) (t66 : ¬ (97 ≤ r60.toInt ∧ r60.toInt ≤ 122)) (p178 : (k47 < ksize ∧ r177 = ktapeF k47) ∨ (ksize ≤ k47 ∧ r177 = nI 0)) (t181 : 48 ≤ r177.toInt) (t182 : r177.toInt ≤ 57) (e186 : y185 = ktapeF k47) (c187 : ¬ x46 = 0) (t210 : ¬ (97 ≤ y185.toInt ∧ y185.toInt ≤ 122)) (c256 : nI 0 ≠ r24) : k5 ≤ k47 := by
  have b_y18 := ia_b y18
  have b_r24 := ia_b r24
  have b_x46 := ia_b x46
  have b_x48 := ia_b x48
  have b_r60 := ia_b r60
  have b_r177 := ia_b r177
  have b_y185 := ia_b y185
  try have k_0 := ia_n 0 (by first | decide | omega)
  try have k_1 := ia_n 1 (by first | decide | omega)
  try simp only [ia_lt, ia_le, ia_eq, ia_m1, ia_0, ia_1, ne_eq, true_and, and_true, false_and, and_false, or_false, false_or, or_true, true_or, not_true_eq_false, not_false_eq_true] at *
  all_goals omega
set_option maxRecDepth 20000 in
theorem lf_x_goP_144   : (nI 0) = nI 0 ∨ (nI 0) = nI 1 := by
  try have k_0 := ia_n 0 (by first | decide | omega)
  try have k_1 := ia_n 1 (by first | decide | omega)
  try simp only [ia_lt, ia_le, ia_eq, ia_m1, ia_0, ia_1, ne_eq, true_and, and_true, false_and, and_false, or_false, false_or, or_true, true_or, not_true_eq_false, not_false_eq_true] at *
  all_goals omega
set_option maxRecDepth 20000 in
theorem lf_x_goP_145 (ksize : Nat) (kto : Nat) (ktapeF : Nat → Int32) (k5 : Nat) (n10 : Nat) (y18 : Int32) (r24 : Int32) (x46 : Int32) (k47 : Nat) (x48 : Int32) (n57 : Nat) (r60 : Int32) (r177 : Int32) (y185 : Int32) (iv_ko_1 : ksize ≤ 940) (iv_ko_3 : kto ≤ ksize) (j6 : k5 ≤ 940) (j7 : k5 ≤ ksize) (j8 : kto ≤ k5) (hm12 : 940 - k5 < n10 + 1) (c17 : k5 < ksize) (e19 : y18 = ktapeF k5) (p25 : r24 = nI 0 ∨ r24 = nI 1) (j50 : x46 = nI 0 ∨ x46 = nI 1) (j51 : k47 ≤ 941) (j52 : k47 ≤ ksize) (j53 : kto ≤ k47) (j54 : k5 ≤ k47) (j55 : (x46 = nI 0 ∨ r24 = nI 1) ∨ (0 ≤ x48.toInt ∧ x48.toInt ≤ 999 ∧ (k5 + 3 ≤ k47 ∨ x48.toInt ≤ 99) ∧ (k5 + 2 ≤ k47 ∨ x48.toInt ≤ 9) ∧ (k5 + 1 ≤ k47 ∨ x48.toInt ≤ 0))) (hm59 : 940 - k47 < n57 + 1) (p61 : (k47 < ksize ∧ r60 = ktapeF k47) ∨ (ksize ≤ k47 ∧ r60 = nI 0)) (t66 : ¬ (97 ≤ r60.toInt ∧ r60.toInt ≤ 122)) (p178 : (k47 < ksize ∧ r177 = ktapeF k47) ∨ (ksize ≤ k47 ∧ r177 = nI 0)) (t181 : 48 ≤ r177.toInt) (t182 : r177.toInt ≤ 57) (e186 : y185 = ktapeF k47) (c187 : ¬ x46 = 0) (t210 : ¬ (97 ≤ y185.toInt ∧ y185.toInt ≤ 122)) (c256 : nI 0 ≠ r24) (c260 : 3 ≤ (k47 - k5)) : (k47 + 1) ≤ 941 := by
  have b_y18 := ia_b y18
  have b_r24 := ia_b r24
  have b_x46 := ia_b x46
  have b_x48 := ia_b x48
  have b_r60 := ia_b r60
  have b_r177 := ia_b r177
  have b_y185 := ia_b y185
  try have k_0 := ia_n 0 (by first | decide | omega)
  try have k_1 := ia_n 1 (by first | decide | omega)
  try simp only [ia_lt, ia_le, ia_eq, ia_m1, ia_0, ia_1, ne_eq, true_and, and_true, false_and, and_false, or_false, false_or, or_true, true_or, not_true_eq_false, not_false_eq_true] at *
  all_goals omega
set_option maxRecDepth 20000 in
theorem lf_x_goP_146 (ksize : Nat) (kto : Nat) (ktapeF : Nat → Int32) (k5 : Nat) (n10 : Nat) (y18 : Int32) (r24 : Int32) (x46 : Int32) (k47 : Nat) (x48 : Int32) (n57 : Nat) (r60 : Int32) (r177 : Int32) (y185 : Int32) (iv_ko_1 : ksize ≤ 940) (iv_ko_3 : kto ≤ ksize) (j6 : k5 ≤ 940) (j7 : k5 ≤ ksize) (j8 : kto ≤ k5) (hm12 : 940 - k5 < n10 + 1) (c17 : k5 < ksize) (e19 : y18 = ktapeF k5) (p25 : r24 = nI 0 ∨ r24 = nI 1) (j50 : x46 = nI 0 ∨ x46 = nI 1) (j51 : k47 ≤ 941) (j52 : k47 ≤ ksize) (j53 : kto ≤ k47) (j54 : k5 ≤ k47) (j55 : (x46 = nI 0 ∨ r24 = nI 1) ∨ (0 ≤ x48.toInt ∧ x48.toInt ≤ 999 ∧ (k5 + 3 ≤ k47 ∨ x48.toInt ≤ 99) ∧ (k5 + 2 ≤ k47 ∨ x48.toInt ≤ 9) ∧ (k5 + 1 ≤ k47 ∨ x48.toInt ≤ 0))) (hm59 : 940 - k47 < n57 + 1) (p61 : (k47 < ksize ∧ r60 = ktapeF k47) ∨ (ksize ≤ k47 ∧ r60 = nI 0)) (t66 : ¬ (97 ≤ r60.toInt ∧ r60.toInt ≤ 122)) (p178 : (k47 < ksize ∧ r177 = ktapeF k47) ∨ (ksize ≤ k47 ∧ r177 = nI 0)) (t181 : 48 ≤ r177.toInt) (t182 : r177.toInt ≤ 57) (e186 : y185 = ktapeF k47) (c187 : ¬ x46 = 0) (t210 : ¬ (97 ≤ y185.toInt ∧ y185.toInt ≤ 122)) (c256 : nI 0 ≠ r24) (c260 : 3 ≤ (k47 - k5)) : (k47 + 1) ≤ ksize := by
  have b_y18 := ia_b y18
  have b_r24 := ia_b r24
  have b_x46 := ia_b x46
  have b_x48 := ia_b x48
  have b_r60 := ia_b r60
  have b_r177 := ia_b r177
  have b_y185 := ia_b y185
  try have k_0 := ia_n 0 (by first | decide | omega)
  try have k_1 := ia_n 1 (by first | decide | omega)
  try simp only [ia_lt, ia_le, ia_eq, ia_m1, ia_0, ia_1, ne_eq, true_and, and_true, false_and, and_false, or_false, false_or, or_true, true_or, not_true_eq_false, not_false_eq_true] at *
  all_goals omega
set_option maxRecDepth 20000 in
theorem lf_x_goP_147 (ksize : Nat) (kto : Nat) (ktapeF : Nat → Int32) (k5 : Nat) (n10 : Nat) (y18 : Int32) (r24 : Int32) (x46 : Int32) (k47 : Nat) (x48 : Int32) (n57 : Nat) (r60 : Int32) (r177 : Int32) (y185 : Int32) (iv_ko_1 : ksize ≤ 940) (iv_ko_3 : kto ≤ ksize) (j6 : k5 ≤ 940) (j7 : k5 ≤ ksize) (j8 : kto ≤ k5) (hm12 : 940 - k5 < n10 + 1) (c17 : k5 < ksize) (e19 : y18 = ktapeF k5) (p25 : r24 = nI 0 ∨ r24 = nI 1) (j50 : x46 = nI 0 ∨ x46 = nI 1) (j51 : k47 ≤ 941) (j52 : k47 ≤ ksize) (j53 : kto ≤ k47) (j54 : k5 ≤ k47) (j55 : (x46 = nI 0 ∨ r24 = nI 1) ∨ (0 ≤ x48.toInt ∧ x48.toInt ≤ 999 ∧ (k5 + 3 ≤ k47 ∨ x48.toInt ≤ 99) ∧ (k5 + 2 ≤ k47 ∨ x48.toInt ≤ 9) ∧ (k5 + 1 ≤ k47 ∨ x48.toInt ≤ 0))) (hm59 : 940 - k47 < n57 + 1) (p61 : (k47 < ksize ∧ r60 = ktapeF k47) ∨ (ksize ≤ k47 ∧ r60 = nI 0)) (t66 : ¬ (97 ≤ r60.toInt ∧ r60.toInt ≤ 122)) (p178 : (k47 < ksize ∧ r177 = ktapeF k47) ∨ (ksize ≤ k47 ∧ r177 = nI 0)) (t181 : 48 ≤ r177.toInt) (t182 : r177.toInt ≤ 57) (e186 : y185 = ktapeF k47) (c187 : ¬ x46 = 0) (t210 : ¬ (97 ≤ y185.toInt ∧ y185.toInt ≤ 122)) (c256 : nI 0 ≠ r24) (c260 : 3 ≤ (k47 - k5)) : kto ≤ (k47 + 1) := by
  have b_y18 := ia_b y18
  have b_r24 := ia_b r24
  have b_x46 := ia_b x46
  have b_x48 := ia_b x48
  have b_r60 := ia_b r60
  have b_r177 := ia_b r177
  have b_y185 := ia_b y185
  try have k_0 := ia_n 0 (by first | decide | omega)
  try have k_1 := ia_n 1 (by first | decide | omega)
  try simp only [ia_lt, ia_le, ia_eq, ia_m1, ia_0, ia_1, ne_eq, true_and, and_true, false_and, and_false, or_false, false_or, or_true, true_or, not_true_eq_false, not_false_eq_true] at *
  all_goals omega
set_option maxRecDepth 20000 in
theorem lf_x_goP_148 (ksize : Nat) (kto : Nat) (ktapeF : Nat → Int32) (k5 : Nat) (n10 : Nat) (y18 : Int32) (r24 : Int32) (x46 : Int32) (k47 : Nat) (x48 : Int32) (n57 : Nat) (r60 : Int32) (r177 : Int32) (y185 : Int32) (iv_ko_1 : ksize ≤ 940) (iv_ko_3 : kto ≤ ksize) (j6 : k5 ≤ 940) (j7 : k5 ≤ ksize) (j8 : kto ≤ k5) (hm12 : 940 - k5 < n10 + 1) (c17 : k5 < ksize) (e19 : y18 = ktapeF k5) (p25 : r24 = nI 0 ∨ r24 = nI 1) (j50 : x46 = nI 0 ∨ x46 = nI 1) (j51 : k47 ≤ 941) (j52 : k47 ≤ ksize) (j53 : kto ≤ k47) (j54 : k5 ≤ k47) (j55 : (x46 = nI 0 ∨ r24 = nI 1) ∨ (0 ≤ x48.toInt ∧ x48.toInt ≤ 999 ∧ (k5 + 3 ≤ k47 ∨ x48.toInt ≤ 99) ∧ (k5 + 2 ≤ k47 ∨ x48.toInt ≤ 9) ∧ (k5 + 1 ≤ k47 ∨ x48.toInt ≤ 0))) (hm59 : 940 - k47 < n57 + 1) (p61 : (k47 < ksize ∧ r60 = ktapeF k47) ∨ (ksize ≤ k47 ∧ r60 = nI 0)) (t66 : ¬ (97 ≤ r60.toInt ∧ r60.toInt ≤ 122)) (p178 : (k47 < ksize ∧ r177 = ktapeF k47) ∨ (ksize ≤ k47 ∧ r177 = nI 0)) (t181 : 48 ≤ r177.toInt) (t182 : r177.toInt ≤ 57) (e186 : y185 = ktapeF k47) (c187 : ¬ x46 = 0) (t210 : ¬ (97 ≤ y185.toInt ∧ y185.toInt ≤ 122)) (c256 : nI 0 ≠ r24) (c260 : 3 ≤ (k47 - k5)) : k5 ≤ (k47 + 1) := by
  have b_y18 := ia_b y18
  have b_r24 := ia_b r24
  have b_x46 := ia_b x46
  have b_x48 := ia_b x48
  have b_r60 := ia_b r60
  have b_r177 := ia_b r177
  have b_y185 := ia_b y185
  try have k_0 := ia_n 0 (by first | decide | omega)
  try have k_1 := ia_n 1 (by first | decide | omega)
  try simp only [ia_lt, ia_le, ia_eq, ia_m1, ia_0, ia_1, ne_eq, true_and, and_true, false_and, and_false, or_false, false_or, or_true, true_or, not_true_eq_false, not_false_eq_true] at *
  all_goals omega
set_option maxRecDepth 20000 in
theorem lf_x_goP_149 (ksize : Nat) (kto : Nat) (ktapeF : Nat → Int32) (k5 : Nat) (n10 : Nat) (y18 : Int32) (r24 : Int32) (x46 : Int32) (k47 : Nat) (x48 : Int32) (n57 : Nat) (r60 : Int32) (r177 : Int32) (y185 : Int32) (iv_ko_1 : ksize ≤ 940) (iv_ko_3 : kto ≤ ksize) (j6 : k5 ≤ 940) (j7 : k5 ≤ ksize) (j8 : kto ≤ k5) (hm12 : 940 - k5 < n10 + 1) (c17 : k5 < ksize) (e19 : y18 = ktapeF k5) (p25 : r24 = nI 0 ∨ r24 = nI 1) (j50 : x46 = nI 0 ∨ x46 = nI 1) (j51 : k47 ≤ 941) (j52 : k47 ≤ ksize) (j53 : kto ≤ k47) (j54 : k5 ≤ k47) (j55 : (x46 = nI 0 ∨ r24 = nI 1) ∨ (0 ≤ x48.toInt ∧ x48.toInt ≤ 999 ∧ (k5 + 3 ≤ k47 ∨ x48.toInt ≤ 99) ∧ (k5 + 2 ≤ k47 ∨ x48.toInt ≤ 9) ∧ (k5 + 1 ≤ k47 ∨ x48.toInt ≤ 0))) (hm59 : 940 - k47 < n57 + 1) (p61 : (k47 < ksize ∧ r60 = ktapeF k47) ∨ (ksize ≤ k47 ∧ r60 = nI 0)) (t66 : ¬ (97 ≤ r60.toInt ∧ r60.toInt ≤ 122)) (p178 : (k47 < ksize ∧ r177 = ktapeF k47) ∨ (ksize ≤ k47 ∧ r177 = nI 0)) (t181 : 48 ≤ r177.toInt) (t182 : r177.toInt ≤ 57) (e186 : y185 = ktapeF k47) (c187 : ¬ x46 = 0) (t210 : ¬ (97 ≤ y185.toInt ∧ y185.toInt ≤ 122)) (c256 : nI 0 ≠ r24) (c260 : 3 ≤ (k47 - k5)) : ((nI 0) = nI 0 ∨ r24 = nI 1) ∨ (0 ≤ x48.toInt ∧ x48.toInt ≤ 999 ∧ (k5 + 3 ≤ (k47 + 1) ∨ x48.toInt ≤ 99) ∧ (k5 + 2 ≤ (k47 + 1) ∨ x48.toInt ≤ 9) ∧ (k5 + 1 ≤ (k47 + 1) ∨ x48.toInt ≤ 0)) := by
  have b_y18 := ia_b y18
  have b_r24 := ia_b r24
  have b_x46 := ia_b x46
  have b_x48 := ia_b x48
  have b_r60 := ia_b r60
  have b_r177 := ia_b r177
  have b_y185 := ia_b y185
  try have k_0 := ia_n 0 (by first | decide | omega)
  try have k_1 := ia_n 1 (by first | decide | omega)
  try simp only [ia_lt, ia_le, ia_eq, ia_m1, ia_0, ia_1, ne_eq, true_and, and_true, false_and, and_false, or_false, false_or, or_true, true_or, not_true_eq_false, not_false_eq_true] at *
  all_goals omega
set_option maxRecDepth 20000 in
theorem lf_x_goP_150 (ksize : Nat) (kto : Nat) (ktapeF : Nat → Int32) (k5 : Nat) (n10 : Nat) (y18 : Int32) (r24 : Int32) (x46 : Int32) (k47 : Nat) (x48 : Int32) (n57 : Nat) (r60 : Int32) (r177 : Int32) (y185 : Int32) (iv_ko_1 : ksize ≤ 940) (iv_ko_3 : kto ≤ ksize) (j6 : k5 ≤ 940) (j7 : k5 ≤ ksize) (j8 : kto ≤ k5) (hm12 : 940 - k5 < n10 + 1) (c17 : k5 < ksize) (e19 : y18 = ktapeF k5) (p25 : r24 = nI 0 ∨ r24 = nI 1) (j50 : x46 = nI 0 ∨ x46 = nI 1) (j51 : k47 ≤ 941) (j52 : k47 ≤ ksize) (j53 : kto ≤ k47) (j54 : k5 ≤ k47) (j55 : (x46 = nI 0 ∨ r24 = nI 1) ∨ (0 ≤ x48.toInt ∧ x48.toInt ≤ 999 ∧ (k5 + 3 ≤ k47 ∨ x48.toInt ≤ 99) ∧ (k5 + 2 ≤ k47 ∨ x48.toInt ≤ 9) ∧ (k5 + 1 ≤ k47 ∨ x48.toInt ≤ 0))) (hm59 : 940 - k47 < n57 + 1) (p61 : (k47 < ksize ∧ r60 = ktapeF k47) ∨ (ksize ≤ k47 ∧ r60 = nI 0)) (t66 : ¬ (97 ≤ r60.toInt ∧ r60.toInt ≤ 122)) (p178 : (k47 < ksize ∧ r177 = ktapeF k47) ∨ (ksize ≤ k47 ∧ r177 = nI 0)) (t181 : 48 ≤ r177.toInt) (t182 : r177.toInt ≤ 57) (e186 : y185 = ktapeF k47) (c187 : ¬ x46 = 0) (t210 : ¬ (97 ≤ y185.toInt ∧ y185.toInt ≤ 122)) (c256 : nI 0 ≠ r24) (c260 : 3 ≤ (k47 - k5)) : 940 - (k47 + 1) < n57 := by
  have b_y18 := ia_b y18
  have b_r24 := ia_b r24
  have b_x46 := ia_b x46
  have b_x48 := ia_b x48
  have b_r60 := ia_b r60
  have b_r177 := ia_b r177
  have b_y185 := ia_b y185
  try have k_0 := ia_n 0 (by first | decide | omega)
  try have k_1 := ia_n 1 (by first | decide | omega)
  try simp only [ia_lt, ia_le, ia_eq, ia_m1, ia_0, ia_1, ne_eq, true_and, and_true, false_and, and_false, or_false, false_or, or_true, true_or, not_true_eq_false, not_false_eq_true] at *
  all_goals omega
set_option maxRecDepth 20000 in
theorem lf_x_goP_151   : (nI 0) = nI 0 ∨ (nI 0) = nI 1 := by
  try have k_0 := ia_n 0 (by first | decide | omega)
  try have k_1 := ia_n 1 (by first | decide | omega)
  try simp only [ia_lt, ia_le, ia_eq, ia_m1, ia_0, ia_1, ne_eq, true_and, and_true, false_and, and_false, or_false, false_or, or_true, true_or, not_true_eq_false, not_false_eq_true] at *
  all_goals omega
set_option maxRecDepth 20000 in
theorem lf_x_goP_152 (ksize : Nat) (kto : Nat) (ktapeF : Nat → Int32) (k5 : Nat) (n10 : Nat) (y18 : Int32) (r24 : Int32) (x46 : Int32) (k47 : Nat) (x48 : Int32) (n57 : Nat) (r60 : Int32) (r177 : Int32) (y185 : Int32) (y261 : Int32) (y263 : Int32) (y265 : Int32) (iv_ko_1 : ksize ≤ 940) (iv_ko_3 : kto ≤ ksize) (j6 : k5 ≤ 940) (j7 : k5 ≤ ksize) (j8 : kto ≤ k5) (hm12 : 940 - k5 < n10 + 1) (c17 : k5 < ksize) (e19 : y18 = ktapeF k5) (p25 : r24 = nI 0 ∨ r24 = nI 1) (j50 : x46 = nI 0 ∨ x46 = nI 1) (j51 : k47 ≤ 941) (j52 : k47 ≤ ksize) (j53 : kto ≤ k47) (j54 : k5 ≤ k47) (j55 : (x46 = nI 0 ∨ r24 = nI 1) ∨ (0 ≤ x48.toInt ∧ x48.toInt ≤ 999 ∧ (k5 + 3 ≤ k47 ∨ x48.toInt ≤ 99) ∧ (k5 + 2 ≤ k47 ∨ x48.toInt ≤ 9) ∧ (k5 + 1 ≤ k47 ∨ x48.toInt ≤ 0))) (hm59 : 940 - k47 < n57 + 1) (p61 : (k47 < ksize ∧ r60 = ktapeF k47) ∨ (ksize ≤ k47 ∧ r60 = nI 0)) (t66 : ¬ (97 ≤ r60.toInt ∧ r60.toInt ≤ 122)) (p178 : (k47 < ksize ∧ r177 = ktapeF k47) ∨ (ksize ≤ k47 ∧ r177 = nI 0)) (t181 : 48 ≤ r177.toInt) (t182 : r177.toInt ≤ 57) (e186 : y185 = ktapeF k47) (c187 : ¬ x46 = 0) (t210 : ¬ (97 ≤ y185.toInt ∧ y185.toInt ≤ 122)) (c256 : nI 0 ≠ r24) (c260 : (k47 - k5) < 3) (e262 : y261 = (nI 10) * x48) (e264 : y263 = y261 + y185) (e266 : y265 = y263 - (nI 48)) : (k47 + 1) ≤ 941 := by
  have b_y18 := ia_b y18
  have b_r24 := ia_b r24
  have b_x46 := ia_b x46
  have b_x48 := ia_b x48
  have b_r60 := ia_b r60
  have b_r177 := ia_b r177
  have b_y185 := ia_b y185
  have b_y261 := ia_b y261
  have b_y263 := ia_b y263
  have b_y265 := ia_b y265
  try have k_0 := ia_n 0 (by first | decide | omega)
  try have k_1 := ia_n 1 (by first | decide | omega)
  try have k_2 := ia_n 10 (by first | decide | omega)
  try have k_3 := ia_n 48 (by first | decide | omega)
  try simp only [ia_lt, ia_le, ia_eq, ia_m1, ia_0, ia_1, ne_eq, true_and, and_true, false_and, and_false, or_false, false_or, or_true, true_or, not_true_eq_false, not_false_eq_true] at *
  all_goals omega
set_option maxRecDepth 20000 in
theorem lf_x_goP_153 (ksize : Nat) (kto : Nat) (ktapeF : Nat → Int32) (k5 : Nat) (n10 : Nat) (y18 : Int32) (r24 : Int32) (x46 : Int32) (k47 : Nat) (x48 : Int32) (n57 : Nat) (r60 : Int32) (r177 : Int32) (y185 : Int32) (y261 : Int32) (y263 : Int32) (y265 : Int32) (iv_ko_1 : ksize ≤ 940) (iv_ko_3 : kto ≤ ksize) (j6 : k5 ≤ 940) (j7 : k5 ≤ ksize) (j8 : kto ≤ k5) (hm12 : 940 - k5 < n10 + 1) (c17 : k5 < ksize) (e19 : y18 = ktapeF k5) (p25 : r24 = nI 0 ∨ r24 = nI 1) (j50 : x46 = nI 0 ∨ x46 = nI 1) (j51 : k47 ≤ 941) (j52 : k47 ≤ ksize) (j53 : kto ≤ k47) (j54 : k5 ≤ k47) (j55 : (x46 = nI 0 ∨ r24 = nI 1) ∨ (0 ≤ x48.toInt ∧ x48.toInt ≤ 999 ∧ (k5 + 3 ≤ k47 ∨ x48.toInt ≤ 99) ∧ (k5 + 2 ≤ k47 ∨ x48.toInt ≤ 9) ∧ (k5 + 1 ≤ k47 ∨ x48.toInt ≤ 0))) (hm59 : 940 - k47 < n57 + 1) (p61 : (k47 < ksize ∧ r60 = ktapeF k47) ∨ (ksize ≤ k47 ∧ r60 = nI 0)) (t66 : ¬ (97 ≤ r60.toInt ∧ r60.toInt ≤ 122)) (p178 : (k47 < ksize ∧ r177 = ktapeF k47) ∨ (ksize ≤ k47 ∧ r177 = nI 0)) (t181 : 48 ≤ r177.toInt) (t182 : r177.toInt ≤ 57) (e186 : y185 = ktapeF k47) (c187 : ¬ x46 = 0) (t210 : ¬ (97 ≤ y185.toInt ∧ y185.toInt ≤ 122)) (c256 : nI 0 ≠ r24) (c260 : (k47 - k5) < 3) (e262 : y261 = (nI 10) * x48) (e264 : y263 = y261 + y185) (e266 : y265 = y263 - (nI 48)) : (k47 + 1) ≤ ksize := by
  have b_y18 := ia_b y18
  have b_r24 := ia_b r24
  have b_x46 := ia_b x46
  have b_x48 := ia_b x48
  have b_r60 := ia_b r60
  have b_r177 := ia_b r177
  have b_y185 := ia_b y185
  have b_y261 := ia_b y261
  have b_y263 := ia_b y263
  have b_y265 := ia_b y265
  try have k_0 := ia_n 0 (by first | decide | omega)
  try have k_1 := ia_n 1 (by first | decide | omega)
  try have k_2 := ia_n 10 (by first | decide | omega)
  try have k_3 := ia_n 48 (by first | decide | omega)
  try simp only [ia_lt, ia_le, ia_eq, ia_m1, ia_0, ia_1, ne_eq, true_and, and_true, false_and, and_false, or_false, false_or, or_true, true_or, not_true_eq_false, not_false_eq_true] at *
  all_goals omega
set_option maxRecDepth 20000 in
theorem lf_x_goP_154 (ksize : Nat) (kto : Nat) (ktapeF : Nat → Int32) (k5 : Nat) (n10 : Nat) (y18 : Int32) (r24 : Int32) (x46 : Int32) (k47 : Nat) (x48 : Int32) (n57 : Nat) (r60 : Int32) (r177 : Int32) (y185 : Int32) (y261 : Int32) (y263 : Int32) (y265 : Int32) (iv_ko_1 : ksize ≤ 940) (iv_ko_3 : kto ≤ ksize) (j6 : k5 ≤ 940) (j7 : k5 ≤ ksize) (j8 : kto ≤ k5) (hm12 : 940 - k5 < n10 + 1) (c17 : k5 < ksize) (e19 : y18 = ktapeF k5) (p25 : r24 = nI 0 ∨ r24 = nI 1) (j50 : x46 = nI 0 ∨ x46 = nI 1) (j51 : k47 ≤ 941) (j52 : k47 ≤ ksize) (j53 : kto ≤ k47) (j54 : k5 ≤ k47) (j55 : (x46 = nI 0 ∨ r24 = nI 1) ∨ (0 ≤ x48.toInt ∧ x48.toInt ≤ 999 ∧ (k5 + 3 ≤ k47 ∨ x48.toInt ≤ 99) ∧ (k5 + 2 ≤ k47 ∨ x48.toInt ≤ 9) ∧ (k5 + 1 ≤ k47 ∨ x48.toInt ≤ 0))) (hm59 : 940 - k47 < n57 + 1) (p61 : (k47 < ksize ∧ r60 = ktapeF k47) ∨ (ksize ≤ k47 ∧ r60 = nI 0)) (t66 : ¬ (97 ≤ r60.toInt ∧ r60.toInt ≤ 122)) (p178 : (k47 < ksize ∧ r177 = ktapeF k47) ∨ (ksize ≤ k47 ∧ r177 = nI 0)) (t181 : 48 ≤ r177.toInt) (t182 : r177.toInt ≤ 57) (e186 : y185 = ktapeF k47) (c187 : ¬ x46 = 0) (t210 : ¬ (97 ≤ y185.toInt ∧ y185.toInt ≤ 122)) (c256 : nI 0 ≠ r24) (c260 : (k47 - k5) < 3) (e262 : y261 = (nI 10) * x48) (e264 : y263 = y261 + y185) (e266 : y265 = y263 - (nI 48)) : kto ≤ (k47 + 1) := by
  have b_y18 := ia_b y18
  have b_r24 := ia_b r24
  have b_x46 := ia_b x46
  have b_x48 := ia_b x48
  have b_r60 := ia_b r60
  have b_r177 := ia_b r177
  have b_y185 := ia_b y185
  have b_y261 := ia_b y261
  have b_y263 := ia_b y263
  have b_y265 := ia_b y265
  try have k_0 := ia_n 0 (by first | decide | omega)
  try have k_1 := ia_n 1 (by first | decide | omega)
  try have k_2 := ia_n 10 (by first | decide | omega)
  try have k_3 := ia_n 48 (by first | decide | omega)
  try simp only [ia_lt, ia_le, ia_eq, ia_m1, ia_0, ia_1, ne_eq, true_and, and_true, false_and, and_false, or_false, false_or, or_true, true_or, not_true_eq_false, not_false_eq_true] at *
  all_goals omega
set_option maxRecDepth 20000 in
theorem lf_x_goP_155 (ksize : Nat) (kto : Nat) (ktapeF : Nat → Int32) (k5 : Nat) (n10 : Nat) (y18 : Int32) (r24 : Int32) (x46 : Int32) (k47 : Nat) (x48 : Int32) (n57 : Nat) (r60 : Int32) (r177 : Int32) (y185 : Int32) (y261 : Int32) (y263 : Int32) (y265 : Int32) (iv_ko_1 : ksize ≤ 940) (iv_ko_3 : kto ≤ ksize) (j6 : k5 ≤ 940) (j7 : k5 ≤ ksize) (j8 : kto ≤ k5) (hm12 : 940 - k5 < n10 + 1) (c17 : k5 < ksize) (e19 : y18 = ktapeF k5) (p25 : r24 = nI 0 ∨ r24 = nI 1) (j50 : x46 = nI 0 ∨ x46 = nI 1) (j51 : k47 ≤ 941) (j52 : k47 ≤ ksize) (j53 : kto ≤ k47) (j54 : k5 ≤ k47) (j55 : (x46 = nI 0 ∨ r24 = nI 1) ∨ (0 ≤ x48.toInt ∧ x48.toInt ≤ 999 ∧ (k5 + 3 ≤ k47 ∨ x48.toInt ≤ 99) ∧ (k5 + 2 ≤ k47 ∨ x48.toInt ≤ 9) ∧ (k5 + 1 ≤ k47 ∨ x48.toInt ≤ 0))) (hm59 : 940 - k47 < n57 + 1) (p61 : (k47 < ksize ∧ r60 = ktapeF k47) ∨ (ksize ≤ k47 ∧ r60 = nI 0)) (t66 : ¬ (97 ≤ r60.toInt ∧ r60.toInt ≤ 122)) (p178 : (k47 < ksize ∧ r177 = ktapeF k47) ∨ (ksize ≤ k47 ∧ r177 = nI 0)) (t181 : 48 ≤ r177.toInt) (t182 : r177.toInt ≤ 57) (e186 : y185 = ktapeF k47) (c187 : ¬ x46 = 0) (t210 : ¬ (97 ≤ y185.toInt ∧ y185.toInt ≤ 122)) (c256 : nI 0 ≠ r24) (c260 : (k47 - k5) < 3) (e262 : y261 = (nI 10) * x48) (e264 : y263 = y261 + y185) (e266 : y265 = y263 - (nI 48)) : k5 ≤ (k47 + 1) := by
  have b_y18 := ia_b y18
  have b_r24 := ia_b r24
  have b_x46 := ia_b x46
  have b_x48 := ia_b x48
  have b_r60 := ia_b r60
  have b_r177 := ia_b r177
  have b_y185 := ia_b y185
  have b_y261 := ia_b y261
  have b_y263 := ia_b y263
  have b_y265 := ia_b y265
  try have k_0 := ia_n 0 (by first | decide | omega)
  try have k_1 := ia_n 1 (by first | decide | omega)
  try have k_2 := ia_n 10 (by first | decide | omega)
  try have k_3 := ia_n 48 (by first | decide | omega)
  try simp only [ia_lt, ia_le, ia_eq, ia_m1, ia_0, ia_1, ne_eq, true_and, and_true, false_and, and_false, or_false, false_or, or_true, true_or, not_true_eq_false, not_false_eq_true] at *
  all_goals omega
set_option maxRecDepth 20000 in
theorem lf_x_goP_156 (ksize : Nat) (kto : Nat) (ktapeF : Nat → Int32) (k5 : Nat) (n10 : Nat) (y18 : Int32) (r24 : Int32) (x46 : Int32) (k47 : Nat) (x48 : Int32) (n57 : Nat) (r60 : Int32) (r177 : Int32) (y185 : Int32) (y261 : Int32) (y263 : Int32) (y265 : Int32) (iv_ko_1 : ksize ≤ 940) (iv_ko_3 : kto ≤ ksize) (j6 : k5 ≤ 940) (j7 : k5 ≤ ksize) (j8 : kto ≤ k5) (hm12 : 940 - k5 < n10 + 1) (c17 : k5 < ksize) (e19 : y18 = ktapeF k5) (p25 : r24 = nI 0 ∨ r24 = nI 1) (j50 : x46 = nI 0 ∨ x46 = nI 1) (j51 : k47 ≤ 941) (j52 : k47 ≤ ksize) (j53 : kto ≤ k47) (j54 : k5 ≤ k47) (j55 : (x46 = nI 0 ∨ r24 = nI 1) ∨ (0 ≤ x48.toInt ∧ x48.toInt ≤ 999 ∧ (k5 + 3 ≤ k47 ∨ x48.toInt ≤ 99) ∧ (k5 + 2 ≤ k47 ∨ x48.toInt ≤ 9) ∧ (k5 + 1 ≤ k47 ∨ x48.toInt ≤ 0))) (hm59 : 940 - k47 < n57 + 1) (p61 : (k47 < ksize ∧ r60 = ktapeF k47) ∨ (ksize ≤ k47 ∧ r60 = nI 0)) (t66 : ¬ (97 ≤ r60.toInt ∧ r60.toInt ≤ 122)) (p178 : (k47 < ksize ∧ r177 = ktapeF k47) ∨ (ksize ≤ k47 ∧ r177 = nI 0)) (t181 : 48 ≤ r177.toInt) (t182 : r177.toInt ≤ 57) (e186 : y185 = ktapeF k47) (c187 : ¬ x46 = 0) (t210 : ¬ (97 ≤ y185.toInt ∧ y185.toInt ≤ 122)) (c256 : nI 0 ≠ r24) (c260 : (k47 - k5) < 3) (e262 : y261 = (nI 10) * x48) (e264 : y263 = y261 + y185) (e266 : y265 = y263 - (nI 48)) : ((nI 0) = nI 0 ∨ r24 = nI 1) ∨ (0 ≤ y265.toInt ∧ y265.toInt ≤ 999 ∧ (k5 + 3 ≤ (k47 + 1) ∨ y265.toInt ≤ 99) ∧ (k5 + 2 ≤ (k47 + 1) ∨ y265.toInt ≤ 9) ∧ (k5 + 1 ≤ (k47 + 1) ∨ y265.toInt ≤ 0)) := by
  have b_y18 := ia_b y18
  have b_r24 := ia_b r24
  have b_x46 := ia_b x46
  have b_x48 := ia_b x48
  have b_r60 := ia_b r60
  have b_r177 := ia_b r177
  have b_y185 := ia_b y185
  have b_y261 := ia_b y261
  have b_y263 := ia_b y263
  have b_y265 := ia_b y265
  try have k_0 := ia_n 0 (by first | decide | omega)
  try have k_1 := ia_n 1 (by first | decide | omega)
  try have k_2 := ia_n 10 (by first | decide | omega)
  try have k_3 := ia_n 48 (by first | decide | omega)
  have h9 := ten_step x48 y185
  rw [← e262, ← e264, ← e266] at h9
  clear e266 e264 e262
  try simp only [ia_lt, ia_le, ia_eq, ia_m1, ia_0, ia_1, ne_eq, true_and, and_true, false_and, and_false, or_false, false_or, or_true, true_or, not_true_eq_false, not_false_eq_true] at *
  all_goals omega
set_option maxRecDepth 20000 in
theorem lf_x_goP_157 (ksize : Nat) (kto : Nat) (ktapeF : Nat → Int32) (k5 : Nat) (n10 : Nat) (y18 : Int32) (r24 : Int32) (x46 : Int32) (k47 : Nat) (x48 : Int32) (n57 : Nat) (r60 : Int32) (r177 : Int32) (y185 : Int32) (y261 : Int32) (y263 : Int32) (y265 : Int32) (iv_ko_1 : ksize ≤ 940) (iv_ko_3 : kto ≤ ksize) (j6 : k5 ≤ 940) (j7 : k5 ≤ ksize) (j8 : kto ≤ k5) (hm12 : 940 - k5 < n10 + 1) (c17 : k5 < ksize) (e19 : y18 = ktapeF k5) (p25 : r24 = nI 0 ∨ r24 = nI 1) (j50 : x46 = nI 0 ∨ x46 = nI 1) (j51 : k47 ≤ 941) (j52 : k47 ≤ ksize) (j53 : kto ≤ k47) (j54 : k5 ≤ k47) (j55 : (x46 = nI 0 ∨ r24 = nI 1) ∨ (0 ≤ x48.toInt ∧ x48.toInt ≤ 999 ∧ (k5 + 3 ≤ k47 ∨ x48.toInt ≤ 99) ∧ (k5 + 2 ≤ k47 ∨ x48.toInt ≤ 9) ∧ (k5 + 1 ≤ k47 ∨ x48.toInt ≤ 0))) (hm59 : 940 - k47 < n57 + 1) (p61 : (k47 < ksize ∧ r60 = ktapeF k47) ∨ (ksize ≤ k47 ∧ r60 = nI 0)) (t66 : ¬ (97 ≤ r60.toInt ∧ r60.toInt ≤ 122)) (p178 : (k47 < ksize ∧ r177 = ktapeF k47) ∨ (ksize ≤ k47 ∧ r177 = nI 0)) (t181 : 48 ≤ r177.toInt) (t182 : r177.toInt ≤ 57) (e186 : y185 = ktapeF k47) (c187 : ¬ x46 = 0) (t210 : ¬ (97 ≤ y185.toInt ∧ y185.toInt ≤ 122)) (c256 : nI 0 ≠ r24) (c260 : (k47 - k5) < 3) (e262 : y261 = (nI 10) * x48) (e264 : y263 = y261 + y185) (e266 : y265 = y263 - (nI 48)) : 940 - (k47 + 1) < n57 := by
  have b_y18 := ia_b y18
  have b_r24 := ia_b r24
  have b_x46 := ia_b x46
  have b_x48 := ia_b x48
  have b_r60 := ia_b r60
  have b_r177 := ia_b r177
  have b_y185 := ia_b y185
  have b_y261 := ia_b y261
  have b_y263 := ia_b y263
  have b_y265 := ia_b y265
  try have k_0 := ia_n 0 (by first | decide | omega)
  try have k_1 := ia_n 1 (by first | decide | omega)
  try have k_2 := ia_n 10 (by first | decide | omega)
  try have k_3 := ia_n 48 (by first | decide | omega)
  try simp only [ia_lt, ia_le, ia_eq, ia_m1, ia_0, ia_1, ne_eq, true_and, and_true, false_and, and_false, or_false, false_or, or_true, true_or, not_true_eq_false, not_false_eq_true] at *
  all_goals omega
set_option maxRecDepth 20000 in
theorem lf_x_goP_158 (ksize : Nat) (kto : Nat) (ktapeF : Nat → Int32) (k5 : Nat) (n10 : Nat) (y18 : Int32) (r24 : Int32) (x46 : Int32) (k47 : Nat) (x48 : Int32) (n57 : Nat) (r60 : Int32) (r177 : Int32) (y185 : Int32) (iv_ko_1 : ksize ≤ 940) (iv_ko_3 : kto ≤ ksize) (j6 : k5 ≤ 940) (j7 : k5 ≤ ksize) (j8 : kto ≤ k5) (hm12 : 940 - k5 < n10 + 1) (c17 : k5 < ksize) (e19 : y18 = ktapeF k5) (p25 : r24 = nI 0 ∨ r24 = nI 1) (j50 : x46 = nI 0 ∨ x46 = nI 1) (j51 : k47 ≤ 941) (j52 : k47 ≤ ksize) (j53 : kto ≤ k47) (j54 : k5 ≤ k47) (j55 : (x46 = nI 0 ∨ r24 = nI 1) ∨ (0 ≤ x48.toInt ∧ x48.toInt ≤ 999 ∧ (k5 + 3 ≤ k47 ∨ x48.toInt ≤ 99) ∧ (k5 + 2 ≤ k47 ∨ x48.toInt ≤ 9) ∧ (k5 + 1 ≤ k47 ∨ x48.toInt ≤ 0))) (hm59 : 940 - k47 < n57 + 1) (p61 : (k47 < ksize ∧ r60 = ktapeF k47) ∨ (ksize ≤ k47 ∧ r60 = nI 0)) (t66 : ¬ (97 ≤ r60.toInt ∧ r60.toInt ≤ 122)) (p178 : (k47 < ksize ∧ r177 = ktapeF k47) ∨ (ksize ≤ k47 ∧ r177 = nI 0)) (t181 : 48 ≤ r177.toInt) (t182 : r177.toInt ≤ 57) (e186 : y185 = ktapeF k47) (c187 : ¬ x46 = 0) (t210 : ¬ (97 ≤ y185.toInt ∧ y185.toInt ≤ 122)) (c256 : nI 0 = r24) : k5 ≤ k47 := by
  have b_y18 := ia_b y18
  have b_r24 := ia_b r24
  have b_x46 := ia_b x46
  have b_x48 := ia_b x48
  have b_r60 := ia_b r60
  have b_r177 := ia_b r177
  have b_y185 := ia_b y185
  try have k_0 := ia_n 0 (by first | decide | omega)
  try have k_1 := ia_n 1 (by first | decide | omega)
  try simp only [ia_lt, ia_le, ia_eq, ia_m1, ia_0, ia_1, ne_eq, true_and, and_true, false_and, and_false, or_false, false_or, or_true, true_or, not_true_eq_false, not_false_eq_true] at *
  all_goals omega
set_option maxRecDepth 20000 in
theorem lf_x_goP_159 (ksize : Nat) (kto : Nat) (ktapeF : Nat → Int32) (k5 : Nat) (n10 : Nat) (y18 : Int32) (r24 : Int32) (x46 : Int32) (k47 : Nat) (x48 : Int32) (n57 : Nat) (r60 : Int32) (r177 : Int32) (y185 : Int32) (iv_ko_1 : ksize ≤ 940) (iv_ko_3 : kto ≤ ksize) (j6 : k5 ≤ 940) (j7 : k5 ≤ ksize) (j8 : kto ≤ k5) (hm12 : 940 - k5 < n10 + 1) (c17 : k5 < ksize) (e19 : y18 = ktapeF k5) (p25 : r24 = nI 0 ∨ r24 = nI 1) (j50 : x46 = nI 0 ∨ x46 = nI 1) (j51 : k47 ≤ 941) (j52 : k47 ≤ ksize) (j53 : kto ≤ k47) (j54 : k5 ≤ k47) (j55 : (x46 = nI 0 ∨ r24 = nI 1) ∨ (0 ≤ x48.toInt ∧ x48.toInt ≤ 999 ∧ (k5 + 3 ≤ k47 ∨ x48.toInt ≤ 99) ∧ (k5 + 2 ≤ k47 ∨ x48.toInt ≤ 9) ∧ (k5 + 1 ≤ k47 ∨ x48.toInt ≤ 0))) (hm59 : 940 - k47 < n57 + 1) (p61 : (k47 < ksize ∧ r60 = ktapeF k47) ∨ (ksize ≤ k47 ∧ r60 = nI 0)) (t66 : ¬ (97 ≤ r60.toInt ∧ r60.toInt ≤ 122)) (p178 : (k47 < ksize ∧ r177 = ktapeF k47) ∨ (ksize ≤ k47 ∧ r177 = nI 0)) (t181 : 48 ≤ r177.toInt) (t182 : r177.toInt ≤ 57) (e186 : y185 = ktapeF k47) (c187 : ¬ x46 = 0) (t210 : ¬ (97 ≤ y185.toInt ∧ y185.toInt ≤ 122)) (c256 : nI 0 = r24) : k5 ≤ k47 := by
  have b_y18 := ia_b y18
  have b_r24 := ia_b r24
  have b_x46 := ia_b x46
  have b_x48 := ia_b x48
  have b_r60 := ia_b r60
  have b_r177 := ia_b r177
  have b_y185 := ia_b y185
  try have k_0 := ia_n 0 (by first | decide | omega)
  try have k_1 := ia_n 1 (by first | decide | omega)
  try simp only [ia_lt, ia_le, ia_eq, ia_m1, ia_0, ia_1, ne_eq, true_and, and_true, false_and, and_false, or_false, false_or, or_true, true_or, not_true_eq_false, not_false_eq_true] at *
  all_goals omega
set_option maxRecDepth 20000 in
theorem lf_x_goP_160   : (nI 1) = nI 0 ∨ (nI 1) = nI 1 := by
  try have k_0 := ia_n 1 (by first | decide | omega)
  try have k_1 := ia_n 0 (by first | decide | omega)
  try simp only [ia_lt, ia_le, ia_eq, ia_m1, ia_0, ia_1, ne_eq, true_and, and_true, false_and, and_false, or_false, false_or, or_true, true_or, not_true_eq_false, not_false_eq_true] at *
  all_goals omega
set_option maxRecDepth 20000 in
theorem lf_x_goP_161 (ksize : Nat) (kto : Nat) (ktapeF : Nat → Int32) (k5 : Nat) (n10 : Nat) (y18 : Int32) (r24 : Int32) (x46 : Int32) (k47 : Nat) (x48 : Int32) (n57 : Nat) (r60 : Int32) (r177 : Int32) (y185 : Int32) (iv_ko_1 : ksize ≤ 940) (iv_ko_3 : kto ≤ ksize) (j6 : k5 ≤ 940) (j7 : k5 ≤ ksize) (j8 : kto ≤ k5) (hm12 : 940 - k5 < n10 + 1) (c17 : k5 < ksize) (e19 : y18 = ktapeF k5) (p25 : r24 = nI 0 ∨ r24 = nI 1) (j50 : x46 = nI 0 ∨ x46 = nI 1) (j51 : k47 ≤ 941) (j52 : k47 ≤ ksize) (j53 : kto ≤ k47) (j54 : k5 ≤ k47) (j55 : (x46 = nI 0 ∨ r24 = nI 1) ∨ (0 ≤ x48.toInt ∧ x48.toInt ≤ 999 ∧ (k5 + 3 ≤ k47 ∨ x48.toInt ≤ 99) ∧ (k5 + 2 ≤ k47 ∨ x48.toInt ≤ 9) ∧ (k5 + 1 ≤ k47 ∨ x48.toInt ≤ 0))) (hm59 : 940 - k47 < n57 + 1) (p61 : (k47 < ksize ∧ r60 = ktapeF k47) ∨ (ksize ≤ k47 ∧ r60 = nI 0)) (t66 : ¬ (97 ≤ r60.toInt ∧ r60.toInt ≤ 122)) (p178 : (k47 < ksize ∧ r177 = ktapeF k47) ∨ (ksize ≤ k47 ∧ r177 = nI 0)) (t181 : 48 ≤ r177.toInt) (t182 : r177.toInt ≤ 57) (e186 : y185 = ktapeF k47) (c187 : ¬ x46 = 0) (t210 : ¬ (97 ≤ y185.toInt ∧ y185.toInt ≤ 122)) (c256 : nI 0 = r24) (c278 : 3 ≤ (k47 - k5)) : (k47 + 1) ≤ 941 := by
  have b_y18 := ia_b y18
  have b_r24 := ia_b r24
  have b_x46 := ia_b x46
  have b_x48 := ia_b x48
  have b_r60 := ia_b r60
  have b_r177 := ia_b r177
  have b_y185 := ia_b y185
  try have k_0 := ia_n 0 (by first | decide | omega)
  try have k_1 := ia_n 1 (by first | decide | omega)
  try simp only [ia_lt, ia_le, ia_eq, ia_m1, ia_0, ia_1, ne_eq, true_and, and_true, false_and, and_false, or_false, false_or, or_true, true_or, not_true_eq_false, not_false_eq_true] at *
  all_goals omega
set_option maxRecDepth 20000 in
theorem lf_x_goP_162 (ksize : Nat) (kto : Nat) (ktapeF : Nat → Int32) (k5 : Nat) (n10 : Nat) (y18 : Int32) (r24 : Int32) (x46 : Int32) (k47 : Nat) (x48 : Int32) (n57 : Nat) (r60 : Int32) (r177 : Int32) (y185 : Int32) (iv_ko_1 : ksize ≤ 940) (iv_ko_3 : kto ≤ ksize) (j6 : k5 ≤ 940) (j7 : k5 ≤ ksize) (j8 : kto ≤ k5) (hm12 : 940 - k5 < n10 + 1) (c17 : k5 < ksize) (e19 : y18 = ktapeF k5) (p25 : r24 = nI 0 ∨ r24 = nI 1) (j50 : x46 = nI 0 ∨ x46 = nI 1) (j51 : k47 ≤ 941) (j52 : k47 ≤ ksize) (j53 : kto ≤ k47) (j54 : k5 ≤ k47) (j55 : (x46 = nI 0 ∨ r24 = nI 1) ∨ (0 ≤ x48.toInt ∧ x48.toInt ≤ 999 ∧ (k5 + 3 ≤ k47 ∨ x48.toInt ≤ 99) ∧ (k5 + 2 ≤ k47 ∨ x48.toInt ≤ 9) ∧ (k5 + 1 ≤ k47 ∨ x48.toInt ≤ 0))) (hm59 : 940 - k47 < n57 + 1) (p61 : (k47 < ksize ∧ r60 = ktapeF k47) ∨ (ksize ≤ k47 ∧ r60 = nI 0)) (t66 : ¬ (97 ≤ r60.toInt ∧ r60.toInt ≤ 122)) (p178 : (k47 < ksize ∧ r177 = ktapeF k47) ∨ (ksize ≤ k47 ∧ r177 = nI 0)) (t181 : 48 ≤ r177.toInt) (t182 : r177.toInt ≤ 57) (e186 : y185 = ktapeF k47) (c187 : ¬ x46 = 0) (t210 : ¬ (97 ≤ y185.toInt ∧ y185.toInt ≤ 122)) (c256 : nI 0 = r24) (c278 : 3 ≤ (k47 - k5)) : (k47 + 1) ≤ ksize := by
  have b_y18 := ia_b y18
  have b_r24 := ia_b r24
  have b_x46 := ia_b x46
  have b_x48 := ia_b x48
  have b_r60 := ia_b r60
  have b_r177 := ia_b r177
  have b_y185 := ia_b y185
  try have k_0 := ia_n 0 (by first | decide | omega)
  try have k_1 := ia_n 1 (by first | decide | omega)
  try simp only [ia_lt, ia_le, ia_eq, ia_m1, ia_0, ia_1, ne_eq, true_and, and_true, false_and, and_false, or_false, false_or, or_true, true_or, not_true_eq_false, not_false_eq_true] at *
  all_goals omega
set_option maxRecDepth 20000 in
theorem lf_x_goP_163 (ksize : Nat) (kto : Nat) (ktapeF : Nat → Int32) (k5 : Nat) (n10 : Nat) (y18 : Int32) (r24 : Int32) (x46 : Int32) (k47 : Nat) (x48 : Int32) (n57 : Nat) (r60 : Int32) (r177 : Int32) (y185 : Int32) (iv_ko_1 : ksize ≤ 940) (iv_ko_3 : kto ≤ ksize) (j6 : k5 ≤ 940) (j7 : k5 ≤ ksize) (j8 : kto ≤ k5) (hm12 : 940 - k5 < n10 + 1) (c17 : k5 < ksize) (e19 : y18 = ktapeF k5) (p25 : r24 = nI 0 ∨ r24 = nI 1) (j50 : x46 = nI 0 ∨ x46 = nI 1) (j51 : k47 ≤ 941) (j52 : k47 ≤ ksize) (j53 : kto ≤ k47) (j54 : k5 ≤ k47) (j55 : (x46 = nI 0 ∨ r24 = nI 1) ∨ (0 ≤ x48.toInt ∧ x48.toInt ≤ 999 ∧ (k5 + 3 ≤ k47 ∨ x48.toInt ≤ 99) ∧ (k5 + 2 ≤ k47 ∨ x48.toInt ≤ 9) ∧ (k5 + 1 ≤ k47 ∨ x48.toInt ≤ 0))) (hm59 : 940 - k47 < n57 + 1) (p61 : (k47 < ksize ∧ r60 = ktapeF k47) ∨ (ksize ≤ k47 ∧ r60 = nI 0)) (t66 : ¬ (97 ≤ r60.toInt ∧ r60.toInt ≤ 122)) (p178 : (k47 < ksize ∧ r177 = ktapeF k47) ∨ (ksize ≤ k47 ∧ r177 = nI 0)) (t181 : 48 ≤ r177.toInt) (t182 : r177.toInt ≤ 57) (e186 : y185 = ktapeF k47) (c187 : ¬ x46 = 0) (t210 : ¬ (97 ≤ y185.toInt ∧ y185.toInt ≤ 122)) (c256 : nI 0 = r24) (c278 : 3 ≤ (k47 - k5)) : kto ≤ (k47 + 1) := by
  have b_y18 := ia_b y18
  have b_r24 := ia_b r24
  have b_x46 := ia_b x46
  have b_x48 := ia_b x48
  have b_r60 := ia_b r60
  have b_r177 := ia_b r177
  have b_y185 := ia_b y185
  try have k_0 := ia_n 0 (by first | decide | omega)
  try have k_1 := ia_n 1 (by first | decide | omega)
  try simp only [ia_lt, ia_le, ia_eq, ia_m1, ia_0, ia_1, ne_eq, true_and, and_true, false_and, and_false, or_false, false_or, or_true, true_or, not_true_eq_false, not_false_eq_true] at *
  all_goals omega
set_option maxRecDepth 20000 in
theorem lf_x_goP_164 (ksize : Nat) (kto : Nat) (ktapeF : Nat → Int32) (k5 : Nat) (n10 : Nat) (y18 : Int32) (r24 : Int32) (x46 : Int32) (k47 : Nat) (x48 : Int32) (n57 : Nat) (r60 : Int32) (r177 : Int32) (y185 : Int32) (iv_ko_1 : ksize ≤ 940) (iv_ko_3 : kto ≤ ksize) (j6 : k5 ≤ 940) (j7 : k5 ≤ ksize) (j8 : kto ≤ k5) (hm12 : 940 - k5 < n10 + 1) (c17 : k5 < ksize) (e19 : y18 = ktapeF k5) (p25 : r24 = nI 0 ∨ r24 = nI 1) (j50 : x46 = nI 0 ∨ x46 = nI 1) (j51 : k47 ≤ 941) (j52 : k47 ≤ ksize) (j53 : kto ≤ k47) (j54 : k5 ≤ k47) (j55 : (x46 = nI 0 ∨ r24 = nI 1) ∨ (0 ≤ x48.toInt ∧ x48.toInt ≤ 999 ∧ (k5 + 3 ≤ k47 ∨ x48.toInt ≤ 99) ∧ (k5 + 2 ≤ k47 ∨ x48.toInt ≤ 9) ∧ (k5 + 1 ≤ k47 ∨ x48.toInt ≤ 0))) (hm59 : 940 - k47 < n57 + 1) (p61 : (k47 < ksize ∧ r60 = ktapeF k47) ∨ (ksize ≤ k47 ∧ r60 = nI 0)) (t66 : ¬ (97 ≤ r60.toInt ∧ r60.toInt ≤ 122)) (p178 : (k47 < ksize ∧ r177 = ktapeF k47) ∨ (ksize ≤ k47 ∧ r177 = nI 0)) (t181 : 48 ≤ r177.toInt) (t182 : r177.toInt ≤ 57) (e186 : y185 = ktapeF k47) (c187 : ¬ x46 = 0) (t210 : ¬ (97 ≤ y185.toInt ∧ y185.toInt ≤ 122)) (c256 : nI 0 = r24) (c278 : 3 ≤ (k47 - k5)) : k5 ≤ (k47 + 1) := by
  have b_y18 := ia_b y18
  have b_r24 := ia_b r24
  have b_x46 := ia_b x46
  have b_x48 := ia_b x48
  have b_r60 := ia_b r60
  have b_r177 := ia_b r177
  have b_y185 := ia_b y185
  try have k_0 := ia_n 0 (by first | decide | omega)
  try have k_1 := ia_n 1 (by first | decide | omega)
  try simp only [ia_lt, ia_le, ia_eq, ia_m1, ia_0, ia_1, ne_eq, true_and, and_true, false_and, and_false, or_false, false_or, or_true, true_or, not_true_eq_false, not_false_eq_true] at *
  all_goals omega
set_option maxRecDepth 20000 in
theorem lf_x_goP_165 (ksize : Nat) (kto : Nat) (ktapeF : Nat → Int32) (k5 : Nat) (n10 : Nat) (y18 : Int32) (r24 : Int32) (x46 : Int32) (k47 : Nat) (x48 : Int32) (n57 : Nat) (r60 : Int32) (r177 : Int32) (y185 : Int32) (iv_ko_1 : ksize ≤ 940) (iv_ko_3 : kto ≤ ksize) (j6 : k5 ≤ 940) (j7 : k5 ≤ ksize) (j8 : kto ≤ k5) (hm12 : 940 - k5 < n10 + 1) (c17 : k5 < ksize) (e19 : y18 = ktapeF k5) (p25 : r24 = nI 0 ∨ r24 = nI 1) (j50 : x46 = nI 0 ∨ x46 = nI 1) (j51 : k47 ≤ 941) (j52 : k47 ≤ ksize) (j53 : kto ≤ k47) (j54 : k5 ≤ k47) (j55 : (x46 = nI 0 ∨ r24 = nI 1) ∨ (0 ≤ x48.toInt ∧ x48.toInt ≤ 999 ∧ (k5 + 3 ≤ k47 ∨ x48.toInt ≤ 99) ∧ (k5 + 2 ≤ k47 ∨ x48.toInt ≤ 9) ∧ (k5 + 1 ≤ k47 ∨ x48.toInt ≤ 0))) (hm59 : 940 - k47 < n57 + 1) (p61 : (k47 < ksize ∧ r60 = ktapeF k47) ∨ (ksize ≤ k47 ∧ r60 = nI 0)) (t66 : ¬ (97 ≤ r60.toInt ∧ r60.toInt ≤ 122)) (p178 : (k47 < ksize ∧ r177 = ktapeF k47) ∨ (ksize ≤ k47 ∧ r177 = nI 0)) (t181 : 48 ≤ r177.toInt) (t182 : r177.toInt ≤ 57) (e186 : y185 = ktapeF k47) (c187 : ¬ x46 = 0) (t210 : ¬ (97 ≤ y185.toInt ∧ y185.toInt ≤ 122)) (c256 : nI 0 = r24) (c278 : 3 ≤ (k47 - k5)) : ((nI 1) = nI 0 ∨ r24 = nI 1) ∨ (0 ≤ x48.toInt ∧ x48.toInt ≤ 999 ∧ (k5 + 3 ≤ (k47 + 1) ∨ x48.toInt ≤ 99) ∧ (k5 + 2 ≤ (k47 + 1) ∨ x48.toInt ≤ 9) ∧ (k5 + 1 ≤ (k47 + 1) ∨ x48.toInt ≤ 0)) := by
  have b_y18 := ia_b y18
  have b_r24 := ia_b r24
  have b_x46 := ia_b x46
  have b_x48 := ia_b x48
  have b_r60 := ia_b r60
  have b_r177 := ia_b r177
  have b_y185 := ia_b y185
  try have k_0 := ia_n 0 (by first | decide | omega)
  try have k_1 := ia_n 1 (by first | decide | omega)
  try simp only [ia_lt, ia_le, ia_eq, ia_m1, ia_0, ia_1, ne_eq, true_and, and_true, false_and, and_false, or_false, false_or, or_true, true_or, not_true_eq_false, not_false_eq_true] at *
  all_goals omega
set_option maxRecDepth 20000 in
theorem lf_x_goP_166 (ksize : Nat) (kto : Nat) (ktapeF : Nat → Int32) (k5 : Nat) (n10 : Nat) (y18 : Int32) (r24 : Int32) (x46 : Int32) (k47 : Nat) (x48 : Int32) (n57 : Nat) (r60 : Int32) (r177 : Int32) (y185 : Int32) (iv_ko_1 : ksize ≤ 940) (iv_ko_3 : kto ≤ ksize) (j6 : k5 ≤ 940) (j7 : k5 ≤ ksize) (j8 : kto ≤ k5) (hm12 : 940 - k5 < n10 + 1) (c17 : k5 < ksize) (e19 : y18 = ktapeF k5) (p25 : r24 = nI 0 ∨ r24 = nI 1) (j50 : x46 = nI 0 ∨ x46 = nI 1) (j51 : k47 ≤ 941) (j52 : k47 ≤ ksize) (j53 : kto ≤ k47) (j54 : k5 ≤ k47) (j55 : (x46 = nI 0 ∨ r24 = nI 1) ∨ (0 ≤ x48.toInt ∧ x48.toInt ≤ 999 ∧ (k5 + 3 ≤ k47 ∨ x48.toInt ≤ 99) ∧ (k5 + 2 ≤ k47 ∨ x48.toInt ≤ 9) ∧ (k5 + 1 ≤ k47 ∨ x48.toInt ≤ 0))) (hm59 : 940 - k47 < n57 + 1) (p61 : (k47 < ksize ∧ r60 = ktapeF k47) ∨ (ksize ≤ k47 ∧ r60 = nI 0)) (t66 : ¬ (97 ≤ r60.toInt ∧ r60.toInt ≤ 122)) (p178 : (k47 < ksize ∧ r177 = ktapeF k47) ∨ (ksize ≤ k47 ∧ r177 = nI 0)) (t181 : 48 ≤ r177.toInt) (t182 : r177.toInt ≤ 57) (e186 : y185 = ktapeF k47) (c187 : ¬ x46 = 0) (t210 : ¬ (97 ≤ y185.toInt ∧ y185.toInt ≤ 122)) (c256 : nI 0 = r24) (c278 : 3 ≤ (k47 - k5)) : 940 - (k47 + 1) < n57 := by
  have b_y18 := ia_b y18
  have b_r24 := ia_b r24
  have b_x46 := ia_b x46
  have b_x48 := ia_b x48
  have b_r60 := ia_b r60
  have b_r177 := ia_b r177
  have b_y185 := ia_b y185
  try have k_0 := ia_n 0 (by first | decide | omega)
  try have k_1 := ia_n 1 (by first | decide | omega)
  try simp only [ia_lt, ia_le, ia_eq, ia_m1, ia_0, ia_1, ne_eq, true_and, and_true, false_and, and_false, or_false, false_or, or_true, true_or, not_true_eq_false, not_false_eq_true] at *
  all_goals omega
set_option maxRecDepth 20000 in
theorem lf_x_goP_167   : (nI 1) = nI 0 ∨ (nI 1) = nI 1 := by
  try have k_0 := ia_n 1 (by first | decide | omega)
  try have k_1 := ia_n 0 (by first | decide | omega)
  try simp only [ia_lt, ia_le, ia_eq, ia_m1, ia_0, ia_1, ne_eq, true_and, and_true, false_and, and_false, or_false, false_or, or_true, true_or, not_true_eq_false, not_false_eq_true] at *
  all_goals omega
set_option maxRecDepth 20000 in
theorem lf_x_goP_168 (ksize : Nat) (kto : Nat) (ktapeF : Nat → Int32) (k5 : Nat) (n10 : Nat) (y18 : Int32) (r24 : Int32) (x46 : Int32) (k47 : Nat) (x48 : Int32) (n57 : Nat) (r60 : Int32) (r177 : Int32) (y185 : Int32) (y279 : Int32) (y281 : Int32) (y283 : Int32) (iv_ko_1 : ksize ≤ 940) (iv_ko_3 : kto ≤ ksize) (j6 : k5 ≤ 940) (j7 : k5 ≤ ksize) (j8 : kto ≤ k5) (hm12 : 940 - k5 < n10 + 1) (c17 : k5 < ksize) (e19 : y18 = ktapeF k5) (p25 : r24 = nI 0 ∨ r24 = nI 1) (j50 : x46 = nI 0 ∨ x46 = nI 1) (j51 : k47 ≤ 941) (j52 : k47 ≤ ksize) (j53 : kto ≤ k47) (j54 : k5 ≤ k47) (j55 : (x46 = nI 0 ∨ r24 = nI 1) ∨ (0 ≤ x48.toInt ∧ x48.toInt ≤ 999 ∧ (k5 + 3 ≤ k47 ∨ x48.toInt ≤ 99) ∧ (k5 + 2 ≤ k47 ∨ x48.toInt ≤ 9) ∧ (k5 + 1 ≤ k47 ∨ x48.toInt ≤ 0))) (hm59 : 940 - k47 < n57 + 1) (p61 : (k47 < ksize ∧ r60 = ktapeF k47) ∨ (ksize ≤ k47 ∧ r60 = nI 0)) (t66 : ¬ (97 ≤ r60.toInt ∧ r60.toInt ≤ 122)) (p178 : (k47 < ksize ∧ r177 = ktapeF k47) ∨ (ksize ≤ k47 ∧ r177 = nI 0)) (t181 : 48 ≤ r177.toInt) (t182 : r177.toInt ≤ 57) (e186 : y185 = ktapeF k47) (c187 : ¬ x46 = 0) (t210 : ¬ (97 ≤ y185.toInt ∧ y185.toInt ≤ 122)) (c256 : nI 0 = r24) (c278 : (k47 - k5) < 3) (e280 : y279 = (nI 10) * x48) (e282 : y281 = y279 + y185) (e284 : y283 = y281 - (nI 48)) : (k47 + 1) ≤ 941 := by
  have b_y18 := ia_b y18
  have b_r24 := ia_b r24
  have b_x46 := ia_b x46
  have b_x48 := ia_b x48
  have b_r60 := ia_b r60
  have b_r177 := ia_b r177
  have b_y185 := ia_b y185
  have b_y279 := ia_b y279
  have b_y281 := ia_b y281
  have b_y283 := ia_b y283
  try have k_0 := ia_n 0 (by first | decide | omega)
  try have k_1 := ia_n 1 (by first | decide | omega)
  try have k_2 := ia_n 10 (by first | decide | omega)
  try have k_3 := ia_n 48 (by first | decide | omega)
  try simp only [ia_lt, ia_le, ia_eq, ia_m1, ia_0, ia_1, ne_eq, true_and, and_true, false_and, and_false, or_false, false_or, or_true, true_or, not_true_eq_false, not_false_eq_true] at *
  all_goals omega
set_option maxRecDepth 20000 in
theorem lf_x_goP_169 (ksize : Nat) (kto : Nat) (ktapeF : Nat → Int32) (k5 : Nat) (n10 : Nat) (y18 : Int32) (r24 : Int32) (x46 : Int32) (k47 : Nat) (x48 : Int32) (n57 : Nat) (r60 : Int32) (r177 : Int32) (y185 : Int32) (y279 : Int32) (y281 : Int32) (y283 : Int32) (iv_ko_1 : ksize ≤ 940) (iv_ko_3 : kto ≤ ksize) (j6 : k5 ≤ 940) (j7 : k5 ≤ ksize) (j8 : kto ≤ k5) (hm12 : 940 - k5 < n10 + 1) (c17 : k5 < ksize) (e19 : y18 = ktapeF k5) (p25 : r24 = nI 0 ∨ r24 = nI 1) (j50 : x46 = nI 0 ∨ x46 = nI 1) (j51 : k47 ≤ 941) (j52 : k47 ≤ ksize) (j53 : kto ≤ k47) (j54 : k5 ≤ k47) (j55 : (x46 = nI 0 ∨ r24 = nI 1) ∨ (0 ≤ x48.toInt ∧ x48.toInt ≤ 999 ∧ (k5 + 3 ≤ k47 ∨ x48.toInt ≤ 99) ∧ (k5 + 2 ≤ k47 ∨ x48.toInt ≤ 9) ∧ (k5 + 1 ≤ k47 ∨ x48.toInt ≤ 0))) (hm59 : 940 - k47 < n57 + 1) (p61 : (k47 < ksize ∧ r60 = ktapeF k47) ∨ (ksize ≤ k47 ∧ r60 = nI 0)) (t66 : ¬ (97 ≤ r60.toInt ∧ r60.toInt ≤ 122)) (p178 : (k47 < ksize ∧ r177 = ktapeF k47) ∨ (ksize ≤ k47 ∧ r177 = nI 0)) (t181 : 48 ≤ r177.toInt) (t182 : r177.toInt ≤ 57) (e186 : y185 = ktapeF k47) (c187 : ¬ x46 = 0) (t210 : ¬ (97 ≤ y185.toInt ∧ y185.toInt ≤ 122)) (c256 : nI 0 = r24) (c278 : (k47 - k5) < 3) (e280 : y279 = (nI 10) * x48) (e282 : y281 = y279 + y185) (e284 : y283 = y281 - (nI 48)) : (k47 + 1) ≤ ksize := by
  have b_y18 := ia_b y18
  have b_r24 := ia_b r24
  have b_x46 := ia_b x46
  have b_x48 := ia_b x48
  have b_r60 := ia_b r60
  have b_r177 := ia_b r177
  have b_y185 := ia_b y185
  have b_y279 := ia_b y279
  have b_y281 := ia_b y281
  have b_y283 := ia_b y283
  try have k_0 := ia_n 0 (by first | decide | omega)
  try have k_1 := ia_n 1 (by first | decide | omega)
  try have k_2 := ia_n 10 (by first | decide | omega)
  try have k_3 := ia_n 48 (by first | decide | omega)
  try simp only [ia_lt, ia_le, ia_eq, ia_m1, ia_0, ia_1, ne_eq, true_and, and_true, false_and, and_false, or_false, false_or, or_true, true_or, not_true_eq_false, not_false_eq_true] at *
  all_goals omega
set_option maxRecDepth 20000 in
theorem lf_x_goP_170 (ksize : Nat) (kto : Nat) (ktapeF : Nat → Int32) (k5 : Nat) (n10 : Nat) (y18 : Int32) (r24 : Int32) (x46 : Int32) (k47 : Nat) (x48 : Int32) (n57 : Nat) (r60 : Int32) (r177 : Int32) (y185 : Int32) (y279 : Int32) (y281 : Int32) (y283 : Int32) (iv_ko_1 : ksize ≤ 940) (iv_ko_3 : kto ≤ ksize) (j6 : k5 ≤ 940) (j7 : k5 ≤ ksize) (j8 : kto ≤ k5) (hm12 : 940 - k5 < n10 + 1) (c17 : k5 < ksize) (e19 : y18 = ktapeF k5) (p25 : r24 = nI 0 ∨ r24 = nI 1) (j50 : x46 = nI 0 ∨ x46 = nI 1) (j51 : k47 ≤ 941) (j52 : k47 ≤ ksize) (j53 : kto ≤ k47) (j54 : k5 ≤ k47) (j55 : (x46 = nI 0 ∨ r24 = nI 1) ∨ (0 ≤ x48.toInt ∧ x48.toInt ≤ 999 ∧ (k5 + 3 ≤ k47 ∨ x48.toInt ≤ 99) ∧ (k5 + 2 ≤ k47 ∨ x48.toInt ≤ 9) ∧ (k5 + 1 ≤ k47 ∨ x48.toInt ≤ 0))) (hm59 : 940 - k47 < n57 + 1) (p61 : (k47 < ksize ∧ r60 = ktapeF k47) ∨ (ksize ≤ k47 ∧ r60 = nI 0)) (t66 : ¬ (97 ≤ r60.toInt ∧ r60.toInt ≤ 122)) (p178 : (k47 < ksize ∧ r177 = ktapeF k47) ∨ (ksize ≤ k47 ∧ r177 = nI 0)) (t181 : 48 ≤ r177.toInt) (t182 : r177.toInt ≤ 57) (e186 : y185 = ktapeF k47) (c187 : ¬ x46 = 0) (t210 : ¬ (97 ≤ y185.toInt ∧ y185.toInt ≤ 122)) (c256 : nI 0 = r24) (c278 : (k47 - k5) < 3) (e280 : y279 = (nI 10) * x48) (e282 : y281 = y279 + y185) (e284 : y283 = y281 - (nI 48)) : kto ≤ (k47 + 1) := by
  have b_y18 := ia_b y18
  have b_r24 := ia_b r24
  have b_x46 := ia_b x46
  have b_x48 := ia_b x48
  have b_r60 := ia_b r60
  have b_r177 := ia_b r177
  have b_y185 := ia_b y185
  have b_y279 := ia_b y279
  have b_y281 := ia_b y281
  have b_y283 := ia_b y283
  try have k_0 := ia_n 0 (by first | decide | omega)
  try have k_1 := ia_n 1 (by first | decide | omega)
  try have k_2 := ia_n 10 (by first | decide | omega)
  try have k_3 := ia_n 48 (by first | decide | omega)
  try simp only [ia_lt, ia_le, ia_eq, ia_m1, ia_0, ia_1, ne_eq, true_and, and_true, false_and, and_false, or_false, false_or, or_true, true_or, not_true_eq_false, not_false_eq_true] at *
  all_goals omega
set_option maxRecDepth 20000 in
theorem lf_x_goP_171 (ksize : Nat) (kto : Nat) (ktapeF : Nat → Int32) (k5 : Nat) (n10 : Nat) (y18 : Int32) (r24 : Int32) (x46 : Int32) (k47 : Nat) (x48 : Int32) (n57 : Nat) (r60 : Int32) (r177 : Int32) (y185 : Int32) (y279 : Int32) (y281 : Int32) (y283 : Int32) (iv_ko_1 : ksize ≤ 940) (iv_ko_3 : kto ≤ ksize) (j6 : k5 ≤ 940) (j7 : k5 ≤ ksize) (j8 : kto ≤ k5) (hm12 : 940 - k5 < n10 + 1) (c17 : k5 < ksize) (e19 : y18 = ktapeF k5) (p25 : r24 = nI 0 ∨ r24 = nI 1) (j50 : x46 = nI 0 ∨ x46 = nI 1) (j51 : k47 ≤ 941) (j52 : k47 ≤ ksize) (j53 : kto ≤ k47) (j54 : k5 ≤ k47) (j55 : (x46 = nI 0 ∨ r24 = nI 1) ∨ (0 ≤ x48.toInt ∧ x48.toInt ≤ 999 ∧ (k5 + 3 ≤ k47 ∨ x48.toInt ≤ 99) ∧ (k5 + 2 ≤ k47 ∨ x48.toInt ≤ 9) ∧ (k5 + 1 ≤ k47 ∨ x48.toInt ≤ 0))) (hm59 : 940 - k47 < n57 + 1) (p61 : (k47 < ksize ∧ r60 = ktapeF k47) ∨ (ksize ≤ k47 ∧ r60 = nI 0)) (t66 : ¬ (97 ≤ r60.toInt ∧ r60.toInt ≤ 122)) (p178 : (k47 < ksize ∧ r177 = ktapeF k47) ∨ (ksize ≤ k47 ∧ r177 = nI 0)) (t181 : 48 ≤ r177.toInt) (t182 : r177.toInt ≤ 57) (e186 : y185 = ktapeF k47) (c187 : ¬ x46 = 0) (t210 : ¬ (97 ≤ y185.toInt ∧ y185.toInt ≤ 122)) (c256 : nI 0 = r24) (c278 : (k47 - k5) < 3) (e280 : y279 = (nI 10) * x48) (e282 : y281 = y279 + y185) (e284 : y283 = y281 - (nI 48)) : k5 ≤ (k47 + 1) := by
  have b_y18 := ia_b y18
  have b_r24 := ia_b r24
  have b_x46 := ia_b x46
  have b_x48 := ia_b x48
  have b_r60 := ia_b r60
  have b_r177 := ia_b r177
  have b_y185 := ia_b y185
  have b_y279 := ia_b y279
  have b_y281 := ia_b y281
  have b_y283 := ia_b y283
  try have k_0 := ia_n 0 (by first | decide | omega)
  try have k_1 := ia_n 1 (by first | decide | omega)
  try have k_2 := ia_n 10 (by first | decide | omega)
  try have k_3 := ia_n 48 (by first | decide | omega)
  try simp only [ia_lt, ia_le, ia_eq, ia_m1, ia_0, ia_1, ne_eq, true_and, and_true, false_and, and_false, or_false, false_or, or_true, true_or, not_true_eq_false, not_false_eq_true] at *
  all_goals omega
set_option maxRecDepth 20000 in
theorem lf_x_goP_172 (ksize : Nat) (kto : Nat) (ktapeF : Nat → Int32) (k5 : Nat) (n10 : Nat) (y18 : Int32) (r24 : Int32) (x46 : Int32) (k47 : Nat) (x48 : Int32) (n57 : Nat) (r60 : Int32) (r177 : Int32) (y185 : Int32) (y279 : Int32) (y281 : Int32) (y283 : Int32) (iv_ko_1 : ksize ≤ 940) (iv_ko_3 : kto ≤ ksize) (j6 : k5 ≤ 940) (j7 : k5 ≤ ksize) (j8 : kto ≤ k5) (hm12 : 940 - k5 < n10 + 1) (c17 : k5 < ksize) (e19 : y18 = ktapeF k5) (p25 : r24 = nI 0 ∨ r24 = nI 1) (j50 : x46 = nI 0 ∨ x46 = nI 1) (j51 : k47 ≤ 941) (j52 : k47 ≤ ksize) (j53 : kto ≤ k47) (j54 : k5 ≤ k47) (j55 : (x46 = nI 0 ∨ r24 = nI 1) ∨ (0 ≤ x48.toInt ∧ x48.toInt ≤ 999 ∧ (k5 + 3 ≤ k47 ∨ x48.toInt ≤ 99) ∧ (k5 + 2 ≤ k47 ∨ x48.toInt ≤ 9) ∧ (k5 + 1 ≤ k47 ∨ x48.toInt ≤ 0))) (hm59 : 940 - k47 < n57 + 1) (p61 : (k47 < ksize ∧ r60 = ktapeF k47) ∨ (ksize ≤ k47 ∧ r60 = nI 0)) (t66 : ¬ (97 ≤ r60.toInt ∧ r60.toInt ≤ 122)) (p178 : (k47 < ksize ∧ r177 = ktapeF k47) ∨ (ksize ≤ k47 ∧ r177 = nI 0)) (t181 : 48 ≤ r177.toInt) (t182 : r177.toInt ≤ 57) (e186 : y185 = ktapeF k47) (c187 : ¬ x46 = 0) (t210 : ¬ (97 ≤ y185.toInt ∧ y185.toInt ≤ 122)) (c256 : nI 0 = r24) (c278 : (k47 - k5) < 3) (e280 : y279 = (nI 10) * x48) (e282 : y281 = y279 + y185) (e284 : y283 = y281 - (nI 48)) : ((nI 1) = nI 0 ∨ r24 = nI 1) ∨ (0 ≤ y283.toInt ∧ y283.toInt ≤ 999 ∧ (k5 + 3 ≤ (k47 + 1) ∨ y283.toInt ≤ 99) ∧ (k5 + 2 ≤ (k47 + 1) ∨ y283.toInt ≤ 9) ∧ (k5 + 1 ≤ (k47 + 1) ∨ y283.toInt ≤ 0)) := by
  have b_y18 := ia_b y18
  have b_r24 := ia_b r24
  have b_x46 := ia_b x46
  have b_x48 := ia_b x48
  have b_r60 := ia_b r60
  have b_r177 := ia_b r177
  have b_y185 := ia_b y185
  have b_y279 := ia_b y279
  have b_y281 := ia_b y281
  have b_y283 := ia_b y283
  try have k_0 := ia_n 0 (by first | decide | omega)
  try have k_1 := ia_n 1 (by first | decide | omega)
  try have k_2 := ia_n 10 (by first | decide | omega)
  try have k_3 := ia_n 48 (by first | decide | omega)
  have h9 := ten_step x48 y185
  rw [← e280, ← e282, ← e284] at h9
  clear e284 e282 e280
  try simp only [ia_lt, ia_le, ia_eq, ia_m1, ia_0, ia_1, ne_eq, true_and, and_true, false_and, and_false, or_false, false_or, or_true, true_or, not_true_eq_false, not_false_eq_true] at *
  all_goals omega
set_option maxRecDepth 20000 in
theorem lf_x_goP_173 (ksize : Nat) (kto : Nat) (ktapeF : Nat → Int32) (k5 : Nat) (n10 : Nat) (y18 : Int32) (r24 : Int32) (x46 : Int32) (k47 : Nat) (x48 : Int32) (n57 : Nat) (r60 : Int32) (r177 : Int32) (y185 : Int32) (y279 : Int32) (y281 : Int32) (y283 : Int32) (iv_ko_1 : ksize ≤ 940) (iv_ko_3 : kto ≤ ksize) (j6 : k5 ≤ 940) (j7 : k5 ≤ ksize) (j8 : kto ≤ k5) (hm12 : 940 - k5 < n10 + 1) (c17 : k5 < ksize) (e19 : y18 = ktapeF k5) (p25 : r24 = nI 0 ∨ r24 = nI 1) (j50 : x46 = nI 0 ∨ x46 = nI 1) (j51 : k47 ≤ 941) (j52 : k47 ≤ ksize) (j53 : kto ≤ k47) (j54 : k5 ≤ k47) (j55 : (x46 = nI 0 ∨ r24 = nI 1) ∨ (0 ≤ x48.toInt ∧ x48.toInt ≤ 999 ∧ (k5 + 3 ≤ k47 ∨ x48.toInt ≤ 99) ∧ (k5 + 2 ≤ k47 ∨ x48.toInt ≤ 9) ∧ (k5 + 1 ≤ k47 ∨ x48.toInt ≤ 0))) (hm59 : 940 - k47 < n57 + 1) (p61 : (k47 < ksize ∧ r60 = ktapeF k47) ∨ (ksize ≤ k47 ∧ r60 = nI 0)) (t66 : ¬ (97 ≤ r60.toInt ∧ r60.toInt ≤ 122)) (p178 : (k47 < ksize ∧ r177 = ktapeF k47) ∨ (ksize ≤ k47 ∧ r177 = nI 0)) (t181 : 48 ≤ r177.toInt) (t182 : r177.toInt ≤ 57) (e186 : y185 = ktapeF k47) (c187 : ¬ x46 = 0) (t210 : ¬ (97 ≤ y185.toInt ∧ y185.toInt ≤ 122)) (c256 : nI 0 = r24) (c278 : (k47 - k5) < 3) (e280 : y279 = (nI 10) * x48) (e282 : y281 = y279 + y185) (e284 : y283 = y281 - (nI 48)) : 940 - (k47 + 1) < n57 := by
  have b_y18 := ia_b y18
  have b_r24 := ia_b r24
  have b_x46 := ia_b x46
  have b_x48 := ia_b x48
  have b_r60 := ia_b r60
  have b_r177 := ia_b r177
  have b_y185 := ia_b y185
  have b_y279 := ia_b y279
  have b_y281 := ia_b y281
  have b_y283 := ia_b y283
  try have k_0 := ia_n 0 (by first | decide | omega)
  try have k_1 := ia_n 1 (by first | decide | omega)
  try have k_2 := ia_n 10 (by first | decide | omega)
  try have k_3 := ia_n 48 (by first | decide | omega)
  try simp only [ia_lt, ia_le, ia_eq, ia_m1, ia_0, ia_1, ne_eq, true_and, and_true, false_and, and_false, or_false, false_or, or_true, true_or, not_true_eq_false, not_false_eq_true] at *
  all_goals omega
set_option maxRecDepth 20000 in
theorem lf_x_goP_174 (ksize : Nat) (kto : Nat) (ktapeF : Nat → Int32) (k5 : Nat) (n10 : Nat) (y18 : Int32) (r24 : Int32) (x46 : Int32) (k47 : Nat) (x48 : Int32) (n57 : Nat) (r60 : Int32) (r177 : Int32) (iv_ko_1 : ksize ≤ 940) (iv_ko_3 : kto ≤ ksize) (j6 : k5 ≤ 940) (j7 : k5 ≤ ksize) (j8 : kto ≤ k5) (hm12 : 940 - k5 < n10 + 1) (c17 : k5 < ksize) (e19 : y18 = ktapeF k5) (p25 : r24 = nI 0 ∨ r24 = nI 1) (j50 : x46 = nI 0 ∨ x46 = nI 1) (j51 : k47 ≤ 941) (j52 : k47 ≤ ksize) (j53 : kto ≤ k47) (j54 : k5 ≤ k47) (j55 : (x46 = nI 0 ∨ r24 = nI 1) ∨ (0 ≤ x48.toInt ∧ x48.toInt ≤ 999 ∧ (k5 + 3 ≤ k47 ∨ x48.toInt ≤ 99) ∧ (k5 + 2 ≤ k47 ∨ x48.toInt ≤ 9) ∧ (k5 + 1 ≤ k47 ∨ x48.toInt ≤ 0))) (hm59 : 940 - k47 < n57 + 1) (p61 : (k47 < ksize ∧ r60 = ktapeF k47) ∨ (ksize ≤ k47 ∧ r60 = nI 0)) (t66 : ¬ (97 ≤ r60.toInt ∧ r60.toInt ≤ 122)) (p178 : (k47 < ksize ∧ r177 = ktapeF k47) ∨ (ksize ≤ k47 ∧ r177 = nI 0)) (t183 : ¬ (48 ≤ r177.toInt ∧ r177.toInt ≤ 57)) (c294 : x46 = 0) : ¬ (nI 1) = nI 4 ∨ kto < k47 := by
  have b_y18 := ia_b y18
  have b_r24 := ia_b r24
  have b_x46 := ia_b x46
  have b_x48 := ia_b x48
  have b_r60 := ia_b r60
  have b_r177 := ia_b r177
  try have k_0 := ia_n 0 (by first | decide | omega)
  try have k_1 := ia_n 1 (by first | decide | omega)
  try have k_2 := ia_n 4 (by first | decide | omega)
  try simp only [ia_lt, ia_le, ia_eq, ia_m1, ia_0, ia_1, ne_eq, true_and, and_true, false_and, and_false, or_false, false_or, or_true, true_or, not_true_eq_false, not_false_eq_true] at *
  all_goals omega
set_option maxRecDepth 20000 in
theorem lf_x_goP_175 (ksize : Nat) (kto : Nat) (ktapeF : Nat → Int32) (k5 : Nat) (n10 : Nat) (y18 : Int32) (r24 : Int32) (x46 : Int32) (k47 : Nat) (x48 : Int32) (n57 : Nat) (r60 : Int32) (r177 : Int32) (iv_ko_1 : ksize ≤ 940) (iv_ko_3 : kto ≤ ksize) (j6 : k5 ≤ 940) (j7 : k5 ≤ ksize) (j8 : kto ≤ k5) (hm12 : 940 - k5 < n10 + 1) (c17 : k5 < ksize) (e19 : y18 = ktapeF k5) (p25 : r24 = nI 0 ∨ r24 = nI 1) (j50 : x46 = nI 0 ∨ x46 = nI 1) (j51 : k47 ≤ 941) (j52 : k47 ≤ ksize) (j53 : kto ≤ k47) (j54 : k5 ≤ k47) (j55 : (x46 = nI 0 ∨ r24 = nI 1) ∨ (0 ≤ x48.toInt ∧ x48.toInt ≤ 999 ∧ (k5 + 3 ≤ k47 ∨ x48.toInt ≤ 99) ∧ (k5 + 2 ≤ k47 ∨ x48.toInt ≤ 9) ∧ (k5 + 1 ≤ k47 ∨ x48.toInt ≤ 0))) (hm59 : 940 - k47 < n57 + 1) (p61 : (k47 < ksize ∧ r60 = ktapeF k47) ∨ (ksize ≤ k47 ∧ r60 = nI 0)) (t66 : ¬ (97 ≤ r60.toInt ∧ r60.toInt ≤ 122)) (p178 : (k47 < ksize ∧ r177 = ktapeF k47) ∨ (ksize ≤ k47 ∧ r177 = nI 0)) (t183 : ¬ (48 ≤ r177.toInt ∧ r177.toInt ≤ 57)) (c294 : x46 = 0) : ¬ (nI 1) = nI 3 ∨ 0 ≤ x48.toInt := by
  have b_y18 := ia_b y18
  have b_r24 := ia_b r24
  have b_x46 := ia_b x46
  have b_x48 := ia_b x48
  have b_r60 := ia_b r60
  have b_r177 := ia_b r177
  try have k_0 := ia_n 0 (by first | decide | omega)
  try have k_1 := ia_n 1 (by first | decide | omega)
  try have k_2 := ia_n 3 (by first | decide | omega)
  try simp only [ia_lt, ia_le, ia_eq, ia_m1, ia_0, ia_1, ne_eq, true_and, and_true, false_and, and_false, or_false, false_or, or_true, true_or, not_true_eq_false, not_false_eq_true] at *
  all_goals omega
set_option maxRecDepth 20000 in
theorem lf_x_goP_176 (ksize : Nat) (kto : Nat) (ktapeF : Nat → Int32) (k5 : Nat) (n10 : Nat) (y18 : Int32) (r24 : Int32) (x46 : Int32) (k47 : Nat) (x48 : Int32) (n57 : Nat) (r60 : Int32) (r177 : Int32) (iv_ko_1 : ksize ≤ 940) (iv_ko_3 : kto ≤ ksize) (j6 : k5 ≤ 940) (j7 : k5 ≤ ksize) (j8 : kto ≤ k5) (hm12 : 940 - k5 < n10 + 1) (c17 : k5 < ksize) (e19 : y18 = ktapeF k5) (p25 : r24 = nI 0 ∨ r24 = nI 1) (j50 : x46 = nI 0 ∨ x46 = nI 1) (j51 : k47 ≤ 941) (j52 : k47 ≤ ksize) (j53 : kto ≤ k47) (j54 : k5 ≤ k47) (j55 : (x46 = nI 0 ∨ r24 = nI 1) ∨ (0 ≤ x48.toInt ∧ x48.toInt ≤ 999 ∧ (k5 + 3 ≤ k47 ∨ x48.toInt ≤ 99) ∧ (k5 + 2 ≤ k47 ∨ x48.toInt ≤ 9) ∧ (k5 + 1 ≤ k47 ∨ x48.toInt ≤ 0))) (hm59 : 940 - k47 < n57 + 1) (p61 : (k47 < ksize ∧ r60 = ktapeF k47) ∨ (ksize ≤ k47 ∧ r60 = nI 0)) (t66 : ¬ (97 ≤ r60.toInt ∧ r60.toInt ≤ 122)) (p178 : (k47 < ksize ∧ r177 = ktapeF k47) ∨ (ksize ≤ k47 ∧ r177 = nI 0)) (t183 : ¬ (48 ≤ r177.toInt ∧ r177.toInt ≤ 57)) (c294 : ¬ x46 = 0) : k5 ≤ k47 := by
  have b_y18 := ia_b y18
  have b_r24 := ia_b r24
  have b_x46 := ia_b x46
  have b_x48 := ia_b x48
  have b_r60 := ia_b r60
  have b_r177 := ia_b r177
  try have k_0 := ia_n 0 (by first | decide | omega)
  try have k_1 := ia_n 1 (by first | decide | omega)
  try simp only [ia_lt, ia_le, ia_eq, ia_m1, ia_0, ia_1, ne_eq, true_and, and_true, false_and, and_false, or_false, false_or, or_true, true_or, not_true_eq_false, not_false_eq_true] at *
  all_goals omega
set_option maxRecDepth 20000 in
theorem lf_x_goP_177 (ksize : Nat) (kto : Nat) (ktapeF : Nat → Int32) (k5 : Nat) (n10 : Nat) (y18 : Int32) (r24 : Int32) (x46 : Int32) (k47 : Nat) (x48 : Int32) (n57 : Nat) (r60 : Int32) (r177 : Int32) (iv_ko_1 : ksize ≤ 940) (iv_ko_3 : kto ≤ ksize) (j6 : k5 ≤ 940) (j7 : k5 ≤ ksize) (j8 : kto ≤ k5) (hm12 : 940 - k5 < n10 + 1) (c17 : k5 < ksize) (e19 : y18 = ktapeF k5) (p25 : r24 = nI 0 ∨ r24 = nI 1) (j50 : x46 = nI 0 ∨ x46 = nI 1) (j51 : k47 ≤ 941) (j52 : k47 ≤ ksize) (j53 : kto ≤ k47) (j54 : k5 ≤ k47) (j55 : (x46 = nI 0 ∨ r24 = nI 1) ∨ (0 ≤ x48.toInt ∧ x48.toInt ≤ 999 ∧ (k5 + 3 ≤ k47 ∨ x48.toInt ≤ 99) ∧ (k5 + 2 ≤ k47 ∨ x48.toInt ≤ 9) ∧ (k5 + 1 ≤ k47 ∨ x48.toInt ≤ 0))) (hm59 : 940 - k47 < n57 + 1) (p61 : (k47 < ksize ∧ r60 = ktapeF k47) ∨ (ksize ≤ k47 ∧ r60 = nI 0)) (t66 : ¬ (97 ≤ r60.toInt ∧ r60.toInt ≤ 122)) (p178 : (k47 < ksize ∧ r177 = ktapeF k47) ∨ (ksize ≤ k47 ∧ r177 = nI 0)) (t183 : ¬ (48 ≤ r177.toInt ∧ r177.toInt ≤ 57)) (c294 : ¬ x46 = 0) (c295 : r24 = 0) (c296 : (k47 - k5) ≤ 3) : ¬ (nI 3) = nI 4 ∨ kto < k47 := by
  have b_y18 := ia_b y18
  have b_r24 := ia_b r24
  have b_x46 := ia_b x46
  have b_x48 := ia_b x48
  have b_r60 := ia_b r60
  have b_r177 := ia_b r177
  try have k_0 := ia_n 0 (by first | decide | omega)
  try have k_1 := ia_n 1 (by first | decide | omega)
  try have k_2 := ia_n 3 (by first | decide | omega)
  try have k_3 := ia_n 4 (by first | decide | omega)
  try simp only [ia_lt, ia_le, ia_eq, ia_m1, ia_0, ia_1, ne_eq, true_and, and_true, false_and, and_false, or_false, false_or, or_true, true_or, not_true_eq_false, not_false_eq_true] at *
  all_goals omega
set_option maxRecDepth 20000 in
theorem lf_x_goP_178 (ksize : Nat) (kto : Nat) (ktapeF : Nat → Int32) (k5 : Nat) (n10 : Nat) (y18 : Int32) (r24 : Int32) (x46 : Int32) (k47 : Nat) (x48 : Int32) (n57 : Nat) (r60 : Int32) (r177 : Int32) (iv_ko_1 : ksize ≤ 940) (iv_ko_3 : kto ≤ ksize) (j6 : k5 ≤ 940) (j7 : k5 ≤ ksize) (j8 : kto ≤ k5) (hm12 : 940 - k5 < n10 + 1) (c17 : k5 < ksize) (e19 : y18 = ktapeF k5) (p25 : r24 = nI 0 ∨ r24 = nI 1) (j50 : x46 = nI 0 ∨ x46 = nI 1) (j51 : k47 ≤ 941) (j52 : k47 ≤ ksize) (j53 : kto ≤ k47) (j54 : k5 ≤ k47) (j55 : (x46 = nI 0 ∨ r24 = nI 1) ∨ (0 ≤ x48.toInt ∧ x48.toInt ≤ 999 ∧ (k5 + 3 ≤ k47 ∨ x48.toInt ≤ 99) ∧ (k5 + 2 ≤ k47 ∨ x48.toInt ≤ 9) ∧ (k5 + 1 ≤ k47 ∨ x48.toInt ≤ 0))) (hm59 : 940 - k47 < n57 + 1) (p61 : (k47 < ksize ∧ r60 = ktapeF k47) ∨ (ksize ≤ k47 ∧ r60 = nI 0)) (t66 : ¬ (97 ≤ r60.toInt ∧ r60.toInt ≤ 122)) (p178 : (k47 < ksize ∧ r177 = ktapeF k47) ∨ (ksize ≤ k47 ∧ r177 = nI 0)) (t183 : ¬ (48 ≤ r177.toInt ∧ r177.toInt ≤ 57)) (c294 : ¬ x46 = 0) (c295 : r24 = 0) (c296 : (k47 - k5) ≤ 3) : ¬ (nI 3) = nI 3 ∨ 0 ≤ x48.toInt := by
  have b_y18 := ia_b y18
  have b_r24 := ia_b r24
  have b_x46 := ia_b x46
  have b_x48 := ia_b x48
  have b_r60 := ia_b r60
  have b_r177 := ia_b r177
  try have k_0 := ia_n 0 (by first | decide | omega)
  try have k_1 := ia_n 1 (by first | decide | omega)
  try have k_2 := ia_n 3 (by first | decide | omega)
  try simp only [ia_lt, ia_le, ia_eq, ia_m1, ia_0, ia_1, ne_eq, true_and, and_true, false_and, and_false, or_false, false_or, or_true, true_or, not_true_eq_false, not_false_eq_true] at *
  all_goals omega
set_option maxRecDepth 20000 in
theorem lf_x_goP_179 (ksize : Nat) (kto : Nat) (ktapeF : Nat → Int32) (k5 : Nat) (n10 : Nat) (y18 : Int32) (r24 : Int32) (x46 : Int32) (k47 : Nat) (x48 : Int32) (n57 : Nat) (r60 : Int32) (r177 : Int32) (iv_ko_1 : ksize ≤ 940) (iv_ko_3 : kto ≤ ksize) (j6 : k5 ≤ 940) (j7 : k5 ≤ ksize) (j8 : kto ≤ k5) (hm12 : 940 - k5 < n10 + 1) (c17 : k5 < ksize) (e19 : y18 = ktapeF k5) (p25 : r24 = nI 0 ∨ r24 = nI 1) (j50 : x46 = nI 0 ∨ x46 = nI 1) (j51 : k47 ≤ 941) (j52 : k47 ≤ ksize) (j53 : kto ≤ k47) (j54 : k5 ≤ k47) (j55 : (x46 = nI 0 ∨ r24 = nI 1) ∨ (0 ≤ x48.toInt ∧ x48.toInt ≤ 999 ∧ (k5 + 3 ≤ k47 ∨ x48.toInt ≤ 99) ∧ (k5 + 2 ≤ k47 ∨ x48.toInt ≤ 9) ∧ (k5 + 1 ≤ k47 ∨ x48.toInt ≤ 0))) (hm59 : 940 - k47 < n57 + 1) (p61 : (k47 < ksize ∧ r60 = ktapeF k47) ∨ (ksize ≤ k47 ∧ r60 = nI 0)) (t66 : ¬ (97 ≤ r60.toInt ∧ r60.toInt ≤ 122)) (p178 : (k47 < ksize ∧ r177 = ktapeF k47) ∨ (ksize ≤ k47 ∧ r177 = nI 0)) (t183 : ¬ (48 ≤ r177.toInt ∧ r177.toInt ≤ 57)) (c294 : ¬ x46 = 0) (c295 : r24 = 0) (c296 : 3 < (k47 - k5)) : ¬ (nI 1) = nI 4 ∨ kto < k47 := by
  have b_y18 := ia_b y18
  have b_r24 := ia_b r24
  have b_x46 := ia_b x46
  have b_x48 := ia_b x48
  have b_r60 := ia_b r60
  have b_r177 := ia_b r177
  try have k_0 := ia_n 0 (by first | decide | omega)
  try have k_1 := ia_n 1 (by first | decide | omega)
  try have k_2 := ia_n 4 (by first | decide | omega)
  try simp only [ia_lt, ia_le, ia_eq, ia_m1, ia_0, ia_1, ne_eq, true_and, and_true, false_and, and_false, or_false, false_or, or_true, true_or, not_true_eq_false, not_false_eq_true] at *
  all_goals omega
set_option maxRecDepth 20000 in
theorem lf_x_goP_180 (ksize : Nat) (kto : Nat) (ktapeF : Nat → Int32) (k5 : Nat) (n10 : Nat) (y18 : Int32) (r24 : Int32) (x46 : Int32) (k47 : Nat) (x48 : Int32) (n57 : Nat) (r60 : Int32) (r177 : Int32) (iv_ko_1 : ksize ≤ 940) (iv_ko_3 : kto ≤ ksize) (j6 : k5 ≤ 940) (j7 : k5 ≤ ksize) (j8 : kto ≤ k5) (hm12 : 940 - k5 < n10 + 1) (c17 : k5 < ksize) (e19 : y18 = ktapeF k5) (p25 : r24 = nI 0 ∨ r24 = nI 1) (j50 : x46 = nI 0 ∨ x46 = nI 1) (j51 : k47 ≤ 941) (j52 : k47 ≤ ksize) (j53 : kto ≤ k47) (j54 : k5 ≤ k47) (j55 : (x46 = nI 0 ∨ r24 = nI 1) ∨ (0 ≤ x48.toInt ∧ x48.toInt ≤ 999 ∧ (k5 + 3 ≤ k47 ∨ x48.toInt ≤ 99) ∧ (k5 + 2 ≤ k47 ∨ x48.toInt ≤ 9) ∧ (k5 + 1 ≤ k47 ∨ x48.toInt ≤ 0))) (hm59 : 940 - k47 < n57 + 1) (p61 : (k47 < ksize ∧ r60 = ktapeF k47) ∨ (ksize ≤ k47 ∧ r60 = nI 0)) (t66 : ¬ (97 ≤ r60.toInt ∧ r60.toInt ≤ 122)) (p178 : (k47 < ksize ∧ r177 = ktapeF k47) ∨ (ksize ≤ k47 ∧ r177 = nI 0)) (t183 : ¬ (48 ≤ r177.toInt ∧ r177.toInt ≤ 57)) (c294 : ¬ x46 = 0) (c295 : r24 = 0) (c296 : 3 < (k47 - k5)) : ¬ (nI 1) = nI 3 ∨ 0 ≤ x48.toInt := by
  have b_y18 := ia_b y18
  have b_r24 := ia_b r24
  have b_x46 := ia_b x46
  have b_x48 := ia_b x48
  have b_r60 := ia_b r60
  have b_r177 := ia_b r177
  try have k_0 := ia_n 0 (by first | decide | omega)
  try have k_1 := ia_n 1 (by first | decide | omega)
  try have k_2 := ia_n 3 (by first | decide | omega)
  try simp only [ia_lt, ia_le, ia_eq, ia_m1, ia_0, ia_1, ne_eq, true_and, and_true, false_and, and_false, or_false, false_or, or_true, true_or, not_true_eq_false, not_false_eq_true] at *
  all_goals omega
set_option maxRecDepth 20000 in
theorem lf_x_goP_181 (ksize : Nat) (kto : Nat) (ktapeF : Nat → Int32) (k5 : Nat) (n10 : Nat) (y18 : Int32) (r24 : Int32) (x46 : Int32) (k47 : Nat) (x48 : Int32) (n57 : Nat) (r60 : Int32) (r177 : Int32) (iv_ko_1 : ksize ≤ 940) (iv_ko_3 : kto ≤ ksize) (j6 : k5 ≤ 940) (j7 : k5 ≤ ksize) (j8 : kto ≤ k5) (hm12 : 940 - k5 < n10 + 1) (c17 : k5 < ksize) (e19 : y18 = ktapeF k5) (p25 : r24 = nI 0 ∨ r24 = nI 1) (j50 : x46 = nI 0 ∨ x46 = nI 1) (j51 : k47 ≤ 941) (j52 : k47 ≤ ksize) (j53 : kto ≤ k47) (j54 : k5 ≤ k47) (j55 : (x46 = nI 0 ∨ r24 = nI 1) ∨ (0 ≤ x48.toInt ∧ x48.toInt ≤ 999 ∧ (k5 + 3 ≤ k47 ∨ x48.toInt ≤ 99) ∧ (k5 + 2 ≤ k47 ∨ x48.toInt ≤ 9) ∧ (k5 + 1 ≤ k47 ∨ x48.toInt ≤ 0))) (hm59 : 940 - k47 < n57 + 1) (p61 : (k47 < ksize ∧ r60 = ktapeF k47) ∨ (ksize ≤ k47 ∧ r60 = nI 0)) (t66 : ¬ (97 ≤ r60.toInt ∧ r60.toInt ≤ 122)) (p178 : (k47 < ksize ∧ r177 = ktapeF k47) ∨ (ksize ≤ k47 ∧ r177 = nI 0)) (t183 : ¬ (48 ≤ r177.toInt ∧ r177.toInt ≤ 57)) (c294 : ¬ x46 = 0) (c295 : ¬ r24 = 0) (c298 : (k47 - k5) ≤ 7) : ¬ (nI 2) = nI 4 ∨ kto < k47 := by
  have b_y18 := ia_b y18
  have b_r24 := ia_b r24
  have b_x46 := ia_b x46
  have b_x48 := ia_b x48
  have b_r60 := ia_b r60
  have b_r177 := ia_b r177
  try have k_0 := ia_n 0 (by first | decide | omega)
  try have k_1 := ia_n 1 (by first | decide | omega)
  try have k_2 := ia_n 2 (by first | decide | omega)
  try have k_3 := ia_n 4 (by first | decide | omega)
  try simp only [ia_lt, ia_le, ia_eq, ia_m1, ia_0, ia_1, ne_eq, true_and, and_true, false_and, and_false, or_false, false_or, or_true, true_or, not_true_eq_false, not_false_eq_true] at *
  all_goals omega
set_option maxRecDepth 20000 in
theorem lf_x_goP_182 (ksize : Nat) (kto : Nat) (ktapeF : Nat → Int32) (k5 : Nat) (n10 : Nat) (y18 : Int32) (r24 : Int32) (x46 : Int32) (k47 : Nat) (x48 : Int32) (n57 : Nat) (r60 : Int32) (r177 : Int32) (iv_ko_1 : ksize ≤ 940) (iv_ko_3 : kto ≤ ksize) (j6 : k5 ≤ 940) (j7 : k5 ≤ ksize) (j8 : kto ≤ k5) (hm12 : 940 - k5 < n10 + 1) (c17 : k5 < ksize) (e19 : y18 = ktapeF k5) (p25 : r24 = nI 0 ∨ r24 = nI 1) (j50 : x46 = nI 0 ∨ x46 = nI 1) (j51 : k47 ≤ 941) (j52 : k47 ≤ ksize) (j53 : kto ≤ k47) (j54 : k5 ≤ k47) (j55 : (x46 = nI 0 ∨ r24 = nI 1) ∨ (0 ≤ x48.toInt ∧ x48.toInt ≤ 999 ∧ (k5 + 3 ≤ k47 ∨ x48.toInt ≤ 99) ∧ (k5 + 2 ≤ k47 ∨ x48.toInt ≤ 9) ∧ (k5 + 1 ≤ k47 ∨ x48.toInt ≤ 0))) (hm59 : 940 - k47 < n57 + 1) (p61 : (k47 < ksize ∧ r60 = ktapeF k47) ∨ (ksize ≤ k47 ∧ r60 = nI 0)) (t66 : ¬ (97 ≤ r60.toInt ∧ r60.toInt ≤ 122)) (p178 : (k47 < ksize ∧ r177 = ktapeF k47) ∨ (ksize ≤ k47 ∧ r177 = nI 0)) (t183 : ¬ (48 ≤ r177.toInt ∧ r177.toInt ≤ 57)) (c294 : ¬ x46 = 0) (c295 : ¬ r24 = 0) (c298 : (k47 - k5) ≤ 7) : ¬ (nI 2) = nI 3 ∨ 0 ≤ x48.toInt := by
  have b_y18 := ia_b y18
  have b_r24 := ia_b r24
  have b_x46 := ia_b x46
  have b_x48 := ia_b x48
  have b_r60 := ia_b r60
  have b_r177 := ia_b r177
  try have k_0 := ia_n 0 (by first | decide | omega)
  try have k_1 := ia_n 1 (by first | decide | omega)
  try have k_2 := ia_n 2 (by first | decide | omega)
  try have k_3 := ia_n 3 (by first | decide | omega)
  try simp only [ia_lt, ia_le, ia_eq, ia_m1, ia_0, ia_1, ne_eq, true_and, and_true, false_and, and_false, or_false, false_or, or_true, true_or, not_true_eq_false, not_false_eq_true] at *
  all_goals omega
set_option maxRecDepth 20000 in
theorem lf_x_goP_183 (ksize : Nat) (kto : Nat) (ktapeF : Nat → Int32) (k5 : Nat) (n10 : Nat) (y18 : Int32) (r24 : Int32) (x46 : Int32) (k47 : Nat) (x48 : Int32) (n57 : Nat) (r60 : Int32) (r177 : Int32) (iv_ko_1 : ksize ≤ 940) (iv_ko_3 : kto ≤ ksize) (j6 : k5 ≤ 940) (j7 : k5 ≤ ksize) (j8 : kto ≤ k5) (hm12 : 940 - k5 < n10 + 1) (c17 : k5 < ksize) (e19 : y18 = ktapeF k5) (p25 : r24 = nI 0 ∨ r24 = nI 1) (j50 : x46 = nI 0 ∨ x46 = nI 1) (j51 : k47 ≤ 941) (j52 : k47 ≤ ksize) (j53 : kto ≤ k47) (j54 : k5 ≤ k47) (j55 : (x46 = nI 0 ∨ r24 = nI 1) ∨ (0 ≤ x48.toInt ∧ x48.toInt ≤ 999 ∧ (k5 + 3 ≤ k47 ∨ x48.toInt ≤ 99) ∧ (k5 + 2 ≤ k47 ∨ x48.toInt ≤ 9) ∧ (k5 + 1 ≤ k47 ∨ x48.toInt ≤ 0))) (hm59 : 940 - k47 < n57 + 1) (p61 : (k47 < ksize ∧ r60 = ktapeF k47) ∨ (ksize ≤ k47 ∧ r60 = nI 0)) (t66 : ¬ (97 ≤ r60.toInt ∧ r60.toInt ≤ 122)) (p178 : (k47 < ksize ∧ r177 = ktapeF k47) ∨ (ksize ≤ k47 ∧ r177 = nI 0)) (t183 : ¬ (48 ≤ r177.toInt ∧ r177.toInt ≤ 57)) (c294 : ¬ x46 = 0) (c295 : ¬ r24 = 0) (c298 : 7 < (k47 - k5)) : ¬ (nI 1) = nI 4 ∨ kto < k47 := by
  have b_y18 := ia_b y18
  have b_r24 := ia_b r24
  have b_x46 := ia_b x46
  have b_x48 := ia_b x48
  have b_r60 := ia_b r60
  have b_r177 := ia_b r177
  try have k_0 := ia_n 0 (by first | decide | omega)
  try have k_1 := ia_n 1 (by first | decide | omega)
  try have k_2 := ia_n 4 (by first | decide | omega)
  try simp only [ia_lt, ia_le, ia_eq, ia_m1, ia_0, ia_1, ne_eq, true_and, and_true, false_and, and_false, or_false, false_or, or_true, true_or, not_true_eq_false, not_false_eq_true] at *
  all_goals omega
set_option maxRecDepth 20000 in
theorem lf_x_goP_184 (ksize : Nat) (kto : Nat) (ktapeF : Nat → Int32) (k5 : Nat) (n10 : Nat) (y18 : Int32) (r24 : Int32) (x46 : Int32) (k47 : Nat) (x48 : Int32) (n57 : Nat) (r60 : Int32) (r177 : Int32) (iv_ko_1 : ksize ≤ 940) (iv_ko_3 : kto ≤ ksize) (j6 : k5 ≤ 940) (j7 : k5 ≤ ksize) (j8 : kto ≤ k5) (hm12 : 940 - k5 < n10 + 1) (c17 : k5 < ksize) (e19 : y18 = ktapeF k5) (p25 : r24 = nI 0 ∨ r24 = nI 1) (j50 : x46 = nI 0 ∨ x46 = nI 1) (j51 : k47 ≤ 941) (j52 : k47 ≤ ksize) (j53 : kto ≤ k47) (j54 : k5 ≤ k47) (j55 : (x46 = nI 0 ∨ r24 = nI 1) ∨ (0 ≤ x48.toInt ∧ x48.toInt ≤ 999 ∧ (k5 + 3 ≤ k47 ∨ x48.toInt ≤ 99) ∧ (k5 + 2 ≤ k47 ∨ x48.toInt ≤ 9) ∧ (k5 + 1 ≤ k47 ∨ x48.toInt ≤ 0))) (hm59 : 940 - k47 < n57 + 1) (p61 : (k47 < ksize ∧ r60 = ktapeF k47) ∨ (ksize ≤ k47 ∧ r60 = nI 0)) (t66 : ¬ (97 ≤ r60.toInt ∧ r60.toInt ≤ 122)) (p178 : (k47 < ksize ∧ r177 = ktapeF k47) ∨ (ksize ≤ k47 ∧ r177 = nI 0)) (t183 : ¬ (48 ≤ r177.toInt ∧ r177.toInt ≤ 57)) (c294 : ¬ x46 = 0) (c295 : ¬ r24 = 0) (c298 : 7 < (k47 - k5)) : ¬ (nI 1) = nI 3 ∨ 0 ≤ x48.toInt := by
  have b_y18 := ia_b y18
  have b_r24 := ia_b r24
  have b_x46 := ia_b x46
  have b_x48 := ia_b x48
  have b_r60 := ia_b r60
  have b_r177 := ia_b r177
  try have k_0 := ia_n 0 (by first | decide | omega)
  try have k_1 := ia_n 1 (by first | decide | omega)
  try have k_2 := ia_n 3 (by first | decide | omega)
  try simp only [ia_lt, ia_le, ia_eq, ia_m1, ia_0, ia_1, ne_eq, true_and, and_true, false_and, and_false, or_false, false_or, or_true, true_or, not_true_eq_false, not_false_eq_true] at *
  all_goals omega
set_option maxRecDepth 20000 in
theorem lf_x_goP_185   : (nI 1) = nI 0 ∨ (nI 1) = nI 1 := by
  try have k_0 := ia_n 1 (by first | decide | omega)
  try have k_1 := ia_n 0 (by first | decide | omega)
  try simp only [ia_lt, ia_le, ia_eq, ia_m1, ia_0, ia_1, ne_eq, true_and, and_true, false_and, and_false, or_false, false_or, or_true, true_or, not_true_eq_false, not_false_eq_true] at *
  all_goals omega
set_option maxRecDepth 20000 in
theorem lf_x_goP_186 (ksize : Nat) (kto : Nat) (ktapeF : Nat → Int32) (k5 : Nat) (n10 : Nat) (y18 : Int32) (iv_ko_1 : ksize ≤ 940) (iv_ko_3 : kto ≤ ksize) (j6 : k5 ≤ 940) (j7 : k5 ≤ ksize) (j8 : kto ≤ k5) (hm12 : 940 - k5 < n10 + 1) (c17 : k5 < ksize) (e19 : y18 = ktapeF k5) : k5 ≤ 941 := by
  have b_y18 := ia_b y18
  try simp only [ia_lt, ia_le, ia_eq, ia_m1, ia_0, ia_1, ne_eq, true_and, and_true, false_and, and_false, or_false, false_or, or_true, true_or, not_true_eq_false, not_false_eq_true] at *
  all_goals omega
set_option maxRecDepth 20000 in
theorem lf_x_goP_187 (ksize : Nat) (kto : Nat) (ktapeF : Nat → Int32) (k5 : Nat) (n10 : Nat) (y18 : Int32) (iv_ko_1 : ksize ≤ 940) (iv_ko_3 : kto ≤ ksize) (j6 : k5 ≤ 940) (j7 : k5 ≤ ksize) (j8 : kto ≤ k5) (hm12 : 940 - k5 < n10 + 1) (c17 : k5 < ksize) (e19 : y18 = ktapeF k5) : k5 ≤ k5 := by
  have b_y18 := ia_b y18
  try simp only [ia_lt, ia_le, ia_eq, ia_m1, ia_0, ia_1, ne_eq, true_and, and_true, false_and, and_false, or_false, false_or, or_true, true_or, not_true_eq_false, not_false_eq_true] at *
  all_goals omega
set_option maxRecDepth 20000 in
theorem lf_x_goP_188 (ksize : Nat) (kto : Nat) (ktapeF : Nat → Int32) (k5 : Nat) (n10 : Nat) (y18 : Int32) (r24 : Int32) (iv_ko_1 : ksize ≤ 940) (iv_ko_3 : kto ≤ ksize) (j6 : k5 ≤ 940) (j7 : k5 ≤ ksize) (j8 : kto ≤ k5) (hm12 : 940 - k5 < n10 + 1) (c17 : k5 < ksize) (e19 : y18 = ktapeF k5) (p25 : r24 = nI 0 ∨ r24 = nI 1) : ((nI 1) = nI 0 ∨ r24 = nI 1) ∨ (0 ≤ (nI 0).toInt ∧ (nI 0).toInt ≤ 999 ∧ (k5 + 3 ≤ k5 ∨ (nI 0).toInt ≤ 99) ∧ (k5 + 2 ≤ k5 ∨ (nI 0).toInt ≤ 9) ∧ (k5 + 1 ≤ k5 ∨ (nI 0).toInt ≤ 0)) := by
  have b_y18 := ia_b y18
  have b_r24 := ia_b r24
  try have k_0 := ia_n 0 (by first | decide | omega)
  try have k_1 := ia_n 1 (by first | decide | omega)
  try simp only [ia_lt, ia_le, ia_eq, ia_m1, ia_0, ia_1, ne_eq, true_and, and_true, false_and, and_false, or_false, false_or, or_true, true_or, not_true_eq_false, not_false_eq_true] at *
  all_goals omega
set_option maxRecDepth 20000 in
theorem lf_x_goP_189 (ksize : Nat) (kto : Nat) (ktapeF : Nat → Int32) (k5 : Nat) (n10 : Nat) (y18 : Int32) (iv_ko_1 : ksize ≤ 940) (iv_ko_3 : kto ≤ ksize) (j6 : k5 ≤ 940) (j7 : k5 ≤ ksize) (j8 : kto ≤ k5) (hm12 : 940 - k5 < n10 + 1) (c17 : k5 < ksize) (e19 : y18 = ktapeF k5) : (k5 + 1) ≤ ksize := by
  have b_y18 := ia_b y18
  try simp only [ia_lt, ia_le, ia_eq, ia_m1, ia_0, ia_1, ne_eq, true_and, and_true, false_and, and_false, or_false, false_or, or_true, true_or, not_true_eq_false, not_false_eq_true] at *
  all_goals omega
set_option maxRecDepth 20000 in
theorem lf_x_goP_190 (ksize : Nat) (kto : Nat) (ktapeF : Nat → Int32) (k5 : Nat) (n10 : Nat) (y18 : Int32) (iv_ko_1 : ksize ≤ 940) (iv_ko_3 : kto ≤ ksize) (j6 : k5 ≤ 940) (j7 : k5 ≤ ksize) (j8 : kto ≤ k5) (hm12 : 940 - k5 < n10 + 1) (c17 : k5 < ksize) (e19 : y18 = ktapeF k5) : kto ≤ (k5 + 1) := by
  have b_y18 := ia_b y18
  try simp only [ia_lt, ia_le, ia_eq, ia_m1, ia_0, ia_1, ne_eq, true_and, and_true, false_and, and_false, or_false, false_or, or_true, true_or, not_true_eq_false, not_false_eq_true] at *
  all_goals omega
set_option maxRecDepth 20000 in
theorem lf_x_goP_191 (ksize : Nat) (kto : Nat) (ktapeF : Nat → Int32) (k5 : Nat) (n10 : Nat) (y18 : Int32) (x304 : Int32) (iv_ko_1 : ksize ≤ 940) (iv_ko_3 : kto ≤ ksize) (j6 : k5 ≤ 940) (j7 : k5 ≤ ksize) (j8 : kto ≤ k5) (hm12 : 940 - k5 < n10 + 1) (c17 : k5 < ksize) (e19 : y18 = ktapeF k5) (j305 : x304 = nI 1 ∨ x304 = nI 4) : ¬ x304 = nI 4 ∨ kto < (k5 + 1) := by
  have b_y18 := ia_b y18
  have b_x304 := ia_b x304
  try have k_0 := ia_n 1 (by first | decide | omega)
  try have k_1 := ia_n 4 (by first | decide | omega)
  try simp only [ia_lt, ia_le, ia_eq, ia_m1, ia_0, ia_1, ne_eq, true_and, and_true, false_and, and_false, or_false, false_or, or_true, true_or, not_true_eq_false, not_false_eq_true] at *
  all_goals omega
set_option maxRecDepth 20000 in
theorem lf_x_goP_192 (knumber : Int32) (x304 : Int32) (j305 : x304 = nI 1 ∨ x304 = nI 4) : ¬ x304 = nI 3 ∨ 0 ≤ knumber.toInt := by
  have b_knumber := ia_b knumber
  have b_x304 := ia_b x304
  try have k_0 := ia_n 1 (by first | decide | omega)
  try have k_1 := ia_n 4 (by first | decide | omega)
  try have k_2 := ia_n 3 (by first | decide | omega)
  try simp only [ia_lt, ia_le, ia_eq, ia_m1, ia_0, ia_1, ne_eq, true_and, and_true, false_and, and_false, or_false, false_or, or_true, true_or, not_true_eq_false, not_false_eq_true] at *
  all_goals omega
set_option maxRecDepth 20000 in
theorem lf_x_goP_193   : (nI 4) = nI 1 ∨ (nI 4) = nI 4 := by
  try have k_0 := ia_n 4 (by first | decide | omega)
  try have k_1 := ia_n 1 (by first | decide | omega)
  try simp only [ia_lt, ia_le, ia_eq, ia_m1, ia_0, ia_1, ne_eq, true_and, and_true, false_and, and_false, or_false, false_or, or_true, true_or, not_true_eq_false, not_false_eq_true] at *
  all_goals omega
set_option maxRecDepth 20000 in
theorem lf_x_goP_194   : (nI 4) = nI 1 ∨ (nI 4) = nI 4 := by
  try have k_0 := ia_n 4 (by first | decide | omega)
  try have k_1 := ia_n 1 (by first | decide | omega)
  try simp only [ia_lt, ia_le, ia_eq, ia_m1, ia_0, ia_1, ne_eq, true_and, and_true, false_and, and_false, or_false, false_or, or_true, true_or, not_true_eq_false, not_false_eq_true] at *
  all_goals omega
set_option maxRecDepth 20000 in
theorem lf_x_goP_195   : (nI 4) = nI 1 ∨ (nI 4) = nI 4 := by
  try have k_0 := ia_n 4 (by first | decide | omega)
  try have k_1 := ia_n 1 (by first | decide | omega)
  try simp only [ia_lt, ia_le, ia_eq, ia_m1, ia_0, ia_1, ne_eq, true_and, and_true, false_and, and_false, or_false, false_or, or_true, true_or, not_true_eq_false, not_false_eq_true] at *
  all_goals omega
set_option maxRecDepth 20000 in
theorem lf_x_goP_196   : (nI 4) = nI 1 ∨ (nI 4) = nI 4 := by
  try have k_0 := ia_n 4 (by first | decide | omega)
  try have k_1 := ia_n 1 (by first | decide | omega)
  try simp only [ia_lt, ia_le, ia_eq, ia_m1, ia_0, ia_1, ne_eq, true_and, and_true, false_and, and_false, or_false, false_or, or_true, true_or, not_true_eq_false, not_false_eq_true] at *
  all_goals omega
set_option maxRecDepth 20000 in
theorem lf_x_goP_197   : (nI 4) = nI 1 ∨ (nI 4) = nI 4 := by
  try have k_0 := ia_n 4 (by first | decide | omega)
  try have k_1 := ia_n 1 (by first | decide | omega)
  try simp only [ia_lt, ia_le, ia_eq, ia_m1, ia_0, ia_1, ne_eq, true_and, and_true, false_and, and_false, or_false, false_or, or_true, true_or, not_true_eq_false, not_false_eq_true] at *
  all_goals omega
set_option maxRecDepth 20000 in
theorem lf_x_goP_198   : (nI 1) = nI 1 ∨ (nI 1) = nI 4 := by
  try have k_0 := ia_n 1 (by first | decide | omega)
  try have k_1 := ia_n 4 (by first | decide | omega)
  try simp only [ia_lt, ia_le, ia_eq, ia_m1, ia_0, ia_1, ne_eq, true_and, and_true, false_and, and_false, or_false, false_or, or_true, true_or, not_true_eq_false, not_false_eq_true] at *
  all_goals omega
set_option maxRecDepth 20000 in
theorem lf_x_goP_199   : (nI 4) = nI 1 ∨ (nI 4) = nI 4 := by
  try have k_0 := ia_n 4 (by first | decide | omega)
  try have k_1 := ia_n 1 (by first | decide | omega)
  try simp only [ia_lt, ia_le, ia_eq, ia_m1, ia_0, ia_1, ne_eq, true_and, and_true, false_and, and_false, or_false, false_or, or_true, true_or, not_true_eq_false, not_false_eq_true] at *
  all_goals omega
set_option maxRecDepth 20000 in
theorem lf_x_goP_200 (ksize : Nat) (kto : Nat) (k5 : Nat) (n10 : Nat) (iv_ko_1 : ksize ≤ 940) (iv_ko_3 : kto ≤ ksize) (j6 : k5 ≤ 940) (j7 : k5 ≤ ksize) (j8 : kto ≤ k5) (hm12 : 940 - k5 < n10 + 1) (c17 : ksize ≤ k5) : ¬ (nI 0) = nI 4 ∨ kto < k5 := by
  try have k_0 := ia_n 0 (by first | decide | omega)
  try have k_1 := ia_n 4 (by first | decide | omega)
  try simp only [ia_lt, ia_le, ia_eq, ia_m1, ia_0, ia_1, ne_eq, true_and, and_true, false_and, and_false, or_false, false_or, or_true, true_or, not_true_eq_false, not_false_eq_true] at *
  all_goals omega
set_option maxRecDepth 20000 in
theorem lf_x_goP_201 (knumber : Int32)  : ¬ (nI 0) = nI 3 ∨ 0 ≤ knumber.toInt := by
  have b_knumber := ia_b knumber
  try have k_0 := ia_n 0 (by first | decide | omega)
  try have k_1 := ia_n 3 (by first | decide | omega)
  try simp only [ia_lt, ia_le, ia_eq, ia_m1, ia_0, ia_1, ne_eq, true_and, and_true, false_and, and_false, or_false, false_or, or_true, true_or, not_true_eq_false, not_false_eq_true] at *
  all_goals omega
set_option maxRecDepth 20000 in
theorem lf_x_goP_202 (ksize : Nat) (klimit : Nat) (kto : Nat) (k5 : Nat) (n10 : Nat) (iv_ko_1 : ksize ≤ 940) (iv_ko_2 : klimit ≤ 900) (iv_ko_3 : kto ≤ ksize) (j6 : k5 ≤ 940) (j7 : k5 ≤ ksize) (j8 : kto ≤ k5) (hm12 : 940 - k5 < n10 + 1) (c15 : klimit < ksize) (c312 : klimit ≤ k5) : klimit ≤ 940 := by
  try simp only [ia_lt, ia_le, ia_eq, ia_m1, ia_0, ia_1, ne_eq, true_and, and_true, false_and, and_false, or_false, false_or, or_true, true_or, not_true_eq_false, not_false_eq_true] at *
  all_goals omega
set_option maxRecDepth 20000 in
theorem lf_x_goP_203 (ksize : Nat) (klimit : Nat) (kto : Nat) (k5 : Nat) (n10 : Nat) (iv_ko_1 : ksize ≤ 940) (iv_ko_2 : klimit ≤ 900) (iv_ko_3 : kto ≤ ksize) (j6 : k5 ≤ 940) (j7 : k5 ≤ ksize) (j8 : kto ≤ k5) (hm12 : 940 - k5 < n10 + 1) (c15 : klimit < ksize) (c312 : klimit ≤ k5) : ¬ (nI 1) = nI 4 ∨ kto < k5 := by
  try have k_0 := ia_n 1 (by first | decide | omega)
  try have k_1 := ia_n 4 (by first | decide | omega)
  try simp only [ia_lt, ia_le, ia_eq, ia_m1, ia_0, ia_1, ne_eq, true_and, and_true, false_and, and_false, or_false, false_or, or_true, true_or, not_true_eq_false, not_false_eq_true] at *
  all_goals omega
set_option maxRecDepth 20000 in
theorem lf_x_goP_204 (knumber : Int32)  : ¬ (nI 1) = nI 3 ∨ 0 ≤ knumber.toInt := by
  have b_knumber := ia_b knumber
  try have k_0 := ia_n 1 (by first | decide | omega)
  try have k_1 := ia_n 3 (by first | decide | omega)
  try simp only [ia_lt, ia_le, ia_eq, ia_m1, ia_0, ia_1, ne_eq, true_and, and_true, false_and, and_false, or_false, false_or, or_true, true_or, not_true_eq_false, not_false_eq_true] at *
  all_goals omega
set_option maxRecDepth 20000 in
theorem lf_x_goP_205 (ksize : Nat) (kto : Nat) (ktapeF : Nat → Int32) (k5 : Nat) (n10 : Nat) (y313 : Int32) (iv_ko_1 : ksize ≤ 940) (iv_ko_3 : kto ≤ ksize) (j6 : k5 ≤ 940) (j7 : k5 ≤ ksize) (j8 : kto ≤ k5) (hm12 : 940 - k5 < n10 + 1) (c13 : k5 < ksize) (e314 : y313 = ktapeF k5) : k5 < 940 := by
  have b_y313 := ia_b y313
  try simp only [ia_lt, ia_le, ia_eq, ia_m1, ia_0, ia_1, ne_eq, true_and, and_true, false_and, and_false, or_false, false_or, or_true, true_or, not_true_eq_false, not_false_eq_true] at *
  all_goals omega
set_option maxRecDepth 20000 in
theorem lf_x_goP_206 (ksize : Nat) (kto : Nat) (ktapeF : Nat → Int32) (k5 : Nat) (n10 : Nat) (y313 : Int32) (iv_ko_1 : ksize ≤ 940) (iv_ko_3 : kto ≤ ksize) (j6 : k5 ≤ 940) (j7 : k5 ≤ ksize) (j8 : kto ≤ k5) (hm12 : 940 - k5 < n10 + 1) (c13 : k5 < ksize) (e314 : y313 = ktapeF k5) (c315 : y313 = nI 32) : (k5 + 1) ≤ 940 := by
  have b_y313 := ia_b y313
  try have k_0 := ia_n 32 (by first | decide | omega)
  try simp only [ia_lt, ia_le, ia_eq, ia_m1, ia_0, ia_1, ne_eq, true_and, and_true, false_and, and_false, or_false, false_or, or_true, true_or, not_true_eq_false, not_false_eq_true] at *
  all_goals omega
set_option maxRecDepth 20000 in
theorem lf_x_goP_207 (ksize : Nat) (kto : Nat) (ktapeF : Nat → Int32) (k5 : Nat) (n10 : Nat) (y313 : Int32) (iv_ko_1 : ksize ≤ 940) (iv_ko_3 : kto ≤ ksize) (j6 : k5 ≤ 940) (j7 : k5 ≤ ksize) (j8 : kto ≤ k5) (hm12 : 940 - k5 < n10 + 1) (c13 : k5 < ksize) (e314 : y313 = ktapeF k5) (c315 : y313 = nI 32) : (k5 + 1) ≤ ksize := by
  have b_y313 := ia_b y313
  try have k_0 := ia_n 32 (by first | decide | omega)
  try simp only [ia_lt, ia_le, ia_eq, ia_m1, ia_0, ia_1, ne_eq, true_and, and_true, false_and, and_false, or_false, false_or, or_true, true_or, not_true_eq_false, not_false_eq_true] at *
  all_goals omega
set_option maxRecDepth 20000 in
theorem lf_x_goP_208 (ksize : Nat) (kto : Nat) (ktapeF : Nat → Int32) (k5 : Nat) (n10 : Nat) (y313 : Int32) (iv_ko_1 : ksize ≤ 940) (iv_ko_3 : kto ≤ ksize) (j6 : k5 ≤ 940) (j7 : k5 ≤ ksize) (j8 : kto ≤ k5) (hm12 : 940 - k5 < n10 + 1) (c13 : k5 < ksize) (e314 : y313 = ktapeF k5) (c315 : y313 = nI 32) : kto ≤ (k5 + 1) := by
  have b_y313 := ia_b y313
  try have k_0 := ia_n 32 (by first | decide | omega)
  try simp only [ia_lt, ia_le, ia_eq, ia_m1, ia_0, ia_1, ne_eq, true_and, and_true, false_and, and_false, or_false, false_or, or_true, true_or, not_true_eq_false, not_false_eq_true] at *
  all_goals omega
set_option maxRecDepth 20000 in
theorem lf_x_goP_209 (ksize : Nat) (kto : Nat) (ktapeF : Nat → Int32) (k5 : Nat) (n10 : Nat) (y313 : Int32) (iv_ko_1 : ksize ≤ 940) (iv_ko_3 : kto ≤ ksize) (j6 : k5 ≤ 940) (j7 : k5 ≤ ksize) (j8 : kto ≤ k5) (hm12 : 940 - k5 < n10 + 1) (c13 : k5 < ksize) (e314 : y313 = ktapeF k5) (c315 : y313 = nI 32) : 940 - (k5 + 1) < n10 := by
  have b_y313 := ia_b y313
  try have k_0 := ia_n 32 (by first | decide | omega)
  try simp only [ia_lt, ia_le, ia_eq, ia_m1, ia_0, ia_1, ne_eq, true_and, and_true, false_and, and_false, or_false, false_or, or_true, true_or, not_true_eq_false, not_false_eq_true] at *
  all_goals omega
set_option maxRecDepth 20000 in
theorem lf_x_goP_210 (ksize : Nat) (kto : Nat) (ktapeF : Nat → Int32) (k5 : Nat) (n10 : Nat) (y313 : Int32) (y316 : Int32) (iv_ko_1 : ksize ≤ 940) (iv_ko_3 : kto ≤ ksize) (j6 : k5 ≤ 940) (j7 : k5 ≤ ksize) (j8 : kto ≤ k5) (hm12 : 940 - k5 < n10 + 1) (c13 : k5 < ksize) (e314 : y313 = ktapeF k5) (c315 : ¬ y313 = nI 32) (e317 : y316 = ktapeF k5) : k5 < 940 := by
  have b_y313 := ia_b y313
  have b_y316 := ia_b y316
  try have k_0 := ia_n 32 (by first | decide | omega)
  try simp only [ia_lt, ia_le, ia_eq, ia_m1, ia_0, ia_1, ne_eq, true_and, and_true, false_and, and_false, or_false, false_or, or_true, true_or, not_true_eq_false, not_false_eq_true] at *
  all_goals omega
set_option maxRecDepth 20000 in
theorem lf_x_goP_211 (ksize : Nat) (kto : Nat) (ktapeF : Nat → Int32) (k5 : Nat) (n10 : Nat) (y313 : Int32) (y316 : Int32) (iv_ko_1 : ksize ≤ 940) (iv_ko_3 : kto ≤ ksize) (j6 : k5 ≤ 940) (j7 : k5 ≤ ksize) (j8 : kto ≤ k5) (hm12 : 940 - k5 < n10 + 1) (c13 : k5 < ksize) (e314 : y313 = ktapeF k5) (c315 : ¬ y313 = nI 32) (e317 : y316 = ktapeF k5) (c318 : y316 = nI 10) : (k5 + 1) ≤ 940 := by
  have b_y313 := ia_b y313
  have b_y316 := ia_b y316
  try have k_0 := ia_n 32 (by first | decide | omega)
  try have k_1 := ia_n 10 (by first | decide | omega)
  try simp only [ia_lt, ia_le, ia_eq, ia_m1, ia_0, ia_1, ne_eq, true_and, and_true, false_and, and_false, or_false, false_or, or_true, true_or, not_true_eq_false, not_false_eq_true] at *
  all_goals omega
set_option maxRecDepth 20000 in
theorem lf_x_goP_212 (ksize : Nat) (kto : Nat) (ktapeF : Nat → Int32) (k5 : Nat) (n10 : Nat) (y313 : Int32) (y316 : Int32) (iv_ko_1 : ksize ≤ 940) (iv_ko_3 : kto ≤ ksize) (j6 : k5 ≤ 940) (j7 : k5 ≤ ksize) (j8 : kto ≤ k5) (hm12 : 940 - k5 < n10 + 1) (c13 : k5 < ksize) (e314 : y313 = ktapeF k5) (c315 : ¬ y313 = nI 32) (e317 : y316 = ktapeF k5) (c318 : y316 = nI 10) : (k5 + 1) ≤ ksize := by
  have b_y313 := ia_b y313
  have b_y316 := ia_b y316
  try have k_0 := ia_n 32 (by first | decide | omega)
  try have k_1 := ia_n 10 (by first | decide | omega)
  try simp only [ia_lt, ia_le, ia_eq, ia_m1, ia_0, ia_1, ne_eq, true_and, and_true, false_and, and_false, or_false, false_or, or_true, true_or, not_true_eq_false, not_false_eq_true] at *
  all_goals omega
set_option maxRecDepth 20000 in
theorem lf_x_goP_213 (ksize : Nat) (kto : Nat) (ktapeF : Nat → Int32) (k5 : Nat) (n10 : Nat) (y313 : Int32) (y316 : Int32) (iv_ko_1 : ksize ≤ 940) (iv_ko_3 : kto ≤ ksize) (j6 : k5 ≤ 940) (j7 : k5 ≤ ksize) (j8 : kto ≤ k5) (hm12 : 940 - k5 < n10 + 1) (c13 : k5 < ksize) (e314 : y313 = ktapeF k5) (c315 : ¬ y313 = nI 32) (e317 : y316 = ktapeF k5) (c318 : y316 = nI 10) : kto ≤ (k5 + 1) := by
  have b_y313 := ia_b y313
  have b_y316 := ia_b y316
  try have k_0 := ia_n 32 (by first | decide | omega)
  try have k_1 := ia_n 10 (by first | decide | omega)
  try simp only [ia_lt, ia_le, ia_eq, ia_m1, ia_0, ia_1, ne_eq, true_and, and_true, false_and, and_false, or_false, false_or, or_true, true_or, not_true_eq_false, not_false_eq_true] at *
  all_goals omega
set_option maxRecDepth 20000 in
theorem lf_x_goP_214 (ksize : Nat) (kto : Nat) (ktapeF : Nat → Int32) (k5 : Nat) (n10 : Nat) (y313 : Int32) (y316 : Int32) (iv_ko_1 : ksize ≤ 940) (iv_ko_3 : kto ≤ ksize) (j6 : k5 ≤ 940) (j7 : k5 ≤ ksize) (j8 : kto ≤ k5) (hm12 : 940 - k5 < n10 + 1) (c13 : k5 < ksize) (e314 : y313 = ktapeF k5) (c315 : ¬ y313 = nI 32) (e317 : y316 = ktapeF k5) (c318 : y316 = nI 10) : 940 - (k5 + 1) < n10 := by
  have b_y313 := ia_b y313
  have b_y316 := ia_b y316
  try have k_0 := ia_n 32 (by first | decide | omega)
  try have k_1 := ia_n 10 (by first | decide | omega)
  try simp only [ia_lt, ia_le, ia_eq, ia_m1, ia_0, ia_1, ne_eq, true_and, and_true, false_and, and_false, or_false, false_or, or_true, true_or, not_true_eq_false, not_false_eq_true] at *
  all_goals omega
set_option maxRecDepth 20000 in
theorem lf_x_goP_215 (ksize : Nat) (kto : Nat) (iv_ko_1 : ksize ≤ 940) (iv_ko_3 : kto ≤ ksize) : kto ≤ 940 := by
  try simp only [ia_lt, ia_le, ia_eq, ia_m1, ia_0, ia_1, ne_eq, true_and, and_true, false_and, and_false, or_false, false_or, or_true, true_or, not_true_eq_false, not_false_eq_true] at *
  all_goals omega
set_option maxRecDepth 20000 in
theorem lf_x_goP_216 (ksize : Nat) (kto : Nat) (iv_ko_1 : ksize ≤ 940) (iv_ko_3 : kto ≤ ksize) : kto ≤ kto := by
  try simp only [ia_lt, ia_le, ia_eq, ia_m1, ia_0, ia_1, ne_eq, true_and, and_true, false_and, and_false, or_false, false_or, or_true, true_or, not_true_eq_false, not_false_eq_true] at *
  all_goals omega
set_option maxHeartbeats 4000000 in
set_option maxRecDepth 100000 in
theorem c_x_goP (l : Launch) (dC : Nat → ClassId) (dI : Nat → Nat → Nat) (ky : Nat → ClassId) (sz : Nat) (o : Nat) (kthrown : Int32) (ktape : Nat) (ktaped : Nat) (ksize : Nat) (klimit : Nat) (kto : Nat) (kfrom : Nat) (kkind : Int32) (knumber : Int32) (ksign : Int32) (kfault : Int32) (kplace : Int32) (kword : Int64) (ktold : Int32) (know : Nat) (kread : Nat) (kkept : Nat) (ksnaps : Nat) (kaside : Nat) (kname : Nat) (kreadName : Nat) (kkeptName : Nat) (kisKept : Nat) (konces : Nat) (ksnapMany : Nat) (khasCells : Int32) (kpoured : Nat) (kfar : Nat) (ksides : Nat) (ksideMany : Nat) (kwayDays : Int32) (khasWay : Int32) (klines : Nat) (kmet : Nat) (kmetMany : Nat) (ksunk : Nat) (ktrying : Nat) (ksunkMany : Nat) (ksending : Int32) (kfleets : Int32) (ktext : Nat) (ktexts : Nat) (kseed : Int32) (kline : Nat) (kwritten : Nat) (klineMany : Nat) (khasWritten : Int32) (knode : Nat) (knodes : Nat) (konesMany : Nat) (kwithin : Nat) (ktop : Nat) (ktapeF : Nat → Int32) (iv_ko_0 : ktaped ≤ 940) (iv_ko_1 : ksize ≤ 940) (iv_ko_2 : klimit ≤ 900) (iv_ko_3 : kto ≤ ksize) (iv_ko_4 : kfrom ≤ 940) (iv_ko_5 : ksnapMany ≤ 8) (iv_ko_6 : ksideMany ≤ 36) (iv_ko_7 : kmetMany ≤ 3) (iv_ko_8 : ksunkMany ≤ 36) (iv_ko_9 : ktexts ≤ 64) (iv_ko_10 : klineMany ≤ 40) (iv_ko_11 : knodes ≤ 60) (iv_ko_12 : konesMany ≤ 20) (iv_ko_13 : kwithin ≤ 8) (iv_ko_14 : ktop ≤ 59) : Met l yX12_go wsX12_go ({ frames := 1, cells := 0, slots := 0, locals := 21 }) (PcU dC dI ky [.ref o] [(o, .inr (12, [.int kthrown, .ref ktape, .int (nI ktaped), .int (nI ksize), .int (nI klimit), .int (nI kto), .int (nI kfrom), .int kkind, .int knumber, .int ksign, .int kfault, .int kplace, .long kword, .int ktold, .ref know, .ref kread, .ref kkept, .ref ksnaps, .ref kaside, .ref kname, .ref kreadName, .ref kkeptName, .ref kisKept, .ref konces, .int (nI ksnapMany), .int khasCells, .ref kpoured, .ref kfar, .ref ksides, .int (nI ksideMany), .int kwayDays, .int khasWay, .ref klines, .ref kmet, .int (nI kmetMany), .ref ksunk, .ref ktrying, .int (nI ksunkMany), .int ksending, .int kfleets, .ref ktext, .int (nI ktexts), .int kseed, .ref kline, .ref kwritten, .int (nI klineMany), .int khasWritten, .ref knode, .int (nI knodes), .int (nI konesMany), .int (nI kwithin), .int (nI ktop)])), (ktape, .inl (ky 0, 940, .inl ktapeF))] sz) (va_Qv (fun (u : Nat × Nat × Int32 × Int32 × Int32 × Int64) => match u with | (ktoG, kfromG, kkindG, knumberG, ksignG, kwordG) => (ktoG ≤ ksize) ∧ (kfromG ≤ 940) ∧ (kto ≤ ktoG) ∧ (¬ kkindG = nI 4 ∨ kto < ktoG) ∧ (¬ kkindG = nI 3 ∨ 0 ≤ knumberG.toInt)) (BU dC dI ky (fun (u : Nat × Nat × Int32 × Int32 × Int32 × Int64) => match u with | (ktoG, kfromG, kkindG, knumberG, ksignG, kwordG) => [(o, .inr (12, [.int kthrown, .ref ktape, .int (nI ktaped), .int (nI ksize), .int (nI klimit), .int (nI ktoG), .int (nI kfromG), .int kkindG, .int knumberG, .int ksignG, .int kfault, .int kplace, .long kwordG, .int ktold, .ref know, .ref kread, .ref kkept, .ref ksnaps, .ref kaside, .ref kname, .ref kreadName, .ref kkeptName, .ref kisKept, .ref konces, .int (nI ksnapMany), .int khasCells, .ref kpoured, .ref kfar, .ref ksides, .int (nI ksideMany), .int kwayDays, .int khasWay, .ref klines, .ref kmet, .int (nI kmetMany), .ref ksunk, .ref ktrying, .int (nI ksunkMany), .int ksending, .int kfleets, .ref ktext, .int (nI ktexts), .int kseed, .ref kline, .ref kwritten, .int (nI klineMany), .int khasWritten, .ref knode, .int (nI knodes), .int (nI konesMany), .int (nI kwithin), .int (nI ktop)])), (ktape, .inl (ky 0, 940, .inl ktapeF))]) (va_A [(o, .inr (12, [.int kthrown, .ref ktape, .int (nI ktaped), .int (nI ksize), .int (nI klimit), .int (nI kto), .int (nI kfrom), .int kkind, .int knumber, .int ksign, .int kfault, .int kplace, .long kword, .int ktold, .ref know, .ref kread, .ref kkept, .ref ksnaps, .ref kaside, .ref kname, .ref kreadName, .ref kkeptName, .ref kisKept, .ref konces, .int (nI ksnapMany), .int khasCells, .ref kpoured, .ref kfar, .ref ksides, .int (nI ksideMany), .int kwayDays, .int khasWay, .ref klines, .ref kmet, .int (nI kmetMany), .ref ksunk, .ref ktrying, .int (nI ksunkMany), .int ksending, .int kfleets, .ref ktext, .int (nI ktexts), .int kseed, .ref kline, .ref kwritten, .int (nI klineMany), .int khasWritten, .ref knode, .int (nI knodes), .int (nI konesMany), .int (nI kwithin), .int (nI ktop)])), (ktape, .inl (ky 0, 940, .inl ktapeF))] sz)) (va_A [(o, .inr (12, [.int kthrown, .ref ktape, .int (nI ktaped), .int (nI ksize), .int (nI klimit), .int (nI kto), .int (nI kfrom), .int kkind, .int knumber, .int ksign, .int kfault, .int kplace, .long kword, .int ktold, .ref know, .ref kread, .ref kkept, .ref ksnaps, .ref kaside, .ref kname, .ref kreadName, .ref kkeptName, .ref kisKept, .ref konces, .int (nI ksnapMany), .int khasCells, .ref kpoured, .ref kfar, .ref ksides, .int (nI ksideMany), .int kwayDays, .int khasWay, .ref klines, .ref kmet, .int (nI kmetMany), .ref ksunk, .ref ktrying, .int (nI ksunkMany), .int ksending, .int kfleets, .ref ktext, .int (nI ktexts), .int kseed, .ref kline, .ref kwritten, .int (nI klineMany), .int khasWritten, .ref knode, .int (nI knodes), .int (nI konesMany), .int (nI kwithin), .int (nI ktop)])), (ktape, .inl (ky 0, 940, .inl ktapeF))] sz)) 0 0 (va_A [(o, .inr (12, [.int kthrown, .ref ktape, .int (nI ktaped), .int (nI ksize), .int (nI klimit), .int (nI kto), .int (nI kfrom), .int kkind, .int knumber, .int ksign, .int kfault, .int kplace, .long kword, .int ktold, .ref know, .ref kread, .ref kkept, .ref ksnaps, .ref kaside, .ref kname, .ref kreadName, .ref kkeptName, .ref kisKept, .ref konces, .int (nI ksnapMany), .int khasCells, .ref kpoured, .ref kfar, .ref ksides, .int (nI ksideMany), .int kwayDays, .int khasWay, .ref klines, .ref kmet, .int (nI kmetMany), .ref ksunk, .ref ktrying, .int (nI ksunkMany), .int ksending, .int kfleets, .ref ktext, .int (nI ktexts), .int kseed, .ref kline, .ref kwritten, .int (nI klineMany), .int khasWritten, .ref knode, .int (nI knodes), .int (nI konesMany), .int (nI kwithin), .int (nI ktop)])), (ktape, .inl (ky 0, 940, .inl ktapeF))] sz) := by
  refine Met.ofW (cc := cX12_go) (maxL := 5) (ret := none) (by decide) rfl ?_
  intro p e s m args below meth c s₁ B hml hv
  obtain ⟨rfl, hsz, hP, hK, hD0⟩ := hv
  have hx := B.exec
  have hb := B.bytes
  have hr := B.returns
  have hts := atoms_spec (ws := wsX12_go) B.pre
  have hown : s.vm.findClass RX12 = some m.cls := findClass_of_methodNamed B.named
  have hlocks := B.notSynchronized
  have hin12 : ∀ w ∈ u_ws RX12 TX12 52, w ∈ wsX12_go := by decide +kernel
  subst hsz
  have hD := hD0.self (sz := s.heap.size)
  generalize hAe : va_A [(o, .inr (12, [.int kthrown, .ref ktape, .int (nI ktaped), .int (nI ksize), .int (nI klimit), .int (nI kto), .int (nI kfrom), .int kkind, .int knumber, .int ksign, .int kfault, .int kplace, .long kword, .int ktold, .ref know, .ref kread, .ref kkept, .ref ksnaps, .ref kaside, .ref kname, .ref kreadName, .ref kkeptName, .ref kisKept, .ref konces, .int (nI ksnapMany), .int khasCells, .ref kpoured, .ref kfar, .ref ksides, .int (nI ksideMany), .int kwayDays, .int khasWay, .ref klines, .ref kmet, .int (nI kmetMany), .ref ksunk, .ref ktrying, .int (nI ksunkMany), .int ksending, .int kfleets, .ref ktext, .int (nI ktexts), .int kseed, .ref kline, .ref kwritten, .int (nI klineMany), .int khasWritten, .ref knode, .int (nI knodes), .int (nI konesMany), .int (nI kwithin), .int (nI ktop)])), (ktape, .inl (ky 0, 940, .inl ktapeF))] s.heap.size = A at hD ⊢
  have hA : ∀ q : Nat, s.heap.size ≤ q → A q := fun q h => by rw [← hAe]; exact Or.inr h
  have hS : va_S A s.heap s.heap [] := va_S.rf
  have hl := lv_entry ([.ref o]) (n := 5) (Nat.le_of_ble_eq_true rfl)
  rw [lg_entry_eq]
  generalize (lg_sl ([.ref o]) ++ List.replicate (5 - (lg_sl ([.ref o])).length) Slot.unset).toArray = ls at hl ⊢
  have hl : lv_has ls 5 [(0, .ref o)] := hl
  refine q_name (fun Q hQ => ?_)
  generalize ([.ref o] : List Value).toArray = args at hts hQ ⊢
  have hL9 : ∀ (n10 : Nat) (k5 : Nat), (k5 ≤ 940) → (k5 ≤ ksize) → (kto ≤ k5) → 940 - k5 < n10 → ∀ (H : Heap) (locs : List Loc) (ls : Array Slot), va_P (dC, dI) vwCl [(o, .inr (12, [.int kthrown, .ref ktape, .int (nI ktaped), .int (nI ksize), .int (nI klimit), .int (nI k5), .int (nI kfrom), .int kkind, .int knumber, .int ksign, .int kfault, .int kplace, .long kword, .int ktold, .ref know, .ref kread, .ref kkept, .ref ksnaps, .ref kaside, .ref kname, .ref kreadName, .ref kkeptName, .ref kisKept, .ref konces, .int (nI ksnapMany), .int khasCells, .ref kpoured, .ref kfar, .ref ksides, .int (nI ksideMany), .int kwayDays, .int khasWay, .ref klines, .ref kmet, .int (nI kmetMany), .ref ksunk, .ref ktrying, .int (nI ksunkMany), .int ksending, .int kfleets, .ref ktext, .int (nI ktexts), .int kseed, .ref kline, .ref kwritten, .int (nI klineMany), .int khasWritten, .ref knode, .int (nI knodes), .int (nI konesMany), .int (nI kwithin), .int (nI ktop)])), (ktape, .inl (ky 0, 940, .inl ktapeF))] H → va_D A [(o, .inr (12, [.int kthrown, .ref ktape, .int (nI ktaped), .int (nI ksize), .int (nI klimit), .int (nI k5), .int (nI kfrom), .int kkind, .int knumber, .int ksign, .int kfault, .int kplace, .long kword, .int ktold, .ref know, .ref kread, .ref kkept, .ref ksnaps, .ref kaside, .ref kname, .ref kreadName, .ref kkeptName, .ref kisKept, .ref konces, .int (nI ksnapMany), .int khasCells, .ref kpoured, .ref kfar, .ref ksides, .int (nI ksideMany), .int kwayDays, .int khasWay, .ref klines, .ref kmet, .int (nI kmetMany), .ref ksunk, .ref ktrying, .int (nI ksunkMany), .int ksending, .int kfleets, .ref ktext, .int (nI ktexts), .int kseed, .ref kline, .ref kwritten, .int (nI klineMany), .int khasWritten, .ref knode, .int (nI knodes), .int (nI konesMany), .int (nI kwithin), .int (nI ktop)])), (ktape, .inl (ky 0, 940, .inl ktapeF))] → va_S A s.heap H locs → lv_has ls 5 [(0, .ref o)] → W p l e (headSpec wsX12_go ({ frames := 1, cells := 0, slots := 0, locals := 21 })).room s m args below meth c H locs 0 0 Q (F0 m 0 ls []) := by
    intro n10
    induction n10 with
    | zero => intro k5 _ _ _ h9; exact absurd h9 (Nat.not_lt_zero _)
    | succ n10 ih11 =>
      intro k5 j6 j7 j8 hm12 H locs ls hP hD hS hl
      refine lv_aload_n hx hb dX12_go_0 rfl (lv_at hl 0 rfl) ?_
      refine va_get (D := (dC, dI)) (ci := 12) (v := .int (nI k5)) (C := RX12) (T := TX12) (N := 52) hx hb hts hin12 hown hK hP 0 rfl rfl 5 (by decide) (hts (.fieldLink RX12 21 "PorridgeSeaModel" "to" "I") (List.mem_of_getElem? (i := 1) rfl)) (fun _ h9 => h9) rfl dX12_go_1 ?_
      refine lv_aload_n hx hb dX12_go_4 rfl (lv_at hl 0 rfl) ?_
      refine va_get (D := (dC, dI)) (ci := 12) (v := .int (nI ksize)) (C := RX12) (T := TX12) (N := 52) hx hb hts hin12 hown hK hP 0 rfl rfl 3 (by decide) (hts (.fieldLink RX12 18 "PorridgeSeaModel" "size" "I") (List.mem_of_getElem? (i := 2) rfl)) (fun _ h9 => h9) rfl dX12_go_5 ?_
      have hJ14 : ∀ (H : Heap) (locs : List Loc) (ls : Array Slot), va_P (dC, dI) vwCl [(o, .inr (12, [.int kthrown, .ref ktape, .int (nI ktaped), .int (nI ksize), .int (nI klimit), .int (nI k5), .int (nI kfrom), .int kkind, .int knumber, .int ksign, .int kfault, .int kplace, .long kword, .int ktold, .ref know, .ref kread, .ref kkept, .ref ksnaps, .ref kaside, .ref kname, .ref kreadName, .ref kkeptName, .ref kisKept, .ref konces, .int (nI ksnapMany), .int khasCells, .ref kpoured, .ref kfar, .ref ksides, .int (nI ksideMany), .int kwayDays, .int khasWay, .ref klines, .ref kmet, .int (nI kmetMany), .ref ksunk, .ref ktrying, .int (nI ksunkMany), .int ksending, .int kfleets, .ref ktext, .int (nI ktexts), .int kseed, .ref kline, .ref kwritten, .int (nI klineMany), .int khasWritten, .ref knode, .int (nI knodes), .int (nI konesMany), .int (nI kwithin), .int (nI ktop)])), (ktape, .inl (ky 0, 940, .inl ktapeF))] H → va_D A [(o, .inr (12, [.int kthrown, .ref ktape, .int (nI ktaped), .int (nI ksize), .int (nI klimit), .int (nI k5), .int (nI kfrom), .int kkind, .int knumber, .int ksign, .int kfault, .int kplace, .long kword, .int ktold, .ref know, .ref kread, .ref kkept, .ref ksnaps, .ref kaside, .ref kname, .ref kreadName, .ref kkeptName, .ref kisKept, .ref konces, .int (nI ksnapMany), .int khasCells, .ref kpoured, .ref kfar, .ref ksides, .int (nI ksideMany), .int kwayDays, .int khasWay, .ref klines, .ref kmet, .int (nI kmetMany), .ref ksunk, .ref ktrying, .int (nI ksunkMany), .int ksending, .int kfleets, .ref ktext, .int (nI ktexts), .int kseed, .ref kline, .ref kwritten, .int (nI klineMany), .int khasWritten, .ref knode, .int (nI knodes), .int (nI konesMany), .int (nI kwithin), .int (nI ktop)])), (ktape, .inl (ky 0, 940, .inl ktapeF))] → va_S A s.heap H locs → lv_has ls 5 [(0, .ref o)] → W p l e (headSpec wsX12_go ({ frames := 1, cells := 0, slots := 0, locals := 21 })).room s m args below meth c H locs 0 0 Q (F0 m 52 ls []) := by
        intro  H locs ls hP hD hS hl
        refine lv_aload_n hx hb dX12_go_52 rfl (lv_at hl 0 rfl) ?_
        refine lv_aload_n hx hb dX12_go_53 rfl (lv_at hl 0 rfl) ?_
        refine va_get (D := (dC, dI)) (ci := 12) (v := .int (nI k5)) (C := RX12) (T := TX12) (N := 52) hx hb hts hin12 hown hK hP 0 rfl rfl 5 (by decide) (hts (.fieldLink RX12 21 "PorridgeSeaModel" "to" "I") (List.mem_of_getElem? (i := 1) rfl)) (fun _ h9 => h9) rfl dX12_go_54 ?_
        refine va_put (D := (dC, dI)) (ci := 12) (v := .int (nI k5)) (ty := .int) (C := RX12) (T := TX12) (N := 52) hx hb hts hin12 tyX12 tyX12_ok nmX12 hown hK hP hD hS 0 rfl rfl 6 (by decide) (hts (.fieldLink RX12 24 "PorridgeSeaModel" "from" "I") (List.mem_of_getElem? (i := 4) rfl)) (fun _ h9 => h9) rfl (by decide +kernel) rfl rfl (Nat.le_of_ble_eq_true rfl) dX12_go_57 (fun H locs hP hD hS => ?_)
        have hP : va_P (dC, dI) vwCl [(o, .inr (12, [.int kthrown, .ref ktape, .int (nI ktaped), .int (nI ksize), .int (nI klimit), .int (nI k5), .int (nI k5), .int kkind, .int knumber, .int ksign, .int kfault, .int kplace, .long kword, .int ktold, .ref know, .ref kread, .ref kkept, .ref ksnaps, .ref kaside, .ref kname, .ref kreadName, .ref kkeptName, .ref kisKept, .ref konces, .int (nI ksnapMany), .int khasCells, .ref kpoured, .ref kfar, .ref ksides, .int (nI ksideMany), .int kwayDays, .int khasWay, .ref klines, .ref kmet, .int (nI kmetMany), .ref ksunk, .ref ktrying, .int (nI ksunkMany), .int ksending, .int kfleets, .ref ktext, .int (nI ktexts), .int kseed, .ref kline, .ref kwritten, .int (nI klineMany), .int khasWritten, .ref knode, .int (nI knodes), .int (nI konesMany), .int (nI kwithin), .int (nI ktop)])), (ktape, .inl (ky 0, 940, .inl ktapeF))] H := hP
        have hD : va_D A [(o, .inr (12, [.int kthrown, .ref ktape, .int (nI ktaped), .int (nI ksize), .int (nI klimit), .int (nI k5), .int (nI k5), .int kkind, .int knumber, .int ksign, .int kfault, .int kplace, .long kword, .int ktold, .ref know, .ref kread, .ref kkept, .ref ksnaps, .ref kaside, .ref kname, .ref kreadName, .ref kkeptName, .ref kisKept, .ref konces, .int (nI ksnapMany), .int khasCells, .ref kpoured, .ref kfar, .ref ksides, .int (nI ksideMany), .int kwayDays, .int khasWay, .ref klines, .ref kmet, .int (nI kmetMany), .ref ksunk, .ref ktrying, .int (nI ksunkMany), .int ksending, .int kfleets, .ref ktext, .int (nI ktexts), .int kseed, .ref kline, .ref kwritten, .int (nI klineMany), .int khasWritten, .ref knode, .int (nI knodes), .int (nI konesMany), .int (nI kwithin), .int (nI ktop)])), (ktape, .inl (ky 0, 940, .inl ktapeF))] := hD
        refine lv_aload_n hx hb dX12_go_60 rfl (lv_at hl 0 rfl) ?_
        refine va_get (D := (dC, dI)) (ci := 12) (v := .int (nI ksize)) (C := RX12) (T := TX12) (N := 52) hx hb hts hin12 hown hK hP 0 rfl rfl 3 (by decide) (hts (.fieldLink RX12 18 "PorridgeSeaModel" "size" "I") (List.mem_of_getElem? (i := 2) rfl)) (fun _ h9 => h9) rfl dX12_go_61 ?_
        refine lv_aload_n hx hb dX12_go_64 rfl (lv_at hl 0 rfl) ?_
        refine va_get (D := (dC, dI)) (ci := 12) (v := .int (nI klimit)) (C := RX12) (T := TX12) (N := 52) hx hb hts hin12 hown hK hP 0 rfl rfl 4 (by decide) (hts (.fieldLink RX12 27 "PorridgeSeaModel" "limit" "I") (List.mem_of_getElem? (i := 5) rfl)) (fun _ h9 => h9) rfl dX12_go_65 ?_
        have hJ16 : ∀ (H : Heap) (locs : List Loc) (ls : Array Slot), va_P (dC, dI) vwCl [(o, .inr (12, [.int kthrown, .ref ktape, .int (nI ktaped), .int (nI ksize), .int (nI klimit), .int (nI k5), .int (nI k5), .int kkind, .int knumber, .int ksign, .int kfault, .int kplace, .long kword, .int ktold, .ref know, .ref kread, .ref kkept, .ref ksnaps, .ref kaside, .ref kname, .ref kreadName, .ref kkeptName, .ref kisKept, .ref konces, .int (nI ksnapMany), .int khasCells, .ref kpoured, .ref kfar, .ref ksides, .int (nI ksideMany), .int kwayDays, .int khasWay, .ref klines, .ref kmet, .int (nI kmetMany), .ref ksunk, .ref ktrying, .int (nI ksunkMany), .int ksending, .int kfleets, .ref ktext, .int (nI ktexts), .int kseed, .ref kline, .ref kwritten, .int (nI klineMany), .int khasWritten, .ref knode, .int (nI knodes), .int (nI konesMany), .int (nI kwithin), .int (nI ktop)])), (ktape, .inl (ky 0, 940, .inl ktapeF))] H → va_D A [(o, .inr (12, [.int kthrown, .ref ktape, .int (nI ktaped), .int (nI ksize), .int (nI klimit), .int (nI k5), .int (nI k5), .int kkind, .int knumber, .int ksign, .int kfault, .int kplace, .long kword, .int ktold, .ref know, .ref kread, .ref kkept, .ref ksnaps, .ref kaside, .ref kname, .ref kreadName, .ref kkeptName, .ref kisKept, .ref konces, .int (nI ksnapMany), .int khasCells, .ref kpoured, .ref kfar, .ref ksides, .int (nI ksideMany), .int kwayDays, .int khasWay, .ref klines, .ref kmet, .int (nI kmetMany), .ref ksunk, .ref ktrying, .int (nI ksunkMany), .int ksending, .int kfleets, .ref ktext, .int (nI ktexts), .int kseed, .ref kline, .ref kwritten, .int (nI klineMany), .int khasWritten, .ref knode, .int (nI knodes), .int (nI konesMany), .int (nI kwithin), .int (nI ktop)])), (ktape, .inl (ky 0, 940, .inl ktapeF))] → va_S A s.heap H locs → lv_has ls 5 [(0, .ref o)] → W p l e (headSpec wsX12_go ({ frames := 1, cells := 0, slots := 0, locals := 21 })).room s m args below meth c H locs 0 0 Q (F0 m 96 ls []) := by
          intro  H locs ls hP hD hS hl
          refine lv_aload_n hx hb dX12_go_96 rfl (lv_at hl 0 rfl) ?_
          refine va_get (D := (dC, dI)) (ci := 12) (v := .int (nI k5)) (C := RX12) (T := TX12) (N := 52) hx hb hts hin12 hown hK hP 0 rfl rfl 5 (by decide) (hts (.fieldLink RX12 21 "PorridgeSeaModel" "to" "I") (List.mem_of_getElem? (i := 1) rfl)) (fun _ h9 => h9) rfl dX12_go_97 ?_
          refine lv_aload_n hx hb dX12_go_100 rfl (lv_at hl 0 rfl) ?_
          refine va_get (D := (dC, dI)) (ci := 12) (v := .int (nI ksize)) (C := RX12) (T := TX12) (N := 52) hx hb hts hin12 hown hK hP 0 rfl rfl 3 (by decide) (hts (.fieldLink RX12 18 "PorridgeSeaModel" "size" "I") (List.mem_of_getElem? (i := 2) rfl)) (fun _ h9 => h9) rfl dX12_go_101 ?_
          refine n_icmp_lt (x := k5) (y := ksize) (tgt := 113) hx hb (by omega) (by omega) dX12_go_104 (by decide) (fun c17 => ?_) (fun c17 => ?_)
          · refine lv_aload_n hx hb dX12_go_113 rfl (lv_at hl 0 rfl) ?_
            refine va_get (D := (dC, dI)) (ci := 12) (v := .ref ktape) (C := RX12) (T := TX12) (N := 52) hx hb hts hin12 hown hK hP 0 rfl rfl 1 (by decide) (hts (.fieldLink RX12 7 "PorridgeSeaModel" "tape" "[I") (List.mem_of_getElem? (i := 3) rfl)) (fun _ h9 => h9) rfl dX12_go_114 ?_
            refine lv_aload_n hx hb dX12_go_117 rfl (lv_at hl 0 rfl) ?_
            refine va_get (D := (dC, dI)) (ci := 12) (v := .int (nI k5)) (C := RX12) (T := TX12) (N := 52) hx hb hts hin12 hown hK hP 0 rfl rfl 5 (by decide) (hts (.fieldLink RX12 21 "PorridgeSeaModel" "to" "I") (List.mem_of_getElem? (i := 1) rfl)) (fun _ h9 => h9) rfl dX12_go_118 ?_
            obtain ⟨y18, e19⟩ : ∃ z9, z9 = ktapeF k5 := ⟨_, rfl⟩
            refine r_iald hx hb hK hP 1 rfl k5 (lf_x_goP_1 ksize kto ktapeF k5 n10 y18 iv_ko_1 iv_ko_3 j6 j7 j8 hm12 c17 e19) (by decide) y18 e19.symm dX12_go_121 ?_
            refine lv_istore_n (lv' := [(1, .int y18), (0, .ref o)]) hx hb dX12_go_122 rfl hl (by decide) rfl (fun ls hl => ?_)
            refine lv_iload_n hx hb dX12_go_123 rfl (lv_at hl 0 rfl) ?_
            refine vp_callSi (W.runS (As := [.int y18]) (rest := []) ⟨hx, hb, hml, hown, hts⟩ (c_x_isLetterB l dC dI ky y18) (va_cwS 1 hts gX12_go_X12_isLetter rfl rfl rfl (by decide +kernel) ⟨(Nat.le_of_ble_eq_true rfl), (Nat.le_of_ble_eq_true rfl)⟩) (pre_PS hK hP [] rfl) rfl rfl hl.1 rfl (lv_room (Nat.le_of_ble_eq_true rfl)) dX12_go_124 ⟨(Nat.le_of_ble_eq_true rfl), (Nat.le_of_ble_eq_true rfl)⟩) (fun r20 p21 => ?_)
            have hJ23 : ∀ (H : Heap) (locs : List Loc) (ls : Array Slot), va_P (dC, dI) vwCl [(o, .inr (12, [.int kthrown, .ref ktape, .int (nI ktaped), .int (nI ksize), .int (nI klimit), .int (nI k5), .int (nI k5), .int kkind, .int knumber, .int ksign, .int kfault, .int kplace, .long kword, .int ktold, .ref know, .ref kread, .ref kkept, .ref ksnaps, .ref kaside, .ref kname, .ref kreadName, .ref kkeptName, .ref kisKept, .ref konces, .int (nI ksnapMany), .int khasCells, .ref kpoured, .ref kfar, .ref ksides, .int (nI ksideMany), .int kwayDays, .int khasWay, .ref klines, .ref kmet, .int (nI kmetMany), .ref ksunk, .ref ktrying, .int (nI ksunkMany), .int ksending, .int kfleets, .ref ktext, .int (nI ktexts), .int kseed, .ref kline, .ref kwritten, .int (nI klineMany), .int khasWritten, .ref knode, .int (nI knodes), .int (nI konesMany), .int (nI kwithin), .int (nI ktop)])), (ktape, .inl (ky 0, 940, .inl ktapeF))] H → va_D A [(o, .inr (12, [.int kthrown, .ref ktape, .int (nI ktaped), .int (nI ksize), .int (nI klimit), .int (nI k5), .int (nI k5), .int kkind, .int knumber, .int ksign, .int kfault, .int kplace, .long kword, .int ktold, .ref know, .ref kread, .ref kkept, .ref ksnaps, .ref kaside, .ref kname, .ref kreadName, .ref kkeptName, .ref kisKept, .ref konces, .int (nI ksnapMany), .int khasCells, .ref kpoured, .ref kfar, .ref ksides, .int (nI ksideMany), .int kwayDays, .int khasWay, .ref klines, .ref kmet, .int (nI kmetMany), .ref ksunk, .ref ktrying, .int (nI ksunkMany), .int ksending, .int kfleets, .ref ktext, .int (nI ktexts), .int kseed, .ref kline, .ref kwritten, .int (nI klineMany), .int khasWritten, .ref knode, .int (nI knodes), .int (nI konesMany), .int (nI kwithin), .int (nI ktop)])), (ktape, .inl (ky 0, 940, .inl ktapeF))] → va_S A s.heap H locs → lv_has ls 5 [(1, .int y18), (0, .ref o)] → W p l e (headSpec wsX12_go ({ frames := 1, cells := 0, slots := 0, locals := 21 })).room s m args below meth c H locs 0 0 Q (F0 m 198 ls []) := by
              intro  H locs ls hP hD hS hl
              refine lv_iload_n hx hb dX12_go_198 rfl (lv_at hl 0 rfl) ?_
              refine vp_callSi (W.runS (As := [.int y18]) (rest := []) ⟨hx, hb, hml, hown, hts⟩ (c_x_isLetterB l dC dI ky y18) (va_cwS 1 hts gX12_go_X12_isLetter rfl rfl rfl (by decide +kernel) ⟨(Nat.le_of_ble_eq_true rfl), (Nat.le_of_ble_eq_true rfl)⟩) (pre_PS hK hP [] rfl) rfl rfl hl.1 rfl (lv_room (Nat.le_of_ble_eq_true rfl)) dX12_go_199 ⟨(Nat.le_of_ble_eq_true rfl), (Nat.le_of_ble_eq_true rfl)⟩) (fun r24 p25 => ?_)
              refine lv_istore_n (lv' := [(2, .int r24), (1, .int y18), (0, .ref o)]) hx hb dX12_go_202 rfl hl (by decide) rfl (fun ls hl => ?_)
              refine lv_iconst (v := nI 1) hx hb dX12_go_203 (by decide) ?_
              refine lv_istore_n (lv' := [(3, .int (nI 1)), (2, .int r24), (1, .int y18), (0, .ref o)]) hx hb dX12_go_204 rfl hl (by decide) rfl (fun ls hl => ?_)
              refine lv_aload_n hx hb dX12_go_205 rfl (lv_at hl 3 rfl) ?_
              refine lv_lconst (v := 0) hx hb dX12_go_206 (by decide) ?_
              refine va_put (D := (dC, dI)) (ci := 12) (v := .long 0) (ty := .long) (C := RX12) (T := TX12) (N := 52) hx hb hts hin12 tyX12 tyX12_ok nmX12 hown hK hP hD hS 0 rfl rfl 12 (by decide) (hts (.fieldLink RX12 43 "PorridgeSeaModel" "word" "J") (List.mem_of_getElem? (i := 8) rfl)) (fun _ h9 => h9) rfl (by decide +kernel) rfl rfl (Nat.le_of_ble_eq_true rfl) dX12_go_207 (fun H locs hP hD hS => ?_)
              have hP : va_P (dC, dI) vwCl [(o, .inr (12, [.int kthrown, .ref ktape, .int (nI ktaped), .int (nI ksize), .int (nI klimit), .int (nI k5), .int (nI k5), .int kkind, .int knumber, .int ksign, .int kfault, .int kplace, .long 0, .int ktold, .ref know, .ref kread, .ref kkept, .ref ksnaps, .ref kaside, .ref kname, .ref kreadName, .ref kkeptName, .ref kisKept, .ref konces, .int (nI ksnapMany), .int khasCells, .ref kpoured, .ref kfar, .ref ksides, .int (nI ksideMany), .int kwayDays, .int khasWay, .ref klines, .ref kmet, .int (nI kmetMany), .ref ksunk, .ref ktrying, .int (nI ksunkMany), .int ksending, .int kfleets, .ref ktext, .int (nI ktexts), .int kseed, .ref kline, .ref kwritten, .int (nI klineMany), .int khasWritten, .ref knode, .int (nI knodes), .int (nI konesMany), .int (nI kwithin), .int (nI ktop)])), (ktape, .inl (ky 0, 940, .inl ktapeF))] H := hP
              have hD : va_D A [(o, .inr (12, [.int kthrown, .ref ktape, .int (nI ktaped), .int (nI ksize), .int (nI klimit), .int (nI k5), .int (nI k5), .int kkind, .int knumber, .int ksign, .int kfault, .int kplace, .long 0, .int ktold, .ref know, .ref kread, .ref kkept, .ref ksnaps, .ref kaside, .ref kname, .ref kreadName, .ref kkeptName, .ref kisKept, .ref konces, .int (nI ksnapMany), .int khasCells, .ref kpoured, .ref kfar, .ref ksides, .int (nI ksideMany), .int kwayDays, .int khasWay, .ref klines, .ref kmet, .int (nI kmetMany), .ref ksunk, .ref ktrying, .int (nI ksunkMany), .int ksending, .int kfleets, .ref ktext, .int (nI ktexts), .int kseed, .ref kline, .ref kwritten, .int (nI klineMany), .int khasWritten, .ref knode, .int (nI knodes), .int (nI konesMany), .int (nI kwithin), .int (nI ktop)])), (ktape, .inl (ky 0, 940, .inl ktapeF))] := hD
              refine lv_aload_n hx hb dX12_go_210 rfl (lv_at hl 3 rfl) ?_
              refine lv_iconst (v := nI 0) hx hb dX12_go_211 (by decide) ?_
              refine va_put (D := (dC, dI)) (ci := 12) (v := .int (nI 0)) (ty := .int) (C := RX12) (T := TX12) (N := 52) hx hb hts hin12 tyX12 tyX12_ok nmX12 hown hK hP hD hS 0 rfl rfl 8 (by decide) (hts (.fieldLink RX12 47 "PorridgeSeaModel" "number" "I") (List.mem_of_getElem? (i := 9) rfl)) (fun _ h9 => h9) rfl (by decide +kernel) rfl rfl (Nat.le_of_ble_eq_true rfl) dX12_go_212 (fun H locs hP hD hS => ?_)
              have hP : va_P (dC, dI) vwCl [(o, .inr (12, [.int kthrown, .ref ktape, .int (nI ktaped), .int (nI ksize), .int (nI klimit), .int (nI k5), .int (nI k5), .int kkind, .int (nI 0), .int ksign, .int kfault, .int kplace, .long 0, .int ktold, .ref know, .ref kread, .ref kkept, .ref ksnaps, .ref kaside, .ref kname, .ref kreadName, .ref kkeptName, .ref kisKept, .ref konces, .int (nI ksnapMany), .int khasCells, .ref kpoured, .ref kfar, .ref ksides, .int (nI ksideMany), .int kwayDays, .int khasWay, .ref klines, .ref kmet, .int (nI kmetMany), .ref ksunk, .ref ktrying, .int (nI ksunkMany), .int ksending, .int kfleets, .ref ktext, .int (nI ktexts), .int kseed, .ref kline, .ref kwritten, .int (nI klineMany), .int khasWritten, .ref knode, .int (nI knodes), .int (nI konesMany), .int (nI kwithin), .int (nI ktop)])), (ktape, .inl (ky 0, 940, .inl ktapeF))] H := hP
              have hD : va_D A [(o, .inr (12, [.int kthrown, .ref ktape, .int (nI ktaped), .int (nI ksize), .int (nI klimit), .int (nI k5), .int (nI k5), .int kkind, .int (nI 0), .int ksign, .int kfault, .int kplace, .long 0, .int ktold, .ref know, .ref kread, .ref kkept, .ref ksnaps, .ref kaside, .ref kname, .ref kreadName, .ref kkeptName, .ref kisKept, .ref konces, .int (nI ksnapMany), .int khasCells, .ref kpoured, .ref kfar, .ref ksides, .int (nI ksideMany), .int kwayDays, .int khasWay, .ref klines, .ref kmet, .int (nI kmetMany), .ref ksunk, .ref ktrying, .int (nI ksunkMany), .int ksending, .int kfleets, .ref ktext, .int (nI ktexts), .int kseed, .ref kline, .ref kwritten, .int (nI klineMany), .int khasWritten, .ref knode, .int (nI knodes), .int (nI konesMany), .int (nI kwithin), .int (nI ktop)])), (ktape, .inl (ky 0, 940, .inl ktapeF))] := hD
              have hL56 : ∀ (n57 : Nat) (x46 : Int32) (k47 : Nat) (x48 : Int32) (w49 : Int64), (x46 = nI 0 ∨ x46 = nI 1) → (k47 ≤ 941) → (k47 ≤ ksize) → (kto ≤ k47) → (k5 ≤ k47) → ((x46 = nI 0 ∨ r24 = nI 1) ∨ (0 ≤ x48.toInt ∧ x48.toInt ≤ 999 ∧ (k5 + 3 ≤ k47 ∨ x48.toInt ≤ 99) ∧ (k5 + 2 ≤ k47 ∨ x48.toInt ≤ 9) ∧ (k5 + 1 ≤ k47 ∨ x48.toInt ≤ 0))) → 940 - k47 < n57 → ∀ (H : Heap) (locs : List Loc) (ls : Array Slot), va_P (dC, dI) vwCl [(o, .inr (12, [.int kthrown, .ref ktape, .int (nI ktaped), .int (nI ksize), .int (nI klimit), .int (nI k47), .int (nI k5), .int kkind, .int x48, .int ksign, .int kfault, .int kplace, .long w49, .int ktold, .ref know, .ref kread, .ref kkept, .ref ksnaps, .ref kaside, .ref kname, .ref kreadName, .ref kkeptName, .ref kisKept, .ref konces, .int (nI ksnapMany), .int khasCells, .ref kpoured, .ref kfar, .ref ksides, .int (nI ksideMany), .int kwayDays, .int khasWay, .ref klines, .ref kmet, .int (nI kmetMany), .ref ksunk, .ref ktrying, .int (nI ksunkMany), .int ksending, .int kfleets, .ref ktext, .int (nI ktexts), .int kseed, .ref kline, .ref kwritten, .int (nI klineMany), .int khasWritten, .ref knode, .int (nI knodes), .int (nI konesMany), .int (nI kwithin), .int (nI ktop)])), (ktape, .inl (ky 0, 940, .inl ktapeF))] H → va_D A [(o, .inr (12, [.int kthrown, .ref ktape, .int (nI ktaped), .int (nI ksize), .int (nI klimit), .int (nI k47), .int (nI k5), .int kkind, .int x48, .int ksign, .int kfault, .int kplace, .long w49, .int ktold, .ref know, .ref kread, .ref kkept, .ref ksnaps, .ref kaside, .ref kname, .ref kreadName, .ref kkeptName, .ref kisKept, .ref konces, .int (nI ksnapMany), .int khasCells, .ref kpoured, .ref kfar, .ref ksides, .int (nI ksideMany), .int kwayDays, .int khasWay, .ref klines, .ref kmet, .int (nI kmetMany), .ref ksunk, .ref ktrying, .int (nI ksunkMany), .int ksending, .int kfleets, .ref ktext, .int (nI ktexts), .int kseed, .ref kline, .ref kwritten, .int (nI klineMany), .int khasWritten, .ref knode, .int (nI knodes), .int (nI konesMany), .int (nI kwithin), .int (nI ktop)])), (ktape, .inl (ky 0, 940, .inl ktapeF))] → va_S A s.heap H locs → lv_has ls 5 [(3, .int x46), (2, .int r24), (0, .ref o)] → W p l e (headSpec wsX12_go ({ frames := 1, cells := 0, slots := 0, locals := 21 })).room s m args below meth c H locs 0 0 Q (F0 m 215 ls []) := by
                intro n57
                induction n57 with
                | zero => intro x46 k47 x48 w49 _ _ _ _ _ _ h9; exact absurd h9 (Nat.not_lt_zero _)
                | succ n57 ih58 =>
                  intro x46 k47 x48 w49 j50 j51 j52 j53 j54 j55 hm59 H locs ls hP hD hS hl
                  refine lv_aload_n hx hb dX12_go_215 rfl (lv_at hl 2 rfl) ?_
                  refine lv_aload_n hx hb dX12_go_216 rfl (lv_at hl 2 rfl) ?_
                  refine va_get (D := (dC, dI)) (ci := 12) (v := .int (nI k47)) (C := RX12) (T := TX12) (N := 52) hx hb hts hin12 hown hK hP 0 rfl rfl 5 (by decide) (hts (.fieldLink RX12 21 "PorridgeSeaModel" "to" "I") (List.mem_of_getElem? (i := 1) rfl)) (fun _ h9 => h9) rfl dX12_go_217 ?_
                  refine vp_callSi (W.runV (As := [.int (nI k47)]) (rest := []) ⟨hx, hb, hml, hown, hts⟩ (c_x_tapeAtE l dC dI ky o kthrown ktape ktaped ksize klimit k47 k5 kkind x48 ksign kfault kplace w49 ktold know kread kkept ksnaps kaside kname kreadName kkeptName kisKept konces ksnapMany khasCells kpoured kfar ksides ksideMany kwayDays khasWay klines kmet kmetMany ksunk ktrying ksunkMany ksending kfleets ktext ktexts kseed kline kwritten klineMany khasWritten knode knodes konesMany kwithin ktop ktapeF k47 iv_ko_0 iv_ko_1 iv_ko_2 j52 j6 iv_ko_5 iv_ko_6 iv_ko_7 iv_ko_8 iv_ko_9 iv_ko_10 iv_ko_11 iv_ko_12 iv_ko_13 iv_ko_14 (lf_x_goP_2 ksize kto ktapeF k5 n10 y18 r24 x46 k47 x48 n57 iv_ko_1 iv_ko_3 j6 j7 j8 hm12 c17 e19 p25 j50 j51 j52 j53 j54 j55 hm59)) (cwV 1 hts gX12_go_X12_tapeAt rfl rfl rfl (by decide +kernel) ⟨(Nat.le_of_ble_eq_true rfl), (Nat.le_of_ble_eq_true rfl)⟩) (pre_PV hK hP [0, 1] rfl (ci := 12) (q0 := 0) rfl rfl) rfl rfl hl.1 rfl (lv_room (Nat.le_of_ble_eq_true rfl)) dX12_go_220 ⟨(Nat.le_of_ble_eq_true rfl), (Nat.le_of_ble_eq_true rfl)⟩) (fun r60 p61 => ?_)
                  refine vp_callSi (W.runS (As := [.int r60]) (rest := []) ⟨hx, hb, hml, hown, hts⟩ (c_x_isLetterE l dC dI ky r60) (va_cwS 1 hts gX12_go_X12_isLetter rfl rfl rfl (by decide +kernel) ⟨(Nat.le_of_ble_eq_true rfl), (Nat.le_of_ble_eq_true rfl)⟩) (pre_PS hK hP [] rfl) rfl rfl hl.1 rfl (lv_room (Nat.le_of_ble_eq_true rfl)) dX12_go_223 ⟨(Nat.le_of_ble_eq_true rfl), (Nat.le_of_ble_eq_true rfl)⟩) (fun r62 p63 => ?_)
                  rcases p63 with ⟨rfl, t64, t65⟩ | ⟨rfl, t66⟩
                  · refine lv_if_ne (tgt := 243) hx hb dX12_go_226 (by decide) (fun c67 => ?_) (fun c67 => absurd c67 (by decide))
                    refine lv_aload_n hx hb dX12_go_243 rfl (lv_at hl 2 rfl) ?_
                    refine va_get (D := (dC, dI)) (ci := 12) (v := .ref ktape) (C := RX12) (T := TX12) (N := 52) hx hb hts hin12 hown hK hP 0 rfl rfl 1 (by decide) (hts (.fieldLink RX12 7 "PorridgeSeaModel" "tape" "[I") (List.mem_of_getElem? (i := 3) rfl)) (fun _ h9 => h9) rfl dX12_go_244 ?_
                    refine lv_aload_n hx hb dX12_go_247 rfl (lv_at hl 2 rfl) ?_
                    refine va_get (D := (dC, dI)) (ci := 12) (v := .int (nI k47)) (C := RX12) (T := TX12) (N := 52) hx hb hts hin12 hown hK hP 0 rfl rfl 5 (by decide) (hts (.fieldLink RX12 21 "PorridgeSeaModel" "to" "I") (List.mem_of_getElem? (i := 1) rfl)) (fun _ h9 => h9) rfl dX12_go_248 ?_
                    obtain ⟨y68, e69⟩ : ∃ z9, z9 = ktapeF k47 := ⟨_, rfl⟩
                    refine r_iald hx hb hK hP 1 rfl k47 (lf_x_goP_3 ksize kto ktapeF k5 n10 y18 r24 x46 k47 x48 n57 r60 y68 iv_ko_1 iv_ko_3 j6 j7 j8 hm12 c17 e19 p25 j50 j51 j52 j53 j54 j55 hm59 p61 t64 t65 e69) (by decide) y68 e69.symm dX12_go_251 ?_
                    refine lv_istore (lv' := [(4, .int y68), (3, .int x46), (2, .int r24), (0, .ref o)]) hx hb dX12_go_252 hl (by decide) rfl (fun ls hl => ?_)
                    refine lv_iload_n hx hb dX12_go_254 rfl (lv_at hl 1 rfl) ?_
                    refine lv_if_eq (tgt := 271) hx hb dX12_go_255 (by decide) (fun c70 => ?_) (fun c70 => ?_)
                    · refine lv_iconst (v := nI 0) hx hb dX12_go_271 (by decide) ?_
                      refine lv_istore_n (lv' := [(3, .int (nI 0)), (4, .int y68), (2, .int r24), (0, .ref o)]) hx hb dX12_go_272 rfl hl (by decide) rfl (fun ls hl => ?_)
                      refine lv_aload_n hx hb dX12_go_273 rfl (lv_at hl 3 rfl) ?_
                      refine va_get (D := (dC, dI)) (ci := 12) (v := .int (nI k47)) (C := RX12) (T := TX12) (N := 52) hx hb hts hin12 hown hK hP 0 rfl rfl 5 (by decide) (hts (.fieldLink RX12 21 "PorridgeSeaModel" "to" "I") (List.mem_of_getElem? (i := 1) rfl)) (fun _ h9 => h9) rfl dX12_go_274 ?_
                      refine lv_aload_n hx hb dX12_go_277 rfl (lv_at hl 3 rfl) ?_
                      refine va_get (D := (dC, dI)) (ci := 12) (v := .int (nI k5)) (C := RX12) (T := TX12) (N := 52) hx hb hts hin12 hown hK hP 0 rfl rfl 6 (by decide) (hts (.fieldLink RX12 24 "PorridgeSeaModel" "from" "I") (List.mem_of_getElem? (i := 4) rfl)) (fun _ h9 => h9) rfl dX12_go_278 ?_
                      refine lv_isub hx hb dX12_go_281 ?_
                      refine r_ti (nI (k47 - k5)) (pk_sub (lf_x_goP_4 ksize kto ktapeF k5 n10 y18 r24 x46 k47 x48 n57 r60 y68 iv_ko_1 iv_ko_3 j6 j7 j8 hm12 c17 e19 p25 j50 j51 j52 j53 j54 j55 hm59 p61 t64 t65 e69 c70)) ?_
                      refine lv_bipush (v := nI 7) hx hb dX12_go_282 (by decide) ?_
                      have hJ73 : ∀ (w72 : Int64), ∀ (H : Heap) (locs : List Loc) (ls : Array Slot), va_P (dC, dI) vwCl [(o, .inr (12, [.int kthrown, .ref ktape, .int (nI ktaped), .int (nI ksize), .int (nI klimit), .int (nI k47), .int (nI k5), .int kkind, .int x48, .int ksign, .int kfault, .int kplace, .long w72, .int ktold, .ref know, .ref kread, .ref kkept, .ref ksnaps, .ref kaside, .ref kname, .ref kreadName, .ref kkeptName, .ref kisKept, .ref konces, .int (nI ksnapMany), .int khasCells, .ref kpoured, .ref kfar, .ref ksides, .int (nI ksideMany), .int kwayDays, .int khasWay, .ref klines, .ref kmet, .int (nI kmetMany), .ref ksunk, .ref ktrying, .int (nI ksunkMany), .int ksending, .int kfleets, .ref ktext, .int (nI ktexts), .int kseed, .ref kline, .ref kwritten, .int (nI klineMany), .int khasWritten, .ref knode, .int (nI knodes), .int (nI konesMany), .int (nI kwithin), .int (nI ktop)])), (ktape, .inl (ky 0, 940, .inl ktapeF))] H → va_D A [(o, .inr (12, [.int kthrown, .ref ktape, .int (nI ktaped), .int (nI ksize), .int (nI klimit), .int (nI k47), .int (nI k5), .int kkind, .int x48, .int ksign, .int kfault, .int kplace, .long w72, .int ktold, .ref know, .ref kread, .ref kkept, .ref ksnaps, .ref kaside, .ref kname, .ref kreadName, .ref kkeptName, .ref kisKept, .ref konces, .int (nI ksnapMany), .int khasCells, .ref kpoured, .ref kfar, .ref ksides, .int (nI ksideMany), .int kwayDays, .int khasWay, .ref klines, .ref kmet, .int (nI kmetMany), .ref ksunk, .ref ktrying, .int (nI ksunkMany), .int ksending, .int kfleets, .ref ktext, .int (nI ktexts), .int kseed, .ref kline, .ref kwritten, .int (nI klineMany), .int khasWritten, .ref knode, .int (nI knodes), .int (nI konesMany), .int (nI kwithin), .int (nI ktop)])), (ktape, .inl (ky 0, 940, .inl ktapeF))] → va_S A s.heap H locs → lv_has ls 5 [(3, .int (nI 0)), (4, .int y68), (2, .int r24), (0, .ref o)] → W p l e (headSpec wsX12_go ({ frames := 1, cells := 0, slots := 0, locals := 21 })).room s m args below meth c H locs 0 0 Q (F0 m 307 ls []) := by
                        intro w72 H locs ls hP hD hS hl
                        refine lv_aload_n hx hb dX12_go_307 rfl (lv_at hl 3 rfl) ?_
                        refine va_get (D := (dC, dI)) (ci := 12) (v := .int (nI k47)) (C := RX12) (T := TX12) (N := 52) hx hb hts hin12 hown hK hP 0 rfl rfl 5 (by decide) (hts (.fieldLink RX12 21 "PorridgeSeaModel" "to" "I") (List.mem_of_getElem? (i := 1) rfl)) (fun _ h9 => h9) rfl dX12_go_308 ?_
                        refine lv_aload_n hx hb dX12_go_311 rfl (lv_at hl 3 rfl) ?_
                        refine va_get (D := (dC, dI)) (ci := 12) (v := .int (nI k5)) (C := RX12) (T := TX12) (N := 52) hx hb hts hin12 hown hK hP 0 rfl rfl 6 (by decide) (hts (.fieldLink RX12 24 "PorridgeSeaModel" "from" "I") (List.mem_of_getElem? (i := 4) rfl)) (fun _ h9 => h9) rfl dX12_go_312 ?_
                        refine lv_isub hx hb dX12_go_315 ?_
                        refine r_ti (nI (k47 - k5)) (pk_sub (lf_x_goP_5 ksize kto ktapeF k5 n10 y18 r24 x46 k47 x48 n57 r60 y68 iv_ko_1 iv_ko_3 j6 j7 j8 hm12 c17 e19 p25 j50 j51 j52 j53 j54 j55 hm59 p61 t64 t65 e69 c70)) ?_
                        refine lv_iconst (v := nI 3) hx hb dX12_go_316 (by decide) ?_
                        refine n_icmp_ge (x := (k47 - k5)) (y := 3) (tgt := 337) hx hb (by omega) (by omega) dX12_go_317 (by decide) (fun c74 => ?_) (fun c74 => ?_)
                        · refine lv_aload_n hx hb dX12_go_337 rfl (lv_at hl 3 rfl) ?_
                          refine lv_dup hx hb dX12_go_338 rfl ?_
                          refine va_get (D := (dC, dI)) (ci := 12) (v := .int (nI k47)) (C := RX12) (T := TX12) (N := 52) hx hb hts hin12 hown hK hP 0 rfl rfl 5 (by decide) (hts (.fieldLink RX12 21 "PorridgeSeaModel" "to" "I") (List.mem_of_getElem? (i := 1) rfl)) (fun _ h9 => h9) rfl dX12_go_339 ?_
                          refine lv_iconst (v := nI 1) hx hb dX12_go_342 (by decide) ?_
                          refine lv_iadd hx hb dX12_go_343 ?_
                          refine r_ti (nI (k47 + 1)) (nI_add _ _) ?_
                          refine va_put (D := (dC, dI)) (ci := 12) (v := .int (nI (k47 + 1))) (ty := .int) (C := RX12) (T := TX12) (N := 52) hx hb hts hin12 tyX12 tyX12_ok nmX12 hown hK hP hD hS 0 rfl rfl 5 (by decide) (hts (.fieldLink RX12 21 "PorridgeSeaModel" "to" "I") (List.mem_of_getElem? (i := 1) rfl)) (fun _ h9 => h9) rfl (by decide +kernel) rfl rfl (Nat.le_of_ble_eq_true rfl) dX12_go_344 (fun H locs hP hD hS => ?_)
                          have hP : va_P (dC, dI) vwCl [(o, .inr (12, [.int kthrown, .ref ktape, .int (nI ktaped), .int (nI ksize), .int (nI klimit), .int (nI (k47 + 1)), .int (nI k5), .int kkind, .int x48, .int ksign, .int kfault, .int kplace, .long w72, .int ktold, .ref know, .ref kread, .ref kkept, .ref ksnaps, .ref kaside, .ref kname, .ref kreadName, .ref kkeptName, .ref kisKept, .ref konces, .int (nI ksnapMany), .int khasCells, .ref kpoured, .ref kfar, .ref ksides, .int (nI ksideMany), .int kwayDays, .int khasWay, .ref klines, .ref kmet, .int (nI kmetMany), .ref ksunk, .ref ktrying, .int (nI ksunkMany), .int ksending, .int kfleets, .ref ktext, .int (nI ktexts), .int kseed, .ref kline, .ref kwritten, .int (nI klineMany), .int khasWritten, .ref knode, .int (nI knodes), .int (nI konesMany), .int (nI kwithin), .int (nI ktop)])), (ktape, .inl (ky 0, 940, .inl ktapeF))] H := hP
                          have hD : va_D A [(o, .inr (12, [.int kthrown, .ref ktape, .int (nI ktaped), .int (nI ksize), .int (nI klimit), .int (nI (k47 + 1)), .int (nI k5), .int kkind, .int x48, .int ksign, .int kfault, .int kplace, .long w72, .int ktold, .ref know, .ref kread, .ref kkept, .ref ksnaps, .ref kaside, .ref kname, .ref kreadName, .ref kkeptName, .ref kisKept, .ref konces, .int (nI ksnapMany), .int khasCells, .ref kpoured, .ref kfar, .ref ksides, .int (nI ksideMany), .int kwayDays, .int khasWay, .ref klines, .ref kmet, .int (nI kmetMany), .ref ksunk, .ref ktrying, .int (nI ksunkMany), .int ksending, .int kfleets, .ref ktext, .int (nI ktexts), .int kseed, .ref kline, .ref kwritten, .int (nI klineMany), .int khasWritten, .ref knode, .int (nI knodes), .int (nI konesMany), .int (nI kwithin), .int (nI ktop)])), (ktape, .inl (ky 0, 940, .inl ktapeF))] := hD
                          refine lv_goto (tgt := 215) hx hb dX12_go_347 (by decide) ?_
                          exact ih58 (nI 0) (k47 + 1) x48 w72 (lf_x_goP_6) (lf_x_goP_7 ksize kto ktapeF k5 n10 y18 r24 x46 k47 x48 n57 r60 y68 iv_ko_1 iv_ko_3 j6 j7 j8 hm12 c17 e19 p25 j50 j51 j52 j53 j54 j55 hm59 p61 t64 t65 e69 c70 c74) (lf_x_goP_8 ksize kto ktapeF k5 n10 y18 r24 x46 k47 x48 n57 r60 y68 iv_ko_1 iv_ko_3 j6 j7 j8 hm12 c17 e19 p25 j50 j51 j52 j53 j54 j55 hm59 p61 t64 t65 e69 c70 c74) (lf_x_goP_9 ksize kto ktapeF k5 n10 y18 r24 x46 k47 x48 n57 r60 y68 iv_ko_1 iv_ko_3 j6 j7 j8 hm12 c17 e19 p25 j50 j51 j52 j53 j54 j55 hm59 p61 t64 t65 e69 c70 c74) (lf_x_goP_10 ksize kto ktapeF k5 n10 y18 r24 x46 k47 x48 n57 r60 y68 iv_ko_1 iv_ko_3 j6 j7 j8 hm12 c17 e19 p25 j50 j51 j52 j53 j54 j55 hm59 p61 t64 t65 e69 c70 c74) (lf_x_goP_11 ksize kto ktapeF k5 n10 y18 r24 x46 k47 x48 n57 r60 y68 iv_ko_1 iv_ko_3 j6 j7 j8 hm12 c17 e19 p25 j50 j51 j52 j53 j54 j55 hm59 p61 t64 t65 e69 c70 c74) (lf_x_goP_12 ksize kto ktapeF k5 n10 y18 r24 x46 k47 x48 n57 r60 y68 iv_ko_1 iv_ko_3 j6 j7 j8 hm12 c17 e19 p25 j50 j51 j52 j53 j54 j55 hm59 p61 t64 t65 e69 c70 c74) _ _ _ hP hD hS (lv_sub hl [0, 2, 3] rfl)
                        · refine lv_aload_n hx hb dX12_go_320 rfl (lv_at hl 3 rfl) ?_
                          refine lv_bipush (v := nI 10) hx hb dX12_go_321 (by decide) ?_
                          refine lv_aload_n hx hb dX12_go_323 rfl (lv_at hl 3 rfl) ?_
                          refine va_get (D := (dC, dI)) (ci := 12) (v := .int x48) (C := RX12) (T := TX12) (N := 52) hx hb hts hin12 hown hK hP 0 rfl rfl 8 (by decide) (hts (.fieldLink RX12 47 "PorridgeSeaModel" "number" "I") (List.mem_of_getElem? (i := 9) rfl)) (fun _ h9 => h9) rfl dX12_go_324 ?_
                          refine lv_imul hx hb dX12_go_327 ?_
                          refine lv_topi (fun y75 e76 => ?_)
                          refine lv_iload hx hb dX12_go_328 (lv_at hl 1 rfl) ?_
                          refine lv_iadd hx hb dX12_go_330 ?_
                          refine lv_topi (fun y77 e78 => ?_)
                          refine lv_bipush (v := nI 48) hx hb dX12_go_331 (by decide) ?_
                          refine lv_isub hx hb dX12_go_333 ?_
                          refine lv_topi (fun y79 e80 => ?_)
                          refine va_put (D := (dC, dI)) (ci := 12) (v := .int y79) (ty := .int) (C := RX12) (T := TX12) (N := 52) hx hb hts hin12 tyX12 tyX12_ok nmX12 hown hK hP hD hS 0 rfl rfl 8 (by decide) (hts (.fieldLink RX12 47 "PorridgeSeaModel" "number" "I") (List.mem_of_getElem? (i := 9) rfl)) (fun _ h9 => h9) rfl (by decide +kernel) rfl rfl (Nat.le_of_ble_eq_true rfl) dX12_go_334 (fun H locs hP hD hS => ?_)
                          have hP : va_P (dC, dI) vwCl [(o, .inr (12, [.int kthrown, .ref ktape, .int (nI ktaped), .int (nI ksize), .int (nI klimit), .int (nI k47), .int (nI k5), .int kkind, .int y79, .int ksign, .int kfault, .int kplace, .long w72, .int ktold, .ref know, .ref kread, .ref kkept, .ref ksnaps, .ref kaside, .ref kname, .ref kreadName, .ref kkeptName, .ref kisKept, .ref konces, .int (nI ksnapMany), .int khasCells, .ref kpoured, .ref kfar, .ref ksides, .int (nI ksideMany), .int kwayDays, .int khasWay, .ref klines, .ref kmet, .int (nI kmetMany), .ref ksunk, .ref ktrying, .int (nI ksunkMany), .int ksending, .int kfleets, .ref ktext, .int (nI ktexts), .int kseed, .ref kline, .ref kwritten, .int (nI klineMany), .int khasWritten, .ref knode, .int (nI knodes), .int (nI konesMany), .int (nI kwithin), .int (nI ktop)])), (ktape, .inl (ky 0, 940, .inl ktapeF))] H := hP
                          have hD : va_D A [(o, .inr (12, [.int kthrown, .ref ktape, .int (nI ktaped), .int (nI ksize), .int (nI klimit), .int (nI k47), .int (nI k5), .int kkind, .int y79, .int ksign, .int kfault, .int kplace, .long w72, .int ktold, .ref know, .ref kread, .ref kkept, .ref ksnaps, .ref kaside, .ref kname, .ref kreadName, .ref kkeptName, .ref kisKept, .ref konces, .int (nI ksnapMany), .int khasCells, .ref kpoured, .ref kfar, .ref ksides, .int (nI ksideMany), .int kwayDays, .int khasWay, .ref klines, .ref kmet, .int (nI kmetMany), .ref ksunk, .ref ktrying, .int (nI ksunkMany), .int ksending, .int kfleets, .ref ktext, .int (nI ktexts), .int kseed, .ref kline, .ref kwritten, .int (nI klineMany), .int khasWritten, .ref knode, .int (nI knodes), .int (nI konesMany), .int (nI kwithin), .int (nI ktop)])), (ktape, .inl (ky 0, 940, .inl ktapeF))] := hD
                          refine lv_aload_n hx hb dX12_go_337 rfl (lv_at hl 3 rfl) ?_
                          refine lv_dup hx hb dX12_go_338 rfl ?_
                          refine va_get (D := (dC, dI)) (ci := 12) (v := .int (nI k47)) (C := RX12) (T := TX12) (N := 52) hx hb hts hin12 hown hK hP 0 rfl rfl 5 (by decide) (hts (.fieldLink RX12 21 "PorridgeSeaModel" "to" "I") (List.mem_of_getElem? (i := 1) rfl)) (fun _ h9 => h9) rfl dX12_go_339 ?_
                          refine lv_iconst (v := nI 1) hx hb dX12_go_342 (by decide) ?_
                          refine lv_iadd hx hb dX12_go_343 ?_
                          refine r_ti (nI (k47 + 1)) (nI_add _ _) ?_
                          refine va_put (D := (dC, dI)) (ci := 12) (v := .int (nI (k47 + 1))) (ty := .int) (C := RX12) (T := TX12) (N := 52) hx hb hts hin12 tyX12 tyX12_ok nmX12 hown hK hP hD hS 0 rfl rfl 5 (by decide) (hts (.fieldLink RX12 21 "PorridgeSeaModel" "to" "I") (List.mem_of_getElem? (i := 1) rfl)) (fun _ h9 => h9) rfl (by decide +kernel) rfl rfl (Nat.le_of_ble_eq_true rfl) dX12_go_344 (fun H locs hP hD hS => ?_)
                          have hP : va_P (dC, dI) vwCl [(o, .inr (12, [.int kthrown, .ref ktape, .int (nI ktaped), .int (nI ksize), .int (nI klimit), .int (nI (k47 + 1)), .int (nI k5), .int kkind, .int y79, .int ksign, .int kfault, .int kplace, .long w72, .int ktold, .ref know, .ref kread, .ref kkept, .ref ksnaps, .ref kaside, .ref kname, .ref kreadName, .ref kkeptName, .ref kisKept, .ref konces, .int (nI ksnapMany), .int khasCells, .ref kpoured, .ref kfar, .ref ksides, .int (nI ksideMany), .int kwayDays, .int khasWay, .ref klines, .ref kmet, .int (nI kmetMany), .ref ksunk, .ref ktrying, .int (nI ksunkMany), .int ksending, .int kfleets, .ref ktext, .int (nI ktexts), .int kseed, .ref kline, .ref kwritten, .int (nI klineMany), .int khasWritten, .ref knode, .int (nI knodes), .int (nI konesMany), .int (nI kwithin), .int (nI ktop)])), (ktape, .inl (ky 0, 940, .inl ktapeF))] H := hP
                          have hD : va_D A [(o, .inr (12, [.int kthrown, .ref ktape, .int (nI ktaped), .int (nI ksize), .int (nI klimit), .int (nI (k47 + 1)), .int (nI k5), .int kkind, .int y79, .int ksign, .int kfault, .int kplace, .long w72, .int ktold, .ref know, .ref kread, .ref kkept, .ref ksnaps, .ref kaside, .ref kname, .ref kreadName, .ref kkeptName, .ref kisKept, .ref konces, .int (nI ksnapMany), .int khasCells, .ref kpoured, .ref kfar, .ref ksides, .int (nI ksideMany), .int kwayDays, .int khasWay, .ref klines, .ref kmet, .int (nI kmetMany), .ref ksunk, .ref ktrying, .int (nI ksunkMany), .int ksending, .int kfleets, .ref ktext, .int (nI ktexts), .int kseed, .ref kline, .ref kwritten, .int (nI klineMany), .int khasWritten, .ref knode, .int (nI knodes), .int (nI konesMany), .int (nI kwithin), .int (nI ktop)])), (ktape, .inl (ky 0, 940, .inl ktapeF))] := hD
                          refine lv_goto (tgt := 215) hx hb dX12_go_347 (by decide) ?_
                          exact ih58 (nI 0) (k47 + 1) y79 w72 (lf_x_goP_13) (lf_x_goP_14 ksize kto ktapeF k5 n10 y18 r24 x46 k47 x48 n57 r60 y68 y75 y77 y79 iv_ko_1 iv_ko_3 j6 j7 j8 hm12 c17 e19 p25 j50 j51 j52 j53 j54 j55 hm59 p61 t64 t65 e69 c70 c74 e76 e78 e80) (lf_x_goP_15 ksize kto ktapeF k5 n10 y18 r24 x46 k47 x48 n57 r60 y68 y75 y77 y79 iv_ko_1 iv_ko_3 j6 j7 j8 hm12 c17 e19 p25 j50 j51 j52 j53 j54 j55 hm59 p61 t64 t65 e69 c70 c74 e76 e78 e80) (lf_x_goP_16 ksize kto ktapeF k5 n10 y18 r24 x46 k47 x48 n57 r60 y68 y75 y77 y79 iv_ko_1 iv_ko_3 j6 j7 j8 hm12 c17 e19 p25 j50 j51 j52 j53 j54 j55 hm59 p61 t64 t65 e69 c70 c74 e76 e78 e80) (lf_x_goP_17 ksize kto ktapeF k5 n10 y18 r24 x46 k47 x48 n57 r60 y68 y75 y77 y79 iv_ko_1 iv_ko_3 j6 j7 j8 hm12 c17 e19 p25 j50 j51 j52 j53 j54 j55 hm59 p61 t64 t65 e69 c70 c74 e76 e78 e80) (lf_x_goP_18 ksize kto ktapeF k5 n10 y18 r24 x46 k47 x48 n57 r60 y68 y75 y77 y79 iv_ko_1 iv_ko_3 j6 j7 j8 hm12 c17 e19 p25 j50 j51 j52 j53 j54 j55 hm59 p61 t64 t65 e69 c70 c74 e76 e78 e80) (lf_x_goP_19 ksize kto ktapeF k5 n10 y18 r24 x46 k47 x48 n57 r60 y68 y75 y77 y79 iv_ko_1 iv_ko_3 j6 j7 j8 hm12 c17 e19 p25 j50 j51 j52 j53 j54 j55 hm59 p61 t64 t65 e69 c70 c74 e76 e78 e80) _ _ _ hP hD hS (lv_sub hl [0, 2, 3] rfl)
                      refine n_icmp_ge (x := (k47 - k5)) (y := 7) (tgt := 307) hx hb (by omega) (by omega) dX12_go_284 (by decide) (fun c71 => ?_) (fun c71 => ?_)
                      · exact hJ73 w49  _ _ _ hP hD hS (lv_sub hl [0, 1, 2, 3] rfl)
                      · refine lv_aload_n hx hb dX12_go_287 rfl (lv_at hl 3 rfl) ?_
                        refine lv_ldc2 (v := 27) hx hb hown (hts _ (List.mem_of_getElem? (i := 10) rfl)) dX12_go_288 ?_
                        refine lv_aload_n hx hb dX12_go_291 rfl (lv_at hl 3 rfl) ?_
                        refine va_get (D := (dC, dI)) (ci := 12) (v := .long w49) (C := RX12) (T := TX12) (N := 52) hx hb hts hin12 hown hK hP 0 rfl rfl 12 (by decide) (hts (.fieldLink RX12 43 "PorridgeSeaModel" "word" "J") (List.mem_of_getElem? (i := 8) rfl)) (fun _ h9 => h9) rfl dX12_go_292 ?_
                        refine lv_lmul hx hb dX12_go_295 ?_
                        refine lv_topl (fun w81 e82 => ?_)
                        refine lv_iload hx hb dX12_go_296 (lv_at hl 1 rfl) ?_
                        obtain ⟨w83, e84⟩ : ∃ z9 : Int64, z9 = (y68).toInt64 := ⟨_, rfl⟩
                        refine lv_i2l (v := w83) hx hb dX12_go_298 e84.symm ?_
                        refine lv_ladd hx hb dX12_go_299 ?_
                        refine lv_topl (fun w85 e86 => ?_)
                        refine lv_ldc2 (v := 96) hx hb hown (hts _ (List.mem_of_getElem? (i := 11) rfl)) dX12_go_300 ?_
                        refine lv_lsub hx hb dX12_go_303 ?_
                        refine lv_topl (fun w87 e88 => ?_)
                        refine va_put (D := (dC, dI)) (ci := 12) (v := .long w87) (ty := .long) (C := RX12) (T := TX12) (N := 52) hx hb hts hin12 tyX12 tyX12_ok nmX12 hown hK hP hD hS 0 rfl rfl 12 (by decide) (hts (.fieldLink RX12 43 "PorridgeSeaModel" "word" "J") (List.mem_of_getElem? (i := 8) rfl)) (fun _ h9 => h9) rfl (by decide +kernel) rfl rfl (Nat.le_of_ble_eq_true rfl) dX12_go_304 (fun H locs hP hD hS => ?_)
                        have hP : va_P (dC, dI) vwCl [(o, .inr (12, [.int kthrown, .ref ktape, .int (nI ktaped), .int (nI ksize), .int (nI klimit), .int (nI k47), .int (nI k5), .int kkind, .int x48, .int ksign, .int kfault, .int kplace, .long w87, .int ktold, .ref know, .ref kread, .ref kkept, .ref ksnaps, .ref kaside, .ref kname, .ref kreadName, .ref kkeptName, .ref kisKept, .ref konces, .int (nI ksnapMany), .int khasCells, .ref kpoured, .ref kfar, .ref ksides, .int (nI ksideMany), .int kwayDays, .int khasWay, .ref klines, .ref kmet, .int (nI kmetMany), .ref ksunk, .ref ktrying, .int (nI ksunkMany), .int ksending, .int kfleets, .ref ktext, .int (nI ktexts), .int kseed, .ref kline, .ref kwritten, .int (nI klineMany), .int khasWritten, .ref knode, .int (nI knodes), .int (nI konesMany), .int (nI kwithin), .int (nI ktop)])), (ktape, .inl (ky 0, 940, .inl ktapeF))] H := hP
                        have hD : va_D A [(o, .inr (12, [.int kthrown, .ref ktape, .int (nI ktaped), .int (nI ksize), .int (nI klimit), .int (nI k47), .int (nI k5), .int kkind, .int x48, .int ksign, .int kfault, .int kplace, .long w87, .int ktold, .ref know, .ref kread, .ref kkept, .ref ksnaps, .ref kaside, .ref kname, .ref kreadName, .ref kkeptName, .ref kisKept, .ref konces, .int (nI ksnapMany), .int khasCells, .ref kpoured, .ref kfar, .ref ksides, .int (nI ksideMany), .int kwayDays, .int khasWay, .ref klines, .ref kmet, .int (nI kmetMany), .ref ksunk, .ref ktrying, .int (nI ksunkMany), .int ksending, .int kfleets, .ref ktext, .int (nI ktexts), .int kseed, .ref kline, .ref kwritten, .int (nI klineMany), .int khasWritten, .ref knode, .int (nI knodes), .int (nI konesMany), .int (nI kwithin), .int (nI ktop)])), (ktape, .inl (ky 0, 940, .inl ktapeF))] := hD
                        exact hJ73 w87  _ _ _ hP hD hS (lv_sub hl [0, 1, 2, 3] rfl)
                    · refine lv_iload hx hb dX12_go_258 (lv_at hl 0 rfl) ?_
                      refine vp_callSi (W.runS (As := [.int y68]) (rest := []) ⟨hx, hb, hml, hown, hts⟩ (c_x_isLetterE l dC dI ky y68) (va_cwS 1 hts gX12_go_X12_isLetter rfl rfl rfl (by decide +kernel) ⟨(Nat.le_of_ble_eq_true rfl), (Nat.le_of_ble_eq_true rfl)⟩) (pre_PS hK hP [] rfl) rfl rfl hl.1 rfl (lv_room (Nat.le_of_ble_eq_true rfl)) dX12_go_260 ⟨(Nat.le_of_ble_eq_true rfl), (Nat.le_of_ble_eq_true rfl)⟩) (fun r89 p90 => ?_)
                      rcases p90 with ⟨rfl, t91, t92⟩ | ⟨rfl, t93⟩
                      · refine lv_iload_n hx hb dX12_go_263 rfl (lv_at hl 2 rfl) ?_
                        refine lv_icmp_ne (tgt := 271) hx hb dX12_go_264 (by decide) (fun c94 => ?_) (fun c94 => ?_)
                        · refine lv_iconst (v := nI 0) hx hb dX12_go_271 (by decide) ?_
                          refine lv_istore_n (lv' := [(3, .int (nI 0)), (4, .int y68), (2, .int r24), (0, .ref o)]) hx hb dX12_go_272 rfl hl (by decide) rfl (fun ls hl => ?_)
                          refine lv_aload_n hx hb dX12_go_273 rfl (lv_at hl 3 rfl) ?_
                          refine va_get (D := (dC, dI)) (ci := 12) (v := .int (nI k47)) (C := RX12) (T := TX12) (N := 52) hx hb hts hin12 hown hK hP 0 rfl rfl 5 (by decide) (hts (.fieldLink RX12 21 "PorridgeSeaModel" "to" "I") (List.mem_of_getElem? (i := 1) rfl)) (fun _ h9 => h9) rfl dX12_go_274 ?_
                          refine lv_aload_n hx hb dX12_go_277 rfl (lv_at hl 3 rfl) ?_
                          refine va_get (D := (dC, dI)) (ci := 12) (v := .int (nI k5)) (C := RX12) (T := TX12) (N := 52) hx hb hts hin12 hown hK hP 0 rfl rfl 6 (by decide) (hts (.fieldLink RX12 24 "PorridgeSeaModel" "from" "I") (List.mem_of_getElem? (i := 4) rfl)) (fun _ h9 => h9) rfl dX12_go_278 ?_
                          refine lv_isub hx hb dX12_go_281 ?_
                          refine r_ti (nI (k47 - k5)) (pk_sub (lf_x_goP_20 ksize kto ktapeF k5 n10 y18 r24 x46 k47 x48 n57 r60 y68 iv_ko_1 iv_ko_3 j6 j7 j8 hm12 c17 e19 p25 j50 j51 j52 j53 j54 j55 hm59 p61 t64 t65 e69 c70 t91 t92 c94)) ?_
                          refine lv_bipush (v := nI 7) hx hb dX12_go_282 (by decide) ?_
                          have hJ97 : ∀ (w96 : Int64), ∀ (H : Heap) (locs : List Loc) (ls : Array Slot), va_P (dC, dI) vwCl [(o, .inr (12, [.int kthrown, .ref ktape, .int (nI ktaped), .int (nI ksize), .int (nI klimit), .int (nI k47), .int (nI k5), .int kkind, .int x48, .int ksign, .int kfault, .int kplace, .long w96, .int ktold, .ref know, .ref kread, .ref kkept, .ref ksnaps, .ref kaside, .ref kname, .ref kreadName, .ref kkeptName, .ref kisKept, .ref konces, .int (nI ksnapMany), .int khasCells, .ref kpoured, .ref kfar, .ref ksides, .int (nI ksideMany), .int kwayDays, .int khasWay, .ref klines, .ref kmet, .int (nI kmetMany), .ref ksunk, .ref ktrying, .int (nI ksunkMany), .int ksending, .int kfleets, .ref ktext, .int (nI ktexts), .int kseed, .ref kline, .ref kwritten, .int (nI klineMany), .int khasWritten, .ref knode, .int (nI knodes), .int (nI konesMany), .int (nI kwithin), .int (nI ktop)])), (ktape, .inl (ky 0, 940, .inl ktapeF))] H → va_D A [(o, .inr (12, [.int kthrown, .ref ktape, .int (nI ktaped), .int (nI ksize), .int (nI klimit), .int (nI k47), .int (nI k5), .int kkind, .int x48, .int ksign, .int kfault, .int kplace, .long w96, .int ktold, .ref know, .ref kread, .ref kkept, .ref ksnaps, .ref kaside, .ref kname, .ref kreadName, .ref kkeptName, .ref kisKept, .ref konces, .int (nI ksnapMany), .int khasCells, .ref kpoured, .ref kfar, .ref ksides, .int (nI ksideMany), .int kwayDays, .int khasWay, .ref klines, .ref kmet, .int (nI kmetMany), .ref ksunk, .ref ktrying, .int (nI ksunkMany), .int ksending, .int kfleets, .ref ktext, .int (nI ktexts), .int kseed, .ref kline, .ref kwritten, .int (nI klineMany), .int khasWritten, .ref knode, .int (nI knodes), .int (nI konesMany), .int (nI kwithin), .int (nI ktop)])), (ktape, .inl (ky 0, 940, .inl ktapeF))] → va_S A s.heap H locs → lv_has ls 5 [(3, .int (nI 0)), (4, .int y68), (2, .int r24), (0, .ref o)] → W p l e (headSpec wsX12_go ({ frames := 1, cells := 0, slots := 0, locals := 21 })).room s m args below meth c H locs 0 0 Q (F0 m 307 ls []) := by
                            intro w96 H locs ls hP hD hS hl
                            refine lv_aload_n hx hb dX12_go_307 rfl (lv_at hl 3 rfl) ?_
                            refine va_get (D := (dC, dI)) (ci := 12) (v := .int (nI k47)) (C := RX12) (T := TX12) (N := 52) hx hb hts hin12 hown hK hP 0 rfl rfl 5 (by decide) (hts (.fieldLink RX12 21 "PorridgeSeaModel" "to" "I") (List.mem_of_getElem? (i := 1) rfl)) (fun _ h9 => h9) rfl dX12_go_308 ?_
                            refine lv_aload_n hx hb dX12_go_311 rfl (lv_at hl 3 rfl) ?_
                            refine va_get (D := (dC, dI)) (ci := 12) (v := .int (nI k5)) (C := RX12) (T := TX12) (N := 52) hx hb hts hin12 hown hK hP 0 rfl rfl 6 (by decide) (hts (.fieldLink RX12 24 "PorridgeSeaModel" "from" "I") (List.mem_of_getElem? (i := 4) rfl)) (fun _ h9 => h9) rfl dX12_go_312 ?_
                            refine lv_isub hx hb dX12_go_315 ?_
                            refine r_ti (nI (k47 - k5)) (pk_sub (lf_x_goP_21 ksize kto ktapeF k5 n10 y18 r24 x46 k47 x48 n57 r60 y68 iv_ko_1 iv_ko_3 j6 j7 j8 hm12 c17 e19 p25 j50 j51 j52 j53 j54 j55 hm59 p61 t64 t65 e69 c70 t91 t92 c94)) ?_
                            refine lv_iconst (v := nI 3) hx hb dX12_go_316 (by decide) ?_
                            refine n_icmp_ge (x := (k47 - k5)) (y := 3) (tgt := 337) hx hb (by omega) (by omega) dX12_go_317 (by decide) (fun c98 => ?_) (fun c98 => ?_)
                            · refine lv_aload_n hx hb dX12_go_337 rfl (lv_at hl 3 rfl) ?_
                              refine lv_dup hx hb dX12_go_338 rfl ?_
                              refine va_get (D := (dC, dI)) (ci := 12) (v := .int (nI k47)) (C := RX12) (T := TX12) (N := 52) hx hb hts hin12 hown hK hP 0 rfl rfl 5 (by decide) (hts (.fieldLink RX12 21 "PorridgeSeaModel" "to" "I") (List.mem_of_getElem? (i := 1) rfl)) (fun _ h9 => h9) rfl dX12_go_339 ?_
                              refine lv_iconst (v := nI 1) hx hb dX12_go_342 (by decide) ?_
                              refine lv_iadd hx hb dX12_go_343 ?_
                              refine r_ti (nI (k47 + 1)) (nI_add _ _) ?_
                              refine va_put (D := (dC, dI)) (ci := 12) (v := .int (nI (k47 + 1))) (ty := .int) (C := RX12) (T := TX12) (N := 52) hx hb hts hin12 tyX12 tyX12_ok nmX12 hown hK hP hD hS 0 rfl rfl 5 (by decide) (hts (.fieldLink RX12 21 "PorridgeSeaModel" "to" "I") (List.mem_of_getElem? (i := 1) rfl)) (fun _ h9 => h9) rfl (by decide +kernel) rfl rfl (Nat.le_of_ble_eq_true rfl) dX12_go_344 (fun H locs hP hD hS => ?_)
                              have hP : va_P (dC, dI) vwCl [(o, .inr (12, [.int kthrown, .ref ktape, .int (nI ktaped), .int (nI ksize), .int (nI klimit), .int (nI (k47 + 1)), .int (nI k5), .int kkind, .int x48, .int ksign, .int kfault, .int kplace, .long w96, .int ktold, .ref know, .ref kread, .ref kkept, .ref ksnaps, .ref kaside, .ref kname, .ref kreadName, .ref kkeptName, .ref kisKept, .ref konces, .int (nI ksnapMany), .int khasCells, .ref kpoured, .ref kfar, .ref ksides, .int (nI ksideMany), .int kwayDays, .int khasWay, .ref klines, .ref kmet, .int (nI kmetMany), .ref ksunk, .ref ktrying, .int (nI ksunkMany), .int ksending, .int kfleets, .ref ktext, .int (nI ktexts), .int kseed, .ref kline, .ref kwritten, .int (nI klineMany), .int khasWritten, .ref knode, .int (nI knodes), .int (nI konesMany), .int (nI kwithin), .int (nI ktop)])), (ktape, .inl (ky 0, 940, .inl ktapeF))] H := hP
                              have hD : va_D A [(o, .inr (12, [.int kthrown, .ref ktape, .int (nI ktaped), .int (nI ksize), .int (nI klimit), .int (nI (k47 + 1)), .int (nI k5), .int kkind, .int x48, .int ksign, .int kfault, .int kplace, .long w96, .int ktold, .ref know, .ref kread, .ref kkept, .ref ksnaps, .ref kaside, .ref kname, .ref kreadName, .ref kkeptName, .ref kisKept, .ref konces, .int (nI ksnapMany), .int khasCells, .ref kpoured, .ref kfar, .ref ksides, .int (nI ksideMany), .int kwayDays, .int khasWay, .ref klines, .ref kmet, .int (nI kmetMany), .ref ksunk, .ref ktrying, .int (nI ksunkMany), .int ksending, .int kfleets, .ref ktext, .int (nI ktexts), .int kseed, .ref kline, .ref kwritten, .int (nI klineMany), .int khasWritten, .ref knode, .int (nI knodes), .int (nI konesMany), .int (nI kwithin), .int (nI ktop)])), (ktape, .inl (ky 0, 940, .inl ktapeF))] := hD
                              refine lv_goto (tgt := 215) hx hb dX12_go_347 (by decide) ?_
                              exact ih58 (nI 0) (k47 + 1) x48 w96 (lf_x_goP_22) (lf_x_goP_23 ksize kto ktapeF k5 n10 y18 r24 x46 k47 x48 n57 r60 y68 iv_ko_1 iv_ko_3 j6 j7 j8 hm12 c17 e19 p25 j50 j51 j52 j53 j54 j55 hm59 p61 t64 t65 e69 c70 t91 t92 c94 c98) (lf_x_goP_24 ksize kto ktapeF k5 n10 y18 r24 x46 k47 x48 n57 r60 y68 iv_ko_1 iv_ko_3 j6 j7 j8 hm12 c17 e19 p25 j50 j51 j52 j53 j54 j55 hm59 p61 t64 t65 e69 c70 t91 t92 c94 c98) (lf_x_goP_25 ksize kto ktapeF k5 n10 y18 r24 x46 k47 x48 n57 r60 y68 iv_ko_1 iv_ko_3 j6 j7 j8 hm12 c17 e19 p25 j50 j51 j52 j53 j54 j55 hm59 p61 t64 t65 e69 c70 t91 t92 c94 c98) (lf_x_goP_26 ksize kto ktapeF k5 n10 y18 r24 x46 k47 x48 n57 r60 y68 iv_ko_1 iv_ko_3 j6 j7 j8 hm12 c17 e19 p25 j50 j51 j52 j53 j54 j55 hm59 p61 t64 t65 e69 c70 t91 t92 c94 c98) (lf_x_goP_27 ksize kto ktapeF k5 n10 y18 r24 x46 k47 x48 n57 r60 y68 iv_ko_1 iv_ko_3 j6 j7 j8 hm12 c17 e19 p25 j50 j51 j52 j53 j54 j55 hm59 p61 t64 t65 e69 c70 t91 t92 c94 c98) (lf_x_goP_28 ksize kto ktapeF k5 n10 y18 r24 x46 k47 x48 n57 r60 y68 iv_ko_1 iv_ko_3 j6 j7 j8 hm12 c17 e19 p25 j50 j51 j52 j53 j54 j55 hm59 p61 t64 t65 e69 c70 t91 t92 c94 c98) _ _ _ hP hD hS (lv_sub hl [0, 2, 3] rfl)
                            · refine lv_aload_n hx hb dX12_go_320 rfl (lv_at hl 3 rfl) ?_
                              refine lv_bipush (v := nI 10) hx hb dX12_go_321 (by decide) ?_
                              refine lv_aload_n hx hb dX12_go_323 rfl (lv_at hl 3 rfl) ?_
                              refine va_get (D := (dC, dI)) (ci := 12) (v := .int x48) (C := RX12) (T := TX12) (N := 52) hx hb hts hin12 hown hK hP 0 rfl rfl 8 (by decide) (hts (.fieldLink RX12 47 "PorridgeSeaModel" "number" "I") (List.mem_of_getElem? (i := 9) rfl)) (fun _ h9 => h9) rfl dX12_go_324 ?_
                              refine lv_imul hx hb dX12_go_327 ?_
                              refine lv_topi (fun y99 e100 => ?_)
                              refine lv_iload hx hb dX12_go_328 (lv_at hl 1 rfl) ?_
                              obtain ⟨n101, h102, e103⟩ := nat_of y68 123 (by decide) (lf_x_goP_29 ksize kto ktapeF k5 n10 y18 r24 x46 k47 x48 n57 r60 y68 y99 iv_ko_1 iv_ko_3 j6 j7 j8 hm12 c17 e19 p25 j50 j51 j52 j53 j54 j55 hm59 p61 t64 t65 e69 c70 t91 t92 c94 c98 e100)
                              have f104 : 97 ≤ n101 := (lf_x_goP_30 ksize kto ktapeF k5 n10 y18 r24 x46 k47 x48 n57 r60 y68 y99 n101 iv_ko_1 iv_ko_3 j6 j7 j8 hm12 c17 e19 p25 j50 j51 j52 j53 j54 j55 hm59 p61 t64 t65 e69 c70 t91 t92 c94 c98 e100 h102 e103)
                              rw [e103]
                              refine lv_iadd hx hb dX12_go_330 ?_
                              refine lv_topi (fun y105 e106 => ?_)
                              refine lv_bipush (v := nI 48) hx hb dX12_go_331 (by decide) ?_
                              refine lv_isub hx hb dX12_go_333 ?_
                              refine lv_topi (fun y107 e108 => ?_)
                              refine va_put (D := (dC, dI)) (ci := 12) (v := .int y107) (ty := .int) (C := RX12) (T := TX12) (N := 52) hx hb hts hin12 tyX12 tyX12_ok nmX12 hown hK hP hD hS 0 rfl rfl 8 (by decide) (hts (.fieldLink RX12 47 "PorridgeSeaModel" "number" "I") (List.mem_of_getElem? (i := 9) rfl)) (fun _ h9 => h9) rfl (by decide +kernel) rfl rfl (Nat.le_of_ble_eq_true rfl) dX12_go_334 (fun H locs hP hD hS => ?_)
                              have hP : va_P (dC, dI) vwCl [(o, .inr (12, [.int kthrown, .ref ktape, .int (nI ktaped), .int (nI ksize), .int (nI klimit), .int (nI k47), .int (nI k5), .int kkind, .int y107, .int ksign, .int kfault, .int kplace, .long w96, .int ktold, .ref know, .ref kread, .ref kkept, .ref ksnaps, .ref kaside, .ref kname, .ref kreadName, .ref kkeptName, .ref kisKept, .ref konces, .int (nI ksnapMany), .int khasCells, .ref kpoured, .ref kfar, .ref ksides, .int (nI ksideMany), .int kwayDays, .int khasWay, .ref klines, .ref kmet, .int (nI kmetMany), .ref ksunk, .ref ktrying, .int (nI ksunkMany), .int ksending, .int kfleets, .ref ktext, .int (nI ktexts), .int kseed, .ref kline, .ref kwritten, .int (nI klineMany), .int khasWritten, .ref knode, .int (nI knodes), .int (nI konesMany), .int (nI kwithin), .int (nI ktop)])), (ktape, .inl (ky 0, 940, .inl ktapeF))] H := hP
                              have hD : va_D A [(o, .inr (12, [.int kthrown, .ref ktape, .int (nI ktaped), .int (nI ksize), .int (nI klimit), .int (nI k47), .int (nI k5), .int kkind, .int y107, .int ksign, .int kfault, .int kplace, .long w96, .int ktold, .ref know, .ref kread, .ref kkept, .ref ksnaps, .ref kaside, .ref kname, .ref kreadName, .ref kkeptName, .ref kisKept, .ref konces, .int (nI ksnapMany), .int khasCells, .ref kpoured, .ref kfar, .ref ksides, .int (nI ksideMany), .int kwayDays, .int khasWay, .ref klines, .ref kmet, .int (nI kmetMany), .ref ksunk, .ref ktrying, .int (nI ksunkMany), .int ksending, .int kfleets, .ref ktext, .int (nI ktexts), .int kseed, .ref kline, .ref kwritten, .int (nI klineMany), .int khasWritten, .ref knode, .int (nI knodes), .int (nI konesMany), .int (nI kwithin), .int (nI ktop)])), (ktape, .inl (ky 0, 940, .inl ktapeF))] := hD
                              refine lv_aload_n hx hb dX12_go_337 rfl (lv_at hl 3 rfl) ?_
                              refine lv_dup hx hb dX12_go_338 rfl ?_
                              refine va_get (D := (dC, dI)) (ci := 12) (v := .int (nI k47)) (C := RX12) (T := TX12) (N := 52) hx hb hts hin12 hown hK hP 0 rfl rfl 5 (by decide) (hts (.fieldLink RX12 21 "PorridgeSeaModel" "to" "I") (List.mem_of_getElem? (i := 1) rfl)) (fun _ h9 => h9) rfl dX12_go_339 ?_
                              refine lv_iconst (v := nI 1) hx hb dX12_go_342 (by decide) ?_
                              refine lv_iadd hx hb dX12_go_343 ?_
                              refine r_ti (nI (k47 + 1)) (nI_add _ _) ?_
                              refine va_put (D := (dC, dI)) (ci := 12) (v := .int (nI (k47 + 1))) (ty := .int) (C := RX12) (T := TX12) (N := 52) hx hb hts hin12 tyX12 tyX12_ok nmX12 hown hK hP hD hS 0 rfl rfl 5 (by decide) (hts (.fieldLink RX12 21 "PorridgeSeaModel" "to" "I") (List.mem_of_getElem? (i := 1) rfl)) (fun _ h9 => h9) rfl (by decide +kernel) rfl rfl (Nat.le_of_ble_eq_true rfl) dX12_go_344 (fun H locs hP hD hS => ?_)
                              have hP : va_P (dC, dI) vwCl [(o, .inr (12, [.int kthrown, .ref ktape, .int (nI ktaped), .int (nI ksize), .int (nI klimit), .int (nI (k47 + 1)), .int (nI k5), .int kkind, .int y107, .int ksign, .int kfault, .int kplace, .long w96, .int ktold, .ref know, .ref kread, .ref kkept, .ref ksnaps, .ref kaside, .ref kname, .ref kreadName, .ref kkeptName, .ref kisKept, .ref konces, .int (nI ksnapMany), .int khasCells, .ref kpoured, .ref kfar, .ref ksides, .int (nI ksideMany), .int kwayDays, .int khasWay, .ref klines, .ref kmet, .int (nI kmetMany), .ref ksunk, .ref ktrying, .int (nI ksunkMany), .int ksending, .int kfleets, .ref ktext, .int (nI ktexts), .int kseed, .ref kline, .ref kwritten, .int (nI klineMany), .int khasWritten, .ref knode, .int (nI knodes), .int (nI konesMany), .int (nI kwithin), .int (nI ktop)])), (ktape, .inl (ky 0, 940, .inl ktapeF))] H := hP
                              have hD : va_D A [(o, .inr (12, [.int kthrown, .ref ktape, .int (nI ktaped), .int (nI ksize), .int (nI klimit), .int (nI (k47 + 1)), .int (nI k5), .int kkind, .int y107, .int ksign, .int kfault, .int kplace, .long w96, .int ktold, .ref know, .ref kread, .ref kkept, .ref ksnaps, .ref kaside, .ref kname, .ref kreadName, .ref kkeptName, .ref kisKept, .ref konces, .int (nI ksnapMany), .int khasCells, .ref kpoured, .ref kfar, .ref ksides, .int (nI ksideMany), .int kwayDays, .int khasWay, .ref klines, .ref kmet, .int (nI kmetMany), .ref ksunk, .ref ktrying, .int (nI ksunkMany), .int ksending, .int kfleets, .ref ktext, .int (nI ktexts), .int kseed, .ref kline, .ref kwritten, .int (nI klineMany), .int khasWritten, .ref knode, .int (nI knodes), .int (nI konesMany), .int (nI kwithin), .int (nI ktop)])), (ktape, .inl (ky 0, 940, .inl ktapeF))] := hD
                              refine lv_goto (tgt := 215) hx hb dX12_go_347 (by decide) ?_
                              exact ih58 (nI 0) (k47 + 1) y107 w96 (lf_x_goP_31) (lf_x_goP_32 ksize kto ktapeF k5 n10 y18 r24 x46 k47 x48 n57 r60 y68 y99 n101 y105 y107 iv_ko_1 iv_ko_3 j6 j7 j8 hm12 c17 e19 p25 j50 j51 j52 j53 j54 j55 hm59 p61 t64 t65 e69 c70 t91 t92 c94 c98 e100 h102 e103 f104 e106 e108) (lf_x_goP_33 ksize kto ktapeF k5 n10 y18 r24 x46 k47 x48 n57 r60 y68 y99 n101 y105 y107 iv_ko_1 iv_ko_3 j6 j7 j8 hm12 c17 e19 p25 j50 j51 j52 j53 j54 j55 hm59 p61 t64 t65 e69 c70 t91 t92 c94 c98 e100 h102 e103 f104 e106 e108) (lf_x_goP_34 ksize kto ktapeF k5 n10 y18 r24 x46 k47 x48 n57 r60 y68 y99 n101 y105 y107 iv_ko_1 iv_ko_3 j6 j7 j8 hm12 c17 e19 p25 j50 j51 j52 j53 j54 j55 hm59 p61 t64 t65 e69 c70 t91 t92 c94 c98 e100 h102 e103 f104 e106 e108) (lf_x_goP_35 ksize kto ktapeF k5 n10 y18 r24 x46 k47 x48 n57 r60 y68 y99 n101 y105 y107 iv_ko_1 iv_ko_3 j6 j7 j8 hm12 c17 e19 p25 j50 j51 j52 j53 j54 j55 hm59 p61 t64 t65 e69 c70 t91 t92 c94 c98 e100 h102 e103 f104 e106 e108) (lf_x_goP_36 ksize kto ktapeF k5 n10 y18 r24 x46 k47 x48 n57 r60 y68 y99 n101 y105 y107 iv_ko_1 iv_ko_3 j6 j7 j8 hm12 c17 e19 p25 j50 j51 j52 j53 j54 j55 hm59 p61 t64 t65 e69 c70 t91 t92 c94 c98 e100 h102 e103 f104 e106 e108) (lf_x_goP_37 ksize kto ktapeF k5 n10 y18 r24 x46 k47 x48 n57 r60 y68 y99 n101 y105 y107 iv_ko_1 iv_ko_3 j6 j7 j8 hm12 c17 e19 p25 j50 j51 j52 j53 j54 j55 hm59 p61 t64 t65 e69 c70 t91 t92 c94 c98 e100 h102 e103 f104 e106 e108) _ _ _ hP hD hS (lv_sub hl [0, 2, 3] rfl)
                          refine n_icmp_ge (x := (k47 - k5)) (y := 7) (tgt := 307) hx hb (by omega) (by omega) dX12_go_284 (by decide) (fun c95 => ?_) (fun c95 => ?_)
                          · exact hJ97 w49  _ _ _ hP hD hS (lv_sub hl [0, 1, 2, 3] rfl)
                          · refine lv_aload_n hx hb dX12_go_287 rfl (lv_at hl 3 rfl) ?_
                            refine lv_ldc2 (v := 27) hx hb hown (hts _ (List.mem_of_getElem? (i := 10) rfl)) dX12_go_288 ?_
                            refine lv_aload_n hx hb dX12_go_291 rfl (lv_at hl 3 rfl) ?_
                            refine va_get (D := (dC, dI)) (ci := 12) (v := .long w49) (C := RX12) (T := TX12) (N := 52) hx hb hts hin12 hown hK hP 0 rfl rfl 12 (by decide) (hts (.fieldLink RX12 43 "PorridgeSeaModel" "word" "J") (List.mem_of_getElem? (i := 8) rfl)) (fun _ h9 => h9) rfl dX12_go_292 ?_
                            refine lv_lmul hx hb dX12_go_295 ?_
                            refine lv_topl (fun w109 e110 => ?_)
                            refine lv_iload hx hb dX12_go_296 (lv_at hl 1 rfl) ?_
                            obtain ⟨w111, e112⟩ : ∃ z9 : Int64, z9 = (y68).toInt64 := ⟨_, rfl⟩
                            refine lv_i2l (v := w111) hx hb dX12_go_298 e112.symm ?_
                            refine lv_ladd hx hb dX12_go_299 ?_
                            refine lv_topl (fun w113 e114 => ?_)
                            refine lv_ldc2 (v := 96) hx hb hown (hts _ (List.mem_of_getElem? (i := 11) rfl)) dX12_go_300 ?_
                            refine lv_lsub hx hb dX12_go_303 ?_
                            refine lv_topl (fun w115 e116 => ?_)
                            refine va_put (D := (dC, dI)) (ci := 12) (v := .long w115) (ty := .long) (C := RX12) (T := TX12) (N := 52) hx hb hts hin12 tyX12 tyX12_ok nmX12 hown hK hP hD hS 0 rfl rfl 12 (by decide) (hts (.fieldLink RX12 43 "PorridgeSeaModel" "word" "J") (List.mem_of_getElem? (i := 8) rfl)) (fun _ h9 => h9) rfl (by decide +kernel) rfl rfl (Nat.le_of_ble_eq_true rfl) dX12_go_304 (fun H locs hP hD hS => ?_)
                            have hP : va_P (dC, dI) vwCl [(o, .inr (12, [.int kthrown, .ref ktape, .int (nI ktaped), .int (nI ksize), .int (nI klimit), .int (nI k47), .int (nI k5), .int kkind, .int x48, .int ksign, .int kfault, .int kplace, .long w115, .int ktold, .ref know, .ref kread, .ref kkept, .ref ksnaps, .ref kaside, .ref kname, .ref kreadName, .ref kkeptName, .ref kisKept, .ref konces, .int (nI ksnapMany), .int khasCells, .ref kpoured, .ref kfar, .ref ksides, .int (nI ksideMany), .int kwayDays, .int khasWay, .ref klines, .ref kmet, .int (nI kmetMany), .ref ksunk, .ref ktrying, .int (nI ksunkMany), .int ksending, .int kfleets, .ref ktext, .int (nI ktexts), .int kseed, .ref kline, .ref kwritten, .int (nI klineMany), .int khasWritten, .ref knode, .int (nI knodes), .int (nI konesMany), .int (nI kwithin), .int (nI ktop)])), (ktape, .inl (ky 0, 940, .inl ktapeF))] H := hP
                            have hD : va_D A [(o, .inr (12, [.int kthrown, .ref ktape, .int (nI ktaped), .int (nI ksize), .int (nI klimit), .int (nI k47), .int (nI k5), .int kkind, .int x48, .int ksign, .int kfault, .int kplace, .long w115, .int ktold, .ref know, .ref kread, .ref kkept, .ref ksnaps, .ref kaside, .ref kname, .ref kreadName, .ref kkeptName, .ref kisKept, .ref konces, .int (nI ksnapMany), .int khasCells, .ref kpoured, .ref kfar, .ref ksides, .int (nI ksideMany), .int kwayDays, .int khasWay, .ref klines, .ref kmet, .int (nI kmetMany), .ref ksunk, .ref ktrying, .int (nI ksunkMany), .int ksending, .int kfleets, .ref ktext, .int (nI ktexts), .int kseed, .ref kline, .ref kwritten, .int (nI klineMany), .int khasWritten, .ref knode, .int (nI knodes), .int (nI konesMany), .int (nI kwithin), .int (nI ktop)])), (ktape, .inl (ky 0, 940, .inl ktapeF))] := hD
                            exact hJ97 w115  _ _ _ hP hD hS (lv_sub hl [0, 1, 2, 3] rfl)
                        · refine lv_iconst (v := nI 1) hx hb dX12_go_267 (by decide) ?_
                          refine lv_goto (tgt := 272) hx hb dX12_go_268 (by decide) ?_
                          refine lv_istore_n (lv' := [(3, .int (nI 1)), (4, .int y68), (2, .int r24), (0, .ref o)]) hx hb dX12_go_272 rfl hl (by decide) rfl (fun ls hl => ?_)
                          refine lv_aload_n hx hb dX12_go_273 rfl (lv_at hl 3 rfl) ?_
                          refine va_get (D := (dC, dI)) (ci := 12) (v := .int (nI k47)) (C := RX12) (T := TX12) (N := 52) hx hb hts hin12 hown hK hP 0 rfl rfl 5 (by decide) (hts (.fieldLink RX12 21 "PorridgeSeaModel" "to" "I") (List.mem_of_getElem? (i := 1) rfl)) (fun _ h9 => h9) rfl dX12_go_274 ?_
                          refine lv_aload_n hx hb dX12_go_277 rfl (lv_at hl 3 rfl) ?_
                          refine va_get (D := (dC, dI)) (ci := 12) (v := .int (nI k5)) (C := RX12) (T := TX12) (N := 52) hx hb hts hin12 hown hK hP 0 rfl rfl 6 (by decide) (hts (.fieldLink RX12 24 "PorridgeSeaModel" "from" "I") (List.mem_of_getElem? (i := 4) rfl)) (fun _ h9 => h9) rfl dX12_go_278 ?_
                          refine lv_isub hx hb dX12_go_281 ?_
                          refine r_ti (nI (k47 - k5)) (pk_sub (lf_x_goP_38 ksize kto ktapeF k5 n10 y18 r24 x46 k47 x48 n57 r60 y68 iv_ko_1 iv_ko_3 j6 j7 j8 hm12 c17 e19 p25 j50 j51 j52 j53 j54 j55 hm59 p61 t64 t65 e69 c70 t91 t92 c94)) ?_
                          refine lv_bipush (v := nI 7) hx hb dX12_go_282 (by decide) ?_
                          have hJ119 : ∀ (w118 : Int64), ∀ (H : Heap) (locs : List Loc) (ls : Array Slot), va_P (dC, dI) vwCl [(o, .inr (12, [.int kthrown, .ref ktape, .int (nI ktaped), .int (nI ksize), .int (nI klimit), .int (nI k47), .int (nI k5), .int kkind, .int x48, .int ksign, .int kfault, .int kplace, .long w118, .int ktold, .ref know, .ref kread, .ref kkept, .ref ksnaps, .ref kaside, .ref kname, .ref kreadName, .ref kkeptName, .ref kisKept, .ref konces, .int (nI ksnapMany), .int khasCells, .ref kpoured, .ref kfar, .ref ksides, .int (nI ksideMany), .int kwayDays, .int khasWay, .ref klines, .ref kmet, .int (nI kmetMany), .ref ksunk, .ref ktrying, .int (nI ksunkMany), .int ksending, .int kfleets, .ref ktext, .int (nI ktexts), .int kseed, .ref kline, .ref kwritten, .int (nI klineMany), .int khasWritten, .ref knode, .int (nI knodes), .int (nI konesMany), .int (nI kwithin), .int (nI ktop)])), (ktape, .inl (ky 0, 940, .inl ktapeF))] H → va_D A [(o, .inr (12, [.int kthrown, .ref ktape, .int (nI ktaped), .int (nI ksize), .int (nI klimit), .int (nI k47), .int (nI k5), .int kkind, .int x48, .int ksign, .int kfault, .int kplace, .long w118, .int ktold, .ref know, .ref kread, .ref kkept, .ref ksnaps, .ref kaside, .ref kname, .ref kreadName, .ref kkeptName, .ref kisKept, .ref konces, .int (nI ksnapMany), .int khasCells, .ref kpoured, .ref kfar, .ref ksides, .int (nI ksideMany), .int kwayDays, .int khasWay, .ref klines, .ref kmet, .int (nI kmetMany), .ref ksunk, .ref ktrying, .int (nI ksunkMany), .int ksending, .int kfleets, .ref ktext, .int (nI ktexts), .int kseed, .ref kline, .ref kwritten, .int (nI klineMany), .int khasWritten, .ref knode, .int (nI knodes), .int (nI konesMany), .int (nI kwithin), .int (nI ktop)])), (ktape, .inl (ky 0, 940, .inl ktapeF))] → va_S A s.heap H locs → lv_has ls 5 [(3, .int (nI 1)), (4, .int y68), (2, .int r24), (0, .ref o)] → W p l e (headSpec wsX12_go ({ frames := 1, cells := 0, slots := 0, locals := 21 })).room s m args below meth c H locs 0 0 Q (F0 m 307 ls []) := by
                            intro w118 H locs ls hP hD hS hl
                            refine lv_aload_n hx hb dX12_go_307 rfl (lv_at hl 3 rfl) ?_
                            refine va_get (D := (dC, dI)) (ci := 12) (v := .int (nI k47)) (C := RX12) (T := TX12) (N := 52) hx hb hts hin12 hown hK hP 0 rfl rfl 5 (by decide) (hts (.fieldLink RX12 21 "PorridgeSeaModel" "to" "I") (List.mem_of_getElem? (i := 1) rfl)) (fun _ h9 => h9) rfl dX12_go_308 ?_
                            refine lv_aload_n hx hb dX12_go_311 rfl (lv_at hl 3 rfl) ?_
                            refine va_get (D := (dC, dI)) (ci := 12) (v := .int (nI k5)) (C := RX12) (T := TX12) (N := 52) hx hb hts hin12 hown hK hP 0 rfl rfl 6 (by decide) (hts (.fieldLink RX12 24 "PorridgeSeaModel" "from" "I") (List.mem_of_getElem? (i := 4) rfl)) (fun _ h9 => h9) rfl dX12_go_312 ?_
                            refine lv_isub hx hb dX12_go_315 ?_
                            refine r_ti (nI (k47 - k5)) (pk_sub (lf_x_goP_39 ksize kto ktapeF k5 n10 y18 r24 x46 k47 x48 n57 r60 y68 iv_ko_1 iv_ko_3 j6 j7 j8 hm12 c17 e19 p25 j50 j51 j52 j53 j54 j55 hm59 p61 t64 t65 e69 c70 t91 t92 c94)) ?_
                            refine lv_iconst (v := nI 3) hx hb dX12_go_316 (by decide) ?_
                            refine n_icmp_ge (x := (k47 - k5)) (y := 3) (tgt := 337) hx hb (by omega) (by omega) dX12_go_317 (by decide) (fun c120 => ?_) (fun c120 => ?_)
                            · refine lv_aload_n hx hb dX12_go_337 rfl (lv_at hl 3 rfl) ?_
                              refine lv_dup hx hb dX12_go_338 rfl ?_
                              refine va_get (D := (dC, dI)) (ci := 12) (v := .int (nI k47)) (C := RX12) (T := TX12) (N := 52) hx hb hts hin12 hown hK hP 0 rfl rfl 5 (by decide) (hts (.fieldLink RX12 21 "PorridgeSeaModel" "to" "I") (List.mem_of_getElem? (i := 1) rfl)) (fun _ h9 => h9) rfl dX12_go_339 ?_
                              refine lv_iconst (v := nI 1) hx hb dX12_go_342 (by decide) ?_
                              refine lv_iadd hx hb dX12_go_343 ?_
                              refine r_ti (nI (k47 + 1)) (nI_add _ _) ?_
                              refine va_put (D := (dC, dI)) (ci := 12) (v := .int (nI (k47 + 1))) (ty := .int) (C := RX12) (T := TX12) (N := 52) hx hb hts hin12 tyX12 tyX12_ok nmX12 hown hK hP hD hS 0 rfl rfl 5 (by decide) (hts (.fieldLink RX12 21 "PorridgeSeaModel" "to" "I") (List.mem_of_getElem? (i := 1) rfl)) (fun _ h9 => h9) rfl (by decide +kernel) rfl rfl (Nat.le_of_ble_eq_true rfl) dX12_go_344 (fun H locs hP hD hS => ?_)
                              have hP : va_P (dC, dI) vwCl [(o, .inr (12, [.int kthrown, .ref ktape, .int (nI ktaped), .int (nI ksize), .int (nI klimit), .int (nI (k47 + 1)), .int (nI k5), .int kkind, .int x48, .int ksign, .int kfault, .int kplace, .long w118, .int ktold, .ref know, .ref kread, .ref kkept, .ref ksnaps, .ref kaside, .ref kname, .ref kreadName, .ref kkeptName, .ref kisKept, .ref konces, .int (nI ksnapMany), .int khasCells, .ref kpoured, .ref kfar, .ref ksides, .int (nI ksideMany), .int kwayDays, .int khasWay, .ref klines, .ref kmet, .int (nI kmetMany), .ref ksunk, .ref ktrying, .int (nI ksunkMany), .int ksending, .int kfleets, .ref ktext, .int (nI ktexts), .int kseed, .ref kline, .ref kwritten, .int (nI klineMany), .int khasWritten, .ref knode, .int (nI knodes), .int (nI konesMany), .int (nI kwithin), .int (nI ktop)])), (ktape, .inl (ky 0, 940, .inl ktapeF))] H := hP
                              have hD : va_D A [(o, .inr (12, [.int kthrown, .ref ktape, .int (nI ktaped), .int (nI ksize), .int (nI klimit), .int (nI (k47 + 1)), .int (nI k5), .int kkind, .int x48, .int ksign, .int kfault, .int kplace, .long w118, .int ktold, .ref know, .ref kread, .ref kkept, .ref ksnaps, .ref kaside, .ref kname, .ref kreadName, .ref kkeptName, .ref kisKept, .ref konces, .int (nI ksnapMany), .int khasCells, .ref kpoured, .ref kfar, .ref ksides, .int (nI ksideMany), .int kwayDays, .int khasWay, .ref klines, .ref kmet, .int (nI kmetMany), .ref ksunk, .ref ktrying, .int (nI ksunkMany), .int ksending, .int kfleets, .ref ktext, .int (nI ktexts), .int kseed, .ref kline, .ref kwritten, .int (nI klineMany), .int khasWritten, .ref knode, .int (nI knodes), .int (nI konesMany), .int (nI kwithin), .int (nI ktop)])), (ktape, .inl (ky 0, 940, .inl ktapeF))] := hD
                              refine lv_goto (tgt := 215) hx hb dX12_go_347 (by decide) ?_
                              exact ih58 (nI 1) (k47 + 1) x48 w118 (lf_x_goP_40) (lf_x_goP_41 ksize kto ktapeF k5 n10 y18 r24 x46 k47 x48 n57 r60 y68 iv_ko_1 iv_ko_3 j6 j7 j8 hm12 c17 e19 p25 j50 j51 j52 j53 j54 j55 hm59 p61 t64 t65 e69 c70 t91 t92 c94 c120) (lf_x_goP_42 ksize kto ktapeF k5 n10 y18 r24 x46 k47 x48 n57 r60 y68 iv_ko_1 iv_ko_3 j6 j7 j8 hm12 c17 e19 p25 j50 j51 j52 j53 j54 j55 hm59 p61 t64 t65 e69 c70 t91 t92 c94 c120) (lf_x_goP_43 ksize kto ktapeF k5 n10 y18 r24 x46 k47 x48 n57 r60 y68 iv_ko_1 iv_ko_3 j6 j7 j8 hm12 c17 e19 p25 j50 j51 j52 j53 j54 j55 hm59 p61 t64 t65 e69 c70 t91 t92 c94 c120) (lf_x_goP_44 ksize kto ktapeF k5 n10 y18 r24 x46 k47 x48 n57 r60 y68 iv_ko_1 iv_ko_3 j6 j7 j8 hm12 c17 e19 p25 j50 j51 j52 j53 j54 j55 hm59 p61 t64 t65 e69 c70 t91 t92 c94 c120) (lf_x_goP_45 ksize kto ktapeF k5 n10 y18 r24 x46 k47 x48 n57 r60 y68 iv_ko_1 iv_ko_3 j6 j7 j8 hm12 c17 e19 p25 j50 j51 j52 j53 j54 j55 hm59 p61 t64 t65 e69 c70 t91 t92 c94 c120) (lf_x_goP_46 ksize kto ktapeF k5 n10 y18 r24 x46 k47 x48 n57 r60 y68 iv_ko_1 iv_ko_3 j6 j7 j8 hm12 c17 e19 p25 j50 j51 j52 j53 j54 j55 hm59 p61 t64 t65 e69 c70 t91 t92 c94 c120) _ _ _ hP hD hS (lv_sub hl [0, 2, 3] rfl)
                            · refine lv_aload_n hx hb dX12_go_320 rfl (lv_at hl 3 rfl) ?_
                              refine lv_bipush (v := nI 10) hx hb dX12_go_321 (by decide) ?_
                              refine lv_aload_n hx hb dX12_go_323 rfl (lv_at hl 3 rfl) ?_
                              refine va_get (D := (dC, dI)) (ci := 12) (v := .int x48) (C := RX12) (T := TX12) (N := 52) hx hb hts hin12 hown hK hP 0 rfl rfl 8 (by decide) (hts (.fieldLink RX12 47 "PorridgeSeaModel" "number" "I") (List.mem_of_getElem? (i := 9) rfl)) (fun _ h9 => h9) rfl dX12_go_324 ?_
                              refine lv_imul hx hb dX12_go_327 ?_
                              refine lv_topi (fun y121 e122 => ?_)
                              refine lv_iload hx hb dX12_go_328 (lv_at hl 1 rfl) ?_
                              obtain ⟨n123, h124, e125⟩ := nat_of y68 123 (by decide) (lf_x_goP_47 ksize kto ktapeF k5 n10 y18 r24 x46 k47 x48 n57 r60 y68 y121 iv_ko_1 iv_ko_3 j6 j7 j8 hm12 c17 e19 p25 j50 j51 j52 j53 j54 j55 hm59 p61 t64 t65 e69 c70 t91 t92 c94 c120 e122)
                              have f126 : 97 ≤ n123 := (lf_x_goP_48 ksize kto ktapeF k5 n10 y18 r24 x46 k47 x48 n57 r60 y68 y121 n123 iv_ko_1 iv_ko_3 j6 j7 j8 hm12 c17 e19 p25 j50 j51 j52 j53 j54 j55 hm59 p61 t64 t65 e69 c70 t91 t92 c94 c120 e122 h124 e125)
                              rw [e125]
                              refine lv_iadd hx hb dX12_go_330 ?_
                              refine lv_topi (fun y127 e128 => ?_)
                              refine lv_bipush (v := nI 48) hx hb dX12_go_331 (by decide) ?_
                              refine lv_isub hx hb dX12_go_333 ?_
                              refine lv_topi (fun y129 e130 => ?_)
                              refine va_put (D := (dC, dI)) (ci := 12) (v := .int y129) (ty := .int) (C := RX12) (T := TX12) (N := 52) hx hb hts hin12 tyX12 tyX12_ok nmX12 hown hK hP hD hS 0 rfl rfl 8 (by decide) (hts (.fieldLink RX12 47 "PorridgeSeaModel" "number" "I") (List.mem_of_getElem? (i := 9) rfl)) (fun _ h9 => h9) rfl (by decide +kernel) rfl rfl (Nat.le_of_ble_eq_true rfl) dX12_go_334 (fun H locs hP hD hS => ?_)
                              have hP : va_P (dC, dI) vwCl [(o, .inr (12, [.int kthrown, .ref ktape, .int (nI ktaped), .int (nI ksize), .int (nI klimit), .int (nI k47), .int (nI k5), .int kkind, .int y129, .int ksign, .int kfault, .int kplace, .long w118, .int ktold, .ref know, .ref kread, .ref kkept, .ref ksnaps, .ref kaside, .ref kname, .ref kreadName, .ref kkeptName, .ref kisKept, .ref konces, .int (nI ksnapMany), .int khasCells, .ref kpoured, .ref kfar, .ref ksides, .int (nI ksideMany), .int kwayDays, .int khasWay, .ref klines, .ref kmet, .int (nI kmetMany), .ref ksunk, .ref ktrying, .int (nI ksunkMany), .int ksending, .int kfleets, .ref ktext, .int (nI ktexts), .int kseed, .ref kline, .ref kwritten, .int (nI klineMany), .int khasWritten, .ref knode, .int (nI knodes), .int (nI konesMany), .int (nI kwithin), .int (nI ktop)])), (ktape, .inl (ky 0, 940, .inl ktapeF))] H := hP
                              have hD : va_D A [(o, .inr (12, [.int kthrown, .ref ktape, .int (nI ktaped), .int (nI ksize), .int (nI klimit), .int (nI k47), .int (nI k5), .int kkind, .int y129, .int ksign, .int kfault, .int kplace, .long w118, .int ktold, .ref know, .ref kread, .ref kkept, .ref ksnaps, .ref kaside, .ref kname, .ref kreadName, .ref kkeptName, .ref kisKept, .ref konces, .int (nI ksnapMany), .int khasCells, .ref kpoured, .ref kfar, .ref ksides, .int (nI ksideMany), .int kwayDays, .int khasWay, .ref klines, .ref kmet, .int (nI kmetMany), .ref ksunk, .ref ktrying, .int (nI ksunkMany), .int ksending, .int kfleets, .ref ktext, .int (nI ktexts), .int kseed, .ref kline, .ref kwritten, .int (nI klineMany), .int khasWritten, .ref knode, .int (nI knodes), .int (nI konesMany), .int (nI kwithin), .int (nI ktop)])), (ktape, .inl (ky 0, 940, .inl ktapeF))] := hD
                              refine lv_aload_n hx hb dX12_go_337 rfl (lv_at hl 3 rfl) ?_
                              refine lv_dup hx hb dX12_go_338 rfl ?_
                              refine va_get (D := (dC, dI)) (ci := 12) (v := .int (nI k47)) (C := RX12) (T := TX12) (N := 52) hx hb hts hin12 hown hK hP 0 rfl rfl 5 (by decide) (hts (.fieldLink RX12 21 "PorridgeSeaModel" "to" "I") (List.mem_of_getElem? (i := 1) rfl)) (fun _ h9 => h9) rfl dX12_go_339 ?_
                              refine lv_iconst (v := nI 1) hx hb dX12_go_342 (by decide) ?_
                              refine lv_iadd hx hb dX12_go_343 ?_
                              refine r_ti (nI (k47 + 1)) (nI_add _ _) ?_
                              refine va_put (D := (dC, dI)) (ci := 12) (v := .int (nI (k47 + 1))) (ty := .int) (C := RX12) (T := TX12) (N := 52) hx hb hts hin12 tyX12 tyX12_ok nmX12 hown hK hP hD hS 0 rfl rfl 5 (by decide) (hts (.fieldLink RX12 21 "PorridgeSeaModel" "to" "I") (List.mem_of_getElem? (i := 1) rfl)) (fun _ h9 => h9) rfl (by decide +kernel) rfl rfl (Nat.le_of_ble_eq_true rfl) dX12_go_344 (fun H locs hP hD hS => ?_)
                              have hP : va_P (dC, dI) vwCl [(o, .inr (12, [.int kthrown, .ref ktape, .int (nI ktaped), .int (nI ksize), .int (nI klimit), .int (nI (k47 + 1)), .int (nI k5), .int kkind, .int y129, .int ksign, .int kfault, .int kplace, .long w118, .int ktold, .ref know, .ref kread, .ref kkept, .ref ksnaps, .ref kaside, .ref kname, .ref kreadName, .ref kkeptName, .ref kisKept, .ref konces, .int (nI ksnapMany), .int khasCells, .ref kpoured, .ref kfar, .ref ksides, .int (nI ksideMany), .int kwayDays, .int khasWay, .ref klines, .ref kmet, .int (nI kmetMany), .ref ksunk, .ref ktrying, .int (nI ksunkMany), .int ksending, .int kfleets, .ref ktext, .int (nI ktexts), .int kseed, .ref kline, .ref kwritten, .int (nI klineMany), .int khasWritten, .ref knode, .int (nI knodes), .int (nI konesMany), .int (nI kwithin), .int (nI ktop)])), (ktape, .inl (ky 0, 940, .inl ktapeF))] H := hP
                              have hD : va_D A [(o, .inr (12, [.int kthrown, .ref ktape, .int (nI ktaped), .int (nI ksize), .int (nI klimit), .int (nI (k47 + 1)), .int (nI k5), .int kkind, .int y129, .int ksign, .int kfault, .int kplace, .long w118, .int ktold, .ref know, .ref kread, .ref kkept, .ref ksnaps, .ref kaside, .ref kname, .ref kreadName, .ref kkeptName, .ref kisKept, .ref konces, .int (nI ksnapMany), .int khasCells, .ref kpoured, .ref kfar, .ref ksides, .int (nI ksideMany), .int kwayDays, .int khasWay, .ref klines, .ref kmet, .int (nI kmetMany), .ref ksunk, .ref ktrying, .int (nI ksunkMany), .int ksending, .int kfleets, .ref ktext, .int (nI ktexts), .int kseed, .ref kline, .ref kwritten, .int (nI klineMany), .int khasWritten, .ref knode, .int (nI knodes), .int (nI konesMany), .int (nI kwithin), .int (nI ktop)])), (ktape, .inl (ky 0, 940, .inl ktapeF))] := hD
                              refine lv_goto (tgt := 215) hx hb dX12_go_347 (by decide) ?_
                              exact ih58 (nI 1) (k47 + 1) y129 w118 (lf_x_goP_49) (lf_x_goP_50 ksize kto ktapeF k5 n10 y18 r24 x46 k47 x48 n57 r60 y68 y121 n123 y127 y129 iv_ko_1 iv_ko_3 j6 j7 j8 hm12 c17 e19 p25 j50 j51 j52 j53 j54 j55 hm59 p61 t64 t65 e69 c70 t91 t92 c94 c120 e122 h124 e125 f126 e128 e130) (lf_x_goP_51 ksize kto ktapeF k5 n10 y18 r24 x46 k47 x48 n57 r60 y68 y121 n123 y127 y129 iv_ko_1 iv_ko_3 j6 j7 j8 hm12 c17 e19 p25 j50 j51 j52 j53 j54 j55 hm59 p61 t64 t65 e69 c70 t91 t92 c94 c120 e122 h124 e125 f126 e128 e130) (lf_x_goP_52 ksize kto ktapeF k5 n10 y18 r24 x46 k47 x48 n57 r60 y68 y121 n123 y127 y129 iv_ko_1 iv_ko_3 j6 j7 j8 hm12 c17 e19 p25 j50 j51 j52 j53 j54 j55 hm59 p61 t64 t65 e69 c70 t91 t92 c94 c120 e122 h124 e125 f126 e128 e130) (lf_x_goP_53 ksize kto ktapeF k5 n10 y18 r24 x46 k47 x48 n57 r60 y68 y121 n123 y127 y129 iv_ko_1 iv_ko_3 j6 j7 j8 hm12 c17 e19 p25 j50 j51 j52 j53 j54 j55 hm59 p61 t64 t65 e69 c70 t91 t92 c94 c120 e122 h124 e125 f126 e128 e130) (lf_x_goP_54 ksize kto ktapeF k5 n10 y18 r24 x46 k47 x48 n57 r60 y68 y121 n123 y127 y129 iv_ko_1 iv_ko_3 j6 j7 j8 hm12 c17 e19 p25 j50 j51 j52 j53 j54 j55 hm59 p61 t64 t65 e69 c70 t91 t92 c94 c120 e122 h124 e125 f126 e128 e130) (lf_x_goP_55 ksize kto ktapeF k5 n10 y18 r24 x46 k47 x48 n57 r60 y68 y121 n123 y127 y129 iv_ko_1 iv_ko_3 j6 j7 j8 hm12 c17 e19 p25 j50 j51 j52 j53 j54 j55 hm59 p61 t64 t65 e69 c70 t91 t92 c94 c120 e122 h124 e125 f126 e128 e130) _ _ _ hP hD hS (lv_sub hl [0, 2, 3] rfl)
                          refine n_icmp_ge (x := (k47 - k5)) (y := 7) (tgt := 307) hx hb (by omega) (by omega) dX12_go_284 (by decide) (fun c117 => ?_) (fun c117 => ?_)
                          · exact hJ119 w49  _ _ _ hP hD hS (lv_sub hl [0, 1, 2, 3] rfl)
                          · refine lv_aload_n hx hb dX12_go_287 rfl (lv_at hl 3 rfl) ?_
                            refine lv_ldc2 (v := 27) hx hb hown (hts _ (List.mem_of_getElem? (i := 10) rfl)) dX12_go_288 ?_
                            refine lv_aload_n hx hb dX12_go_291 rfl (lv_at hl 3 rfl) ?_
                            refine va_get (D := (dC, dI)) (ci := 12) (v := .long w49) (C := RX12) (T := TX12) (N := 52) hx hb hts hin12 hown hK hP 0 rfl rfl 12 (by decide) (hts (.fieldLink RX12 43 "PorridgeSeaModel" "word" "J") (List.mem_of_getElem? (i := 8) rfl)) (fun _ h9 => h9) rfl dX12_go_292 ?_
                            refine lv_lmul hx hb dX12_go_295 ?_
                            refine lv_topl (fun w131 e132 => ?_)
                            refine lv_iload hx hb dX12_go_296 (lv_at hl 1 rfl) ?_
                            obtain ⟨w133, e134⟩ : ∃ z9 : Int64, z9 = (y68).toInt64 := ⟨_, rfl⟩
                            refine lv_i2l (v := w133) hx hb dX12_go_298 e134.symm ?_
                            refine lv_ladd hx hb dX12_go_299 ?_
                            refine lv_topl (fun w135 e136 => ?_)
                            refine lv_ldc2 (v := 96) hx hb hown (hts _ (List.mem_of_getElem? (i := 11) rfl)) dX12_go_300 ?_
                            refine lv_lsub hx hb dX12_go_303 ?_
                            refine lv_topl (fun w137 e138 => ?_)
                            refine va_put (D := (dC, dI)) (ci := 12) (v := .long w137) (ty := .long) (C := RX12) (T := TX12) (N := 52) hx hb hts hin12 tyX12 tyX12_ok nmX12 hown hK hP hD hS 0 rfl rfl 12 (by decide) (hts (.fieldLink RX12 43 "PorridgeSeaModel" "word" "J") (List.mem_of_getElem? (i := 8) rfl)) (fun _ h9 => h9) rfl (by decide +kernel) rfl rfl (Nat.le_of_ble_eq_true rfl) dX12_go_304 (fun H locs hP hD hS => ?_)
                            have hP : va_P (dC, dI) vwCl [(o, .inr (12, [.int kthrown, .ref ktape, .int (nI ktaped), .int (nI ksize), .int (nI klimit), .int (nI k47), .int (nI k5), .int kkind, .int x48, .int ksign, .int kfault, .int kplace, .long w137, .int ktold, .ref know, .ref kread, .ref kkept, .ref ksnaps, .ref kaside, .ref kname, .ref kreadName, .ref kkeptName, .ref kisKept, .ref konces, .int (nI ksnapMany), .int khasCells, .ref kpoured, .ref kfar, .ref ksides, .int (nI ksideMany), .int kwayDays, .int khasWay, .ref klines, .ref kmet, .int (nI kmetMany), .ref ksunk, .ref ktrying, .int (nI ksunkMany), .int ksending, .int kfleets, .ref ktext, .int (nI ktexts), .int kseed, .ref kline, .ref kwritten, .int (nI klineMany), .int khasWritten, .ref knode, .int (nI knodes), .int (nI konesMany), .int (nI kwithin), .int (nI ktop)])), (ktape, .inl (ky 0, 940, .inl ktapeF))] H := hP
                            have hD : va_D A [(o, .inr (12, [.int kthrown, .ref ktape, .int (nI ktaped), .int (nI ksize), .int (nI klimit), .int (nI k47), .int (nI k5), .int kkind, .int x48, .int ksign, .int kfault, .int kplace, .long w137, .int ktold, .ref know, .ref kread, .ref kkept, .ref ksnaps, .ref kaside, .ref kname, .ref kreadName, .ref kkeptName, .ref kisKept, .ref konces, .int (nI ksnapMany), .int khasCells, .ref kpoured, .ref kfar, .ref ksides, .int (nI ksideMany), .int kwayDays, .int khasWay, .ref klines, .ref kmet, .int (nI kmetMany), .ref ksunk, .ref ktrying, .int (nI ksunkMany), .int ksending, .int kfleets, .ref ktext, .int (nI ktexts), .int kseed, .ref kline, .ref kwritten, .int (nI klineMany), .int khasWritten, .ref knode, .int (nI knodes), .int (nI konesMany), .int (nI kwithin), .int (nI ktop)])), (ktape, .inl (ky 0, 940, .inl ktapeF))] := hD
                            exact hJ119 w137  _ _ _ hP hD hS (lv_sub hl [0, 1, 2, 3] rfl)
                      · refine lv_iload_n hx hb dX12_go_263 rfl (lv_at hl 2 rfl) ?_
                        refine lv_icmp_ne (tgt := 271) hx hb dX12_go_264 (by decide) (fun c139 => ?_) (fun c139 => ?_)
                        · refine lv_iconst (v := nI 0) hx hb dX12_go_271 (by decide) ?_
                          refine lv_istore_n (lv' := [(3, .int (nI 0)), (4, .int y68), (2, .int r24), (0, .ref o)]) hx hb dX12_go_272 rfl hl (by decide) rfl (fun ls hl => ?_)
                          refine lv_aload_n hx hb dX12_go_273 rfl (lv_at hl 3 rfl) ?_
                          refine va_get (D := (dC, dI)) (ci := 12) (v := .int (nI k47)) (C := RX12) (T := TX12) (N := 52) hx hb hts hin12 hown hK hP 0 rfl rfl 5 (by decide) (hts (.fieldLink RX12 21 "PorridgeSeaModel" "to" "I") (List.mem_of_getElem? (i := 1) rfl)) (fun _ h9 => h9) rfl dX12_go_274 ?_
                          refine lv_aload_n hx hb dX12_go_277 rfl (lv_at hl 3 rfl) ?_
                          refine va_get (D := (dC, dI)) (ci := 12) (v := .int (nI k5)) (C := RX12) (T := TX12) (N := 52) hx hb hts hin12 hown hK hP 0 rfl rfl 6 (by decide) (hts (.fieldLink RX12 24 "PorridgeSeaModel" "from" "I") (List.mem_of_getElem? (i := 4) rfl)) (fun _ h9 => h9) rfl dX12_go_278 ?_
                          refine lv_isub hx hb dX12_go_281 ?_
                          refine r_ti (nI (k47 - k5)) (pk_sub (lf_x_goP_56 ksize kto ktapeF k5 n10 y18 r24 x46 k47 x48 n57 r60 y68 iv_ko_1 iv_ko_3 j6 j7 j8 hm12 c17 e19 p25 j50 j51 j52 j53 j54 j55 hm59 p61 t64 t65 e69 c70 t93 c139)) ?_
                          refine lv_bipush (v := nI 7) hx hb dX12_go_282 (by decide) ?_
                          have hJ142 : ∀ (w141 : Int64), ∀ (H : Heap) (locs : List Loc) (ls : Array Slot), va_P (dC, dI) vwCl [(o, .inr (12, [.int kthrown, .ref ktape, .int (nI ktaped), .int (nI ksize), .int (nI klimit), .int (nI k47), .int (nI k5), .int kkind, .int x48, .int ksign, .int kfault, .int kplace, .long w141, .int ktold, .ref know, .ref kread, .ref kkept, .ref ksnaps, .ref kaside, .ref kname, .ref kreadName, .ref kkeptName, .ref kisKept, .ref konces, .int (nI ksnapMany), .int khasCells, .ref kpoured, .ref kfar, .ref ksides, .int (nI ksideMany), .int kwayDays, .int khasWay, .ref klines, .ref kmet, .int (nI kmetMany), .ref ksunk, .ref ktrying, .int (nI ksunkMany), .int ksending, .int kfleets, .ref ktext, .int (nI ktexts), .int kseed, .ref kline, .ref kwritten, .int (nI klineMany), .int khasWritten, .ref knode, .int (nI knodes), .int (nI konesMany), .int (nI kwithin), .int (nI ktop)])), (ktape, .inl (ky 0, 940, .inl ktapeF))] H → va_D A [(o, .inr (12, [.int kthrown, .ref ktape, .int (nI ktaped), .int (nI ksize), .int (nI klimit), .int (nI k47), .int (nI k5), .int kkind, .int x48, .int ksign, .int kfault, .int kplace, .long w141, .int ktold, .ref know, .ref kread, .ref kkept, .ref ksnaps, .ref kaside, .ref kname, .ref kreadName, .ref kkeptName, .ref kisKept, .ref konces, .int (nI ksnapMany), .int khasCells, .ref kpoured, .ref kfar, .ref ksides, .int (nI ksideMany), .int kwayDays, .int khasWay, .ref klines, .ref kmet, .int (nI kmetMany), .ref ksunk, .ref ktrying, .int (nI ksunkMany), .int ksending, .int kfleets, .ref ktext, .int (nI ktexts), .int kseed, .ref kline, .ref kwritten, .int (nI klineMany), .int khasWritten, .ref knode, .int (nI knodes), .int (nI konesMany), .int (nI kwithin), .int (nI ktop)])), (ktape, .inl (ky 0, 940, .inl ktapeF))] → va_S A s.heap H locs → lv_has ls 5 [(3, .int (nI 0)), (4, .int y68), (2, .int r24), (0, .ref o)] → W p l e (headSpec wsX12_go ({ frames := 1, cells := 0, slots := 0, locals := 21 })).room s m args below meth c H locs 0 0 Q (F0 m 307 ls []) := by
                            intro w141 H locs ls hP hD hS hl
                            refine lv_aload_n hx hb dX12_go_307 rfl (lv_at hl 3 rfl) ?_
                            refine va_get (D := (dC, dI)) (ci := 12) (v := .int (nI k47)) (C := RX12) (T := TX12) (N := 52) hx hb hts hin12 hown hK hP 0 rfl rfl 5 (by decide) (hts (.fieldLink RX12 21 "PorridgeSeaModel" "to" "I") (List.mem_of_getElem? (i := 1) rfl)) (fun _ h9 => h9) rfl dX12_go_308 ?_
                            refine lv_aload_n hx hb dX12_go_311 rfl (lv_at hl 3 rfl) ?_
                            refine va_get (D := (dC, dI)) (ci := 12) (v := .int (nI k5)) (C := RX12) (T := TX12) (N := 52) hx hb hts hin12 hown hK hP 0 rfl rfl 6 (by decide) (hts (.fieldLink RX12 24 "PorridgeSeaModel" "from" "I") (List.mem_of_getElem? (i := 4) rfl)) (fun _ h9 => h9) rfl dX12_go_312 ?_
                            refine lv_isub hx hb dX12_go_315 ?_
                            refine r_ti (nI (k47 - k5)) (pk_sub (lf_x_goP_57 ksize kto ktapeF k5 n10 y18 r24 x46 k47 x48 n57 r60 y68 iv_ko_1 iv_ko_3 j6 j7 j8 hm12 c17 e19 p25 j50 j51 j52 j53 j54 j55 hm59 p61 t64 t65 e69 c70 t93 c139)) ?_
                            refine lv_iconst (v := nI 3) hx hb dX12_go_316 (by decide) ?_
                            refine n_icmp_ge (x := (k47 - k5)) (y := 3) (tgt := 337) hx hb (by omega) (by omega) dX12_go_317 (by decide) (fun c143 => ?_) (fun c143 => ?_)
                            · refine lv_aload_n hx hb dX12_go_337 rfl (lv_at hl 3 rfl) ?_
                              refine lv_dup hx hb dX12_go_338 rfl ?_
                              refine va_get (D := (dC, dI)) (ci := 12) (v := .int (nI k47)) (C := RX12) (T := TX12) (N := 52) hx hb hts hin12 hown hK hP 0 rfl rfl 5 (by decide) (hts (.fieldLink RX12 21 "PorridgeSeaModel" "to" "I") (List.mem_of_getElem? (i := 1) rfl)) (fun _ h9 => h9) rfl dX12_go_339 ?_
                              refine lv_iconst (v := nI 1) hx hb dX12_go_342 (by decide) ?_
                              refine lv_iadd hx hb dX12_go_343 ?_
                              refine r_ti (nI (k47 + 1)) (nI_add _ _) ?_
                              refine va_put (D := (dC, dI)) (ci := 12) (v := .int (nI (k47 + 1))) (ty := .int) (C := RX12) (T := TX12) (N := 52) hx hb hts hin12 tyX12 tyX12_ok nmX12 hown hK hP hD hS 0 rfl rfl 5 (by decide) (hts (.fieldLink RX12 21 "PorridgeSeaModel" "to" "I") (List.mem_of_getElem? (i := 1) rfl)) (fun _ h9 => h9) rfl (by decide +kernel) rfl rfl (Nat.le_of_ble_eq_true rfl) dX12_go_344 (fun H locs hP hD hS => ?_)
                              have hP : va_P (dC, dI) vwCl [(o, .inr (12, [.int kthrown, .ref ktape, .int (nI ktaped), .int (nI ksize), .int (nI klimit), .int (nI (k47 + 1)), .int (nI k5), .int kkind, .int x48, .int ksign, .int kfault, .int kplace, .long w141, .int ktold, .ref know, .ref kread, .ref kkept, .ref ksnaps, .ref kaside, .ref kname, .ref kreadName, .ref kkeptName, .ref kisKept, .ref konces, .int (nI ksnapMany), .int khasCells, .ref kpoured, .ref kfar, .ref ksides, .int (nI ksideMany), .int kwayDays, .int khasWay, .ref klines, .ref kmet, .int (nI kmetMany), .ref ksunk, .ref ktrying, .int (nI ksunkMany), .int ksending, .int kfleets, .ref ktext, .int (nI ktexts), .int kseed, .ref kline, .ref kwritten, .int (nI klineMany), .int khasWritten, .ref knode, .int (nI knodes), .int (nI konesMany), .int (nI kwithin), .int (nI ktop)])), (ktape, .inl (ky 0, 940, .inl ktapeF))] H := hP
                              have hD : va_D A [(o, .inr (12, [.int kthrown, .ref ktape, .int (nI ktaped), .int (nI ksize), .int (nI klimit), .int (nI (k47 + 1)), .int (nI k5), .int kkind, .int x48, .int ksign, .int kfault, .int kplace, .long w141, .int ktold, .ref know, .ref kread, .ref kkept, .ref ksnaps, .ref kaside, .ref kname, .ref kreadName, .ref kkeptName, .ref kisKept, .ref konces, .int (nI ksnapMany), .int khasCells, .ref kpoured, .ref kfar, .ref ksides, .int (nI ksideMany), .int kwayDays, .int khasWay, .ref klines, .ref kmet, .int (nI kmetMany), .ref ksunk, .ref ktrying, .int (nI ksunkMany), .int ksending, .int kfleets, .ref ktext, .int (nI ktexts), .int kseed, .ref kline, .ref kwritten, .int (nI klineMany), .int khasWritten, .ref knode, .int (nI knodes), .int (nI konesMany), .int (nI kwithin), .int (nI ktop)])), (ktape, .inl (ky 0, 940, .inl ktapeF))] := hD
                              refine lv_goto (tgt := 215) hx hb dX12_go_347 (by decide) ?_
                              exact ih58 (nI 0) (k47 + 1) x48 w141 (lf_x_goP_58) (lf_x_goP_59 ksize kto ktapeF k5 n10 y18 r24 x46 k47 x48 n57 r60 y68 iv_ko_1 iv_ko_3 j6 j7 j8 hm12 c17 e19 p25 j50 j51 j52 j53 j54 j55 hm59 p61 t64 t65 e69 c70 t93 c139 c143) (lf_x_goP_60 ksize kto ktapeF k5 n10 y18 r24 x46 k47 x48 n57 r60 y68 iv_ko_1 iv_ko_3 j6 j7 j8 hm12 c17 e19 p25 j50 j51 j52 j53 j54 j55 hm59 p61 t64 t65 e69 c70 t93 c139 c143) (lf_x_goP_61 ksize kto ktapeF k5 n10 y18 r24 x46 k47 x48 n57 r60 y68 iv_ko_1 iv_ko_3 j6 j7 j8 hm12 c17 e19 p25 j50 j51 j52 j53 j54 j55 hm59 p61 t64 t65 e69 c70 t93 c139 c143) (lf_x_goP_62 ksize kto ktapeF k5 n10 y18 r24 x46 k47 x48 n57 r60 y68 iv_ko_1 iv_ko_3 j6 j7 j8 hm12 c17 e19 p25 j50 j51 j52 j53 j54 j55 hm59 p61 t64 t65 e69 c70 t93 c139 c143) (lf_x_goP_63 ksize kto ktapeF k5 n10 y18 r24 x46 k47 x48 n57 r60 y68 iv_ko_1 iv_ko_3 j6 j7 j8 hm12 c17 e19 p25 j50 j51 j52 j53 j54 j55 hm59 p61 t64 t65 e69 c70 t93 c139 c143) (lf_x_goP_64 ksize kto ktapeF k5 n10 y18 r24 x46 k47 x48 n57 r60 y68 iv_ko_1 iv_ko_3 j6 j7 j8 hm12 c17 e19 p25 j50 j51 j52 j53 j54 j55 hm59 p61 t64 t65 e69 c70 t93 c139 c143) _ _ _ hP hD hS (lv_sub hl [0, 2, 3] rfl)
                            · refine lv_aload_n hx hb dX12_go_320 rfl (lv_at hl 3 rfl) ?_
                              refine lv_bipush (v := nI 10) hx hb dX12_go_321 (by decide) ?_
                              refine lv_aload_n hx hb dX12_go_323 rfl (lv_at hl 3 rfl) ?_
                              refine va_get (D := (dC, dI)) (ci := 12) (v := .int x48) (C := RX12) (T := TX12) (N := 52) hx hb hts hin12 hown hK hP 0 rfl rfl 8 (by decide) (hts (.fieldLink RX12 47 "PorridgeSeaModel" "number" "I") (List.mem_of_getElem? (i := 9) rfl)) (fun _ h9 => h9) rfl dX12_go_324 ?_
                              refine lv_imul hx hb dX12_go_327 ?_
                              refine lv_topi (fun y144 e145 => ?_)
                              refine lv_iload hx hb dX12_go_328 (lv_at hl 1 rfl) ?_
                              refine lv_iadd hx hb dX12_go_330 ?_
                              refine lv_topi (fun y146 e147 => ?_)
                              refine lv_bipush (v := nI 48) hx hb dX12_go_331 (by decide) ?_
                              refine lv_isub hx hb dX12_go_333 ?_
                              refine lv_topi (fun y148 e149 => ?_)
                              refine va_put (D := (dC, dI)) (ci := 12) (v := .int y148) (ty := .int) (C := RX12) (T := TX12) (N := 52) hx hb hts hin12 tyX12 tyX12_ok nmX12 hown hK hP hD hS 0 rfl rfl 8 (by decide) (hts (.fieldLink RX12 47 "PorridgeSeaModel" "number" "I") (List.mem_of_getElem? (i := 9) rfl)) (fun _ h9 => h9) rfl (by decide +kernel) rfl rfl (Nat.le_of_ble_eq_true rfl) dX12_go_334 (fun H locs hP hD hS => ?_)
                              have hP : va_P (dC, dI) vwCl [(o, .inr (12, [.int kthrown, .ref ktape, .int (nI ktaped), .int (nI ksize), .int (nI klimit), .int (nI k47), .int (nI k5), .int kkind, .int y148, .int ksign, .int kfault, .int kplace, .long w141, .int ktold, .ref know, .ref kread, .ref kkept, .ref ksnaps, .ref kaside, .ref kname, .ref kreadName, .ref kkeptName, .ref kisKept, .ref konces, .int (nI ksnapMany), .int khasCells, .ref kpoured, .ref kfar, .ref ksides, .int (nI ksideMany), .int kwayDays, .int khasWay, .ref klines, .ref kmet, .int (nI kmetMany), .ref ksunk, .ref ktrying, .int (nI ksunkMany), .int ksending, .int kfleets, .ref ktext, .int (nI ktexts), .int kseed, .ref kline, .ref kwritten, .int (nI klineMany), .int khasWritten, .ref knode, .int (nI knodes), .int (nI konesMany), .int (nI kwithin), .int (nI ktop)])), (ktape, .inl (ky 0, 940, .inl ktapeF))] H := hP
                              have hD : va_D A [(o, .inr (12, [.int kthrown, .ref ktape, .int (nI ktaped), .int (nI ksize), .int (nI klimit), .int (nI k47), .int (nI k5), .int kkind, .int y148, .int ksign, .int kfault, .int kplace, .long w141, .int ktold, .ref know, .ref kread, .ref kkept, .ref ksnaps, .ref kaside, .ref kname, .ref kreadName, .ref kkeptName, .ref kisKept, .ref konces, .int (nI ksnapMany), .int khasCells, .ref kpoured, .ref kfar, .ref ksides, .int (nI ksideMany), .int kwayDays, .int khasWay, .ref klines, .ref kmet, .int (nI kmetMany), .ref ksunk, .ref ktrying, .int (nI ksunkMany), .int ksending, .int kfleets, .ref ktext, .int (nI ktexts), .int kseed, .ref kline, .ref kwritten, .int (nI klineMany), .int khasWritten, .ref knode, .int (nI knodes), .int (nI konesMany), .int (nI kwithin), .int (nI ktop)])), (ktape, .inl (ky 0, 940, .inl ktapeF))] := hD
                              refine lv_aload_n hx hb dX12_go_337 rfl (lv_at hl 3 rfl) ?_
                              refine lv_dup hx hb dX12_go_338 rfl ?_
                              refine va_get (D := (dC, dI)) (ci := 12) (v := .int (nI k47)) (C := RX12) (T := TX12) (N := 52) hx hb hts hin12 hown hK hP 0 rfl rfl 5 (by decide) (hts (.fieldLink RX12 21 "PorridgeSeaModel" "to" "I") (List.mem_of_getElem? (i := 1) rfl)) (fun _ h9 => h9) rfl dX12_go_339 ?_
                              refine lv_iconst (v := nI 1) hx hb dX12_go_342 (by decide) ?_
                              refine lv_iadd hx hb dX12_go_343 ?_
                              refine r_ti (nI (k47 + 1)) (nI_add _ _) ?_
                              refine va_put (D := (dC, dI)) (ci := 12) (v := .int (nI (k47 + 1))) (ty := .int) (C := RX12) (T := TX12) (N := 52) hx hb hts hin12 tyX12 tyX12_ok nmX12 hown hK hP hD hS 0 rfl rfl 5 (by decide) (hts (.fieldLink RX12 21 "PorridgeSeaModel" "to" "I") (List.mem_of_getElem? (i := 1) rfl)) (fun _ h9 => h9) rfl (by decide +kernel) rfl rfl (Nat.le_of_ble_eq_true rfl) dX12_go_344 (fun H locs hP hD hS => ?_)
                              have hP : va_P (dC, dI) vwCl [(o, .inr (12, [.int kthrown, .ref ktape, .int (nI ktaped), .int (nI ksize), .int (nI klimit), .int (nI (k47 + 1)), .int (nI k5), .int kkind, .int y148, .int ksign, .int kfault, .int kplace, .long w141, .int ktold, .ref know, .ref kread, .ref kkept, .ref ksnaps, .ref kaside, .ref kname, .ref kreadName, .ref kkeptName, .ref kisKept, .ref konces, .int (nI ksnapMany), .int khasCells, .ref kpoured, .ref kfar, .ref ksides, .int (nI ksideMany), .int kwayDays, .int khasWay, .ref klines, .ref kmet, .int (nI kmetMany), .ref ksunk, .ref ktrying, .int (nI ksunkMany), .int ksending, .int kfleets, .ref ktext, .int (nI ktexts), .int kseed, .ref kline, .ref kwritten, .int (nI klineMany), .int khasWritten, .ref knode, .int (nI knodes), .int (nI konesMany), .int (nI kwithin), .int (nI ktop)])), (ktape, .inl (ky 0, 940, .inl ktapeF))] H := hP
                              have hD : va_D A [(o, .inr (12, [.int kthrown, .ref ktape, .int (nI ktaped), .int (nI ksize), .int (nI klimit), .int (nI (k47 + 1)), .int (nI k5), .int kkind, .int y148, .int ksign, .int kfault, .int kplace, .long w141, .int ktold, .ref know, .ref kread, .ref kkept, .ref ksnaps, .ref kaside, .ref kname, .ref kreadName, .ref kkeptName, .ref kisKept, .ref konces, .int (nI ksnapMany), .int khasCells, .ref kpoured, .ref kfar, .ref ksides, .int (nI ksideMany), .int kwayDays, .int khasWay, .ref klines, .ref kmet, .int (nI kmetMany), .ref ksunk, .ref ktrying, .int (nI ksunkMany), .int ksending, .int kfleets, .ref ktext, .int (nI ktexts), .int kseed, .ref kline, .ref kwritten, .int (nI klineMany), .int khasWritten, .ref knode, .int (nI knodes), .int (nI konesMany), .int (nI kwithin), .int (nI ktop)])), (ktape, .inl (ky 0, 940, .inl ktapeF))] := hD
                              refine lv_goto (tgt := 215) hx hb dX12_go_347 (by decide) ?_
                              exact ih58 (nI 0) (k47 + 1) y148 w141 (lf_x_goP_65) (lf_x_goP_66 ksize kto ktapeF k5 n10 y18 r24 x46 k47 x48 n57 r60 y68 y144 y146 y148 iv_ko_1 iv_ko_3 j6 j7 j8 hm12 c17 e19 p25 j50 j51 j52 j53 j54 j55 hm59 p61 t64 t65 e69 c70 t93 c139 c143 e145 e147 e149) (lf_x_goP_67 ksize kto ktapeF k5 n10 y18 r24 x46 k47 x48 n57 r60 y68 y144 y146 y148 iv_ko_1 iv_ko_3 j6 j7 j8 hm12 c17 e19 p25 j50 j51 j52 j53 j54 j55 hm59 p61 t64 t65 e69 c70 t93 c139 c143 e145 e147 e149) (lf_x_goP_68 ksize kto ktapeF k5 n10 y18 r24 x46 k47 x48 n57 r60 y68 y144 y146 y148 iv_ko_1 iv_ko_3 j6 j7 j8 hm12 c17 e19 p25 j50 j51 j52 j53 j54 j55 hm59 p61 t64 t65 e69 c70 t93 c139 c143 e145 e147 e149) (lf_x_goP_69 ksize kto ktapeF k5 n10 y18 r24 x46 k47 x48 n57 r60 y68 y144 y146 y148 iv_ko_1 iv_ko_3 j6 j7 j8 hm12 c17 e19 p25 j50 j51 j52 j53 j54 j55 hm59 p61 t64 t65 e69 c70 t93 c139 c143 e145 e147 e149) (lf_x_goP_70 ksize kto ktapeF k5 n10 y18 r24 x46 k47 x48 n57 r60 y68 y144 y146 y148 iv_ko_1 iv_ko_3 j6 j7 j8 hm12 c17 e19 p25 j50 j51 j52 j53 j54 j55 hm59 p61 t64 t65 e69 c70 t93 c139 c143 e145 e147 e149) (lf_x_goP_71 ksize kto ktapeF k5 n10 y18 r24 x46 k47 x48 n57 r60 y68 y144 y146 y148 iv_ko_1 iv_ko_3 j6 j7 j8 hm12 c17 e19 p25 j50 j51 j52 j53 j54 j55 hm59 p61 t64 t65 e69 c70 t93 c139 c143 e145 e147 e149) _ _ _ hP hD hS (lv_sub hl [0, 2, 3] rfl)
                          refine n_icmp_ge (x := (k47 - k5)) (y := 7) (tgt := 307) hx hb (by omega) (by omega) dX12_go_284 (by decide) (fun c140 => ?_) (fun c140 => ?_)
                          · exact hJ142 w49  _ _ _ hP hD hS (lv_sub hl [0, 1, 2, 3] rfl)
                          · refine lv_aload_n hx hb dX12_go_287 rfl (lv_at hl 3 rfl) ?_
                            refine lv_ldc2 (v := 27) hx hb hown (hts _ (List.mem_of_getElem? (i := 10) rfl)) dX12_go_288 ?_
                            refine lv_aload_n hx hb dX12_go_291 rfl (lv_at hl 3 rfl) ?_
                            refine va_get (D := (dC, dI)) (ci := 12) (v := .long w49) (C := RX12) (T := TX12) (N := 52) hx hb hts hin12 hown hK hP 0 rfl rfl 12 (by decide) (hts (.fieldLink RX12 43 "PorridgeSeaModel" "word" "J") (List.mem_of_getElem? (i := 8) rfl)) (fun _ h9 => h9) rfl dX12_go_292 ?_
                            refine lv_lmul hx hb dX12_go_295 ?_
                            refine lv_topl (fun w150 e151 => ?_)
                            refine lv_iload hx hb dX12_go_296 (lv_at hl 1 rfl) ?_
                            obtain ⟨w152, e153⟩ : ∃ z9 : Int64, z9 = (y68).toInt64 := ⟨_, rfl⟩
                            refine lv_i2l (v := w152) hx hb dX12_go_298 e153.symm ?_
                            refine lv_ladd hx hb dX12_go_299 ?_
                            refine lv_topl (fun w154 e155 => ?_)
                            refine lv_ldc2 (v := 96) hx hb hown (hts _ (List.mem_of_getElem? (i := 11) rfl)) dX12_go_300 ?_
                            refine lv_lsub hx hb dX12_go_303 ?_
                            refine lv_topl (fun w156 e157 => ?_)
                            refine va_put (D := (dC, dI)) (ci := 12) (v := .long w156) (ty := .long) (C := RX12) (T := TX12) (N := 52) hx hb hts hin12 tyX12 tyX12_ok nmX12 hown hK hP hD hS 0 rfl rfl 12 (by decide) (hts (.fieldLink RX12 43 "PorridgeSeaModel" "word" "J") (List.mem_of_getElem? (i := 8) rfl)) (fun _ h9 => h9) rfl (by decide +kernel) rfl rfl (Nat.le_of_ble_eq_true rfl) dX12_go_304 (fun H locs hP hD hS => ?_)
                            have hP : va_P (dC, dI) vwCl [(o, .inr (12, [.int kthrown, .ref ktape, .int (nI ktaped), .int (nI ksize), .int (nI klimit), .int (nI k47), .int (nI k5), .int kkind, .int x48, .int ksign, .int kfault, .int kplace, .long w156, .int ktold, .ref know, .ref kread, .ref kkept, .ref ksnaps, .ref kaside, .ref kname, .ref kreadName, .ref kkeptName, .ref kisKept, .ref konces, .int (nI ksnapMany), .int khasCells, .ref kpoured, .ref kfar, .ref ksides, .int (nI ksideMany), .int kwayDays, .int khasWay, .ref klines, .ref kmet, .int (nI kmetMany), .ref ksunk, .ref ktrying, .int (nI ksunkMany), .int ksending, .int kfleets, .ref ktext, .int (nI ktexts), .int kseed, .ref kline, .ref kwritten, .int (nI klineMany), .int khasWritten, .ref knode, .int (nI knodes), .int (nI konesMany), .int (nI kwithin), .int (nI ktop)])), (ktape, .inl (ky 0, 940, .inl ktapeF))] H := hP
                            have hD : va_D A [(o, .inr (12, [.int kthrown, .ref ktape, .int (nI ktaped), .int (nI ksize), .int (nI klimit), .int (nI k47), .int (nI k5), .int kkind, .int x48, .int ksign, .int kfault, .int kplace, .long w156, .int ktold, .ref know, .ref kread, .ref kkept, .ref ksnaps, .ref kaside, .ref kname, .ref kreadName, .ref kkeptName, .ref kisKept, .ref konces, .int (nI ksnapMany), .int khasCells, .ref kpoured, .ref kfar, .ref ksides, .int (nI ksideMany), .int kwayDays, .int khasWay, .ref klines, .ref kmet, .int (nI kmetMany), .ref ksunk, .ref ktrying, .int (nI ksunkMany), .int ksending, .int kfleets, .ref ktext, .int (nI ktexts), .int kseed, .ref kline, .ref kwritten, .int (nI klineMany), .int khasWritten, .ref knode, .int (nI knodes), .int (nI konesMany), .int (nI kwithin), .int (nI ktop)])), (ktape, .inl (ky 0, 940, .inl ktapeF))] := hD
                            exact hJ142 w156  _ _ _ hP hD hS (lv_sub hl [0, 1, 2, 3] rfl)
                        · refine lv_iconst (v := nI 1) hx hb dX12_go_267 (by decide) ?_
                          refine lv_goto (tgt := 272) hx hb dX12_go_268 (by decide) ?_
                          refine lv_istore_n (lv' := [(3, .int (nI 1)), (4, .int y68), (2, .int r24), (0, .ref o)]) hx hb dX12_go_272 rfl hl (by decide) rfl (fun ls hl => ?_)
                          refine lv_aload_n hx hb dX12_go_273 rfl (lv_at hl 3 rfl) ?_
                          refine va_get (D := (dC, dI)) (ci := 12) (v := .int (nI k47)) (C := RX12) (T := TX12) (N := 52) hx hb hts hin12 hown hK hP 0 rfl rfl 5 (by decide) (hts (.fieldLink RX12 21 "PorridgeSeaModel" "to" "I") (List.mem_of_getElem? (i := 1) rfl)) (fun _ h9 => h9) rfl dX12_go_274 ?_
                          refine lv_aload_n hx hb dX12_go_277 rfl (lv_at hl 3 rfl) ?_
                          refine va_get (D := (dC, dI)) (ci := 12) (v := .int (nI k5)) (C := RX12) (T := TX12) (N := 52) hx hb hts hin12 hown hK hP 0 rfl rfl 6 (by decide) (hts (.fieldLink RX12 24 "PorridgeSeaModel" "from" "I") (List.mem_of_getElem? (i := 4) rfl)) (fun _ h9 => h9) rfl dX12_go_278 ?_
                          refine lv_isub hx hb dX12_go_281 ?_
                          refine r_ti (nI (k47 - k5)) (pk_sub (lf_x_goP_72 ksize kto ktapeF k5 n10 y18 r24 x46 k47 x48 n57 r60 y68 iv_ko_1 iv_ko_3 j6 j7 j8 hm12 c17 e19 p25 j50 j51 j52 j53 j54 j55 hm59 p61 t64 t65 e69 c70 t93 c139)) ?_
                          refine lv_bipush (v := nI 7) hx hb dX12_go_282 (by decide) ?_
                          have hJ160 : ∀ (w159 : Int64), ∀ (H : Heap) (locs : List Loc) (ls : Array Slot), va_P (dC, dI) vwCl [(o, .inr (12, [.int kthrown, .ref ktape, .int (nI ktaped), .int (nI ksize), .int (nI klimit), .int (nI k47), .int (nI k5), .int kkind, .int x48, .int ksign, .int kfault, .int kplace, .long w159, .int ktold, .ref know, .ref kread, .ref kkept, .ref ksnaps, .ref kaside, .ref kname, .ref kreadName, .ref kkeptName, .ref kisKept, .ref konces, .int (nI ksnapMany), .int khasCells, .ref kpoured, .ref kfar, .ref ksides, .int (nI ksideMany), .int kwayDays, .int khasWay, .ref klines, .ref kmet, .int (nI kmetMany), .ref ksunk, .ref ktrying, .int (nI ksunkMany), .int ksending, .int kfleets, .ref ktext, .int (nI ktexts), .int kseed, .ref kline, .ref kwritten, .int (nI klineMany), .int khasWritten, .ref knode, .int (nI knodes), .int (nI konesMany), .int (nI kwithin), .int (nI ktop)])), (ktape, .inl (ky 0, 940, .inl ktapeF))] H → va_D A [(o, .inr (12, [.int kthrown, .ref ktape, .int (nI ktaped), .int (nI ksize), .int (nI klimit), .int (nI k47), .int (nI k5), .int kkind, .int x48, .int ksign, .int kfault, .int kplace, .long w159, .int ktold, .ref know, .ref kread, .ref kkept, .ref ksnaps, .ref kaside, .ref kname, .ref kreadName, .ref kkeptName, .ref kisKept, .ref konces, .int (nI ksnapMany), .int khasCells, .ref kpoured, .ref kfar, .ref ksides, .int (nI ksideMany), .int kwayDays, .int khasWay, .ref klines, .ref kmet, .int (nI kmetMany), .ref ksunk, .ref ktrying, .int (nI ksunkMany), .int ksending, .int kfleets, .ref ktext, .int (nI ktexts), .int kseed, .ref kline, .ref kwritten, .int (nI klineMany), .int khasWritten, .ref knode, .int (nI knodes), .int (nI konesMany), .int (nI kwithin), .int (nI ktop)])), (ktape, .inl (ky 0, 940, .inl ktapeF))] → va_S A s.heap H locs → lv_has ls 5 [(3, .int (nI 1)), (4, .int y68), (2, .int r24), (0, .ref o)] → W p l e (headSpec wsX12_go ({ frames := 1, cells := 0, slots := 0, locals := 21 })).room s m args below meth c H locs 0 0 Q (F0 m 307 ls []) := by
                            intro w159 H locs ls hP hD hS hl
                            refine lv_aload_n hx hb dX12_go_307 rfl (lv_at hl 3 rfl) ?_
                            refine va_get (D := (dC, dI)) (ci := 12) (v := .int (nI k47)) (C := RX12) (T := TX12) (N := 52) hx hb hts hin12 hown hK hP 0 rfl rfl 5 (by decide) (hts (.fieldLink RX12 21 "PorridgeSeaModel" "to" "I") (List.mem_of_getElem? (i := 1) rfl)) (fun _ h9 => h9) rfl dX12_go_308 ?_
                            refine lv_aload_n hx hb dX12_go_311 rfl (lv_at hl 3 rfl) ?_
                            refine va_get (D := (dC, dI)) (ci := 12) (v := .int (nI k5)) (C := RX12) (T := TX12) (N := 52) hx hb hts hin12 hown hK hP 0 rfl rfl 6 (by decide) (hts (.fieldLink RX12 24 "PorridgeSeaModel" "from" "I") (List.mem_of_getElem? (i := 4) rfl)) (fun _ h9 => h9) rfl dX12_go_312 ?_
                            refine lv_isub hx hb dX12_go_315 ?_
                            refine r_ti (nI (k47 - k5)) (pk_sub (lf_x_goP_73 ksize kto ktapeF k5 n10 y18 r24 x46 k47 x48 n57 r60 y68 iv_ko_1 iv_ko_3 j6 j7 j8 hm12 c17 e19 p25 j50 j51 j52 j53 j54 j55 hm59 p61 t64 t65 e69 c70 t93 c139)) ?_
                            refine lv_iconst (v := nI 3) hx hb dX12_go_316 (by decide) ?_
                            refine n_icmp_ge (x := (k47 - k5)) (y := 3) (tgt := 337) hx hb (by omega) (by omega) dX12_go_317 (by decide) (fun c161 => ?_) (fun c161 => ?_)
                            · refine lv_aload_n hx hb dX12_go_337 rfl (lv_at hl 3 rfl) ?_
                              refine lv_dup hx hb dX12_go_338 rfl ?_
                              refine va_get (D := (dC, dI)) (ci := 12) (v := .int (nI k47)) (C := RX12) (T := TX12) (N := 52) hx hb hts hin12 hown hK hP 0 rfl rfl 5 (by decide) (hts (.fieldLink RX12 21 "PorridgeSeaModel" "to" "I") (List.mem_of_getElem? (i := 1) rfl)) (fun _ h9 => h9) rfl dX12_go_339 ?_
                              refine lv_iconst (v := nI 1) hx hb dX12_go_342 (by decide) ?_
                              refine lv_iadd hx hb dX12_go_343 ?_
                              refine r_ti (nI (k47 + 1)) (nI_add _ _) ?_
                              refine va_put (D := (dC, dI)) (ci := 12) (v := .int (nI (k47 + 1))) (ty := .int) (C := RX12) (T := TX12) (N := 52) hx hb hts hin12 tyX12 tyX12_ok nmX12 hown hK hP hD hS 0 rfl rfl 5 (by decide) (hts (.fieldLink RX12 21 "PorridgeSeaModel" "to" "I") (List.mem_of_getElem? (i := 1) rfl)) (fun _ h9 => h9) rfl (by decide +kernel) rfl rfl (Nat.le_of_ble_eq_true rfl) dX12_go_344 (fun H locs hP hD hS => ?_)
                              have hP : va_P (dC, dI) vwCl [(o, .inr (12, [.int kthrown, .ref ktape, .int (nI ktaped), .int (nI ksize), .int (nI klimit), .int (nI (k47 + 1)), .int (nI k5), .int kkind, .int x48, .int ksign, .int kfault, .int kplace, .long w159, .int ktold, .ref know, .ref kread, .ref kkept, .ref ksnaps, .ref kaside, .ref kname, .ref kreadName, .ref kkeptName, .ref kisKept, .ref konces, .int (nI ksnapMany), .int khasCells, .ref kpoured, .ref kfar, .ref ksides, .int (nI ksideMany), .int kwayDays, .int khasWay, .ref klines, .ref kmet, .int (nI kmetMany), .ref ksunk, .ref ktrying, .int (nI ksunkMany), .int ksending, .int kfleets, .ref ktext, .int (nI ktexts), .int kseed, .ref kline, .ref kwritten, .int (nI klineMany), .int khasWritten, .ref knode, .int (nI knodes), .int (nI konesMany), .int (nI kwithin), .int (nI ktop)])), (ktape, .inl (ky 0, 940, .inl ktapeF))] H := hP
                              have hD : va_D A [(o, .inr (12, [.int kthrown, .ref ktape, .int (nI ktaped), .int (nI ksize), .int (nI klimit), .int (nI (k47 + 1)), .int (nI k5), .int kkind, .int x48, .int ksign, .int kfault, .int kplace, .long w159, .int ktold, .ref know, .ref kread, .ref kkept, .ref ksnaps, .ref kaside, .ref kname, .ref kreadName, .ref kkeptName, .ref kisKept, .ref konces, .int (nI ksnapMany), .int khasCells, .ref kpoured, .ref kfar, .ref ksides, .int (nI ksideMany), .int kwayDays, .int khasWay, .ref klines, .ref kmet, .int (nI kmetMany), .ref ksunk, .ref ktrying, .int (nI ksunkMany), .int ksending, .int kfleets, .ref ktext, .int (nI ktexts), .int kseed, .ref kline, .ref kwritten, .int (nI klineMany), .int khasWritten, .ref knode, .int (nI knodes), .int (nI konesMany), .int (nI kwithin), .int (nI ktop)])), (ktape, .inl (ky 0, 940, .inl ktapeF))] := hD
                              refine lv_goto (tgt := 215) hx hb dX12_go_347 (by decide) ?_
                              exact ih58 (nI 1) (k47 + 1) x48 w159 (lf_x_goP_74) (lf_x_goP_75 ksize kto ktapeF k5 n10 y18 r24 x46 k47 x48 n57 r60 y68 iv_ko_1 iv_ko_3 j6 j7 j8 hm12 c17 e19 p25 j50 j51 j52 j53 j54 j55 hm59 p61 t64 t65 e69 c70 t93 c139 c161) (lf_x_goP_76 ksize kto ktapeF k5 n10 y18 r24 x46 k47 x48 n57 r60 y68 iv_ko_1 iv_ko_3 j6 j7 j8 hm12 c17 e19 p25 j50 j51 j52 j53 j54 j55 hm59 p61 t64 t65 e69 c70 t93 c139 c161) (lf_x_goP_77 ksize kto ktapeF k5 n10 y18 r24 x46 k47 x48 n57 r60 y68 iv_ko_1 iv_ko_3 j6 j7 j8 hm12 c17 e19 p25 j50 j51 j52 j53 j54 j55 hm59 p61 t64 t65 e69 c70 t93 c139 c161) (lf_x_goP_78 ksize kto ktapeF k5 n10 y18 r24 x46 k47 x48 n57 r60 y68 iv_ko_1 iv_ko_3 j6 j7 j8 hm12 c17 e19 p25 j50 j51 j52 j53 j54 j55 hm59 p61 t64 t65 e69 c70 t93 c139 c161) (lf_x_goP_79 ksize kto ktapeF k5 n10 y18 r24 x46 k47 x48 n57 r60 y68 iv_ko_1 iv_ko_3 j6 j7 j8 hm12 c17 e19 p25 j50 j51 j52 j53 j54 j55 hm59 p61 t64 t65 e69 c70 t93 c139 c161) (lf_x_goP_80 ksize kto ktapeF k5 n10 y18 r24 x46 k47 x48 n57 r60 y68 iv_ko_1 iv_ko_3 j6 j7 j8 hm12 c17 e19 p25 j50 j51 j52 j53 j54 j55 hm59 p61 t64 t65 e69 c70 t93 c139 c161) _ _ _ hP hD hS (lv_sub hl [0, 2, 3] rfl)
                            · refine lv_aload_n hx hb dX12_go_320 rfl (lv_at hl 3 rfl) ?_
                              refine lv_bipush (v := nI 10) hx hb dX12_go_321 (by decide) ?_
                              refine lv_aload_n hx hb dX12_go_323 rfl (lv_at hl 3 rfl) ?_
                              refine va_get (D := (dC, dI)) (ci := 12) (v := .int x48) (C := RX12) (T := TX12) (N := 52) hx hb hts hin12 hown hK hP 0 rfl rfl 8 (by decide) (hts (.fieldLink RX12 47 "PorridgeSeaModel" "number" "I") (List.mem_of_getElem? (i := 9) rfl)) (fun _ h9 => h9) rfl dX12_go_324 ?_
                              refine lv_imul hx hb dX12_go_327 ?_
                              refine lv_topi (fun y162 e163 => ?_)
                              refine lv_iload hx hb dX12_go_328 (lv_at hl 1 rfl) ?_
                              refine lv_iadd hx hb dX12_go_330 ?_
                              refine lv_topi (fun y164 e165 => ?_)
                              refine lv_bipush (v := nI 48) hx hb dX12_go_331 (by decide) ?_
                              refine lv_isub hx hb dX12_go_333 ?_
                              refine lv_topi (fun y166 e167 => ?_)
                              refine va_put (D := (dC, dI)) (ci := 12) (v := .int y166) (ty := .int) (C := RX12) (T := TX12) (N := 52) hx hb hts hin12 tyX12 tyX12_ok nmX12 hown hK hP hD hS 0 rfl rfl 8 (by decide) (hts (.fieldLink RX12 47 "PorridgeSeaModel" "number" "I") (List.mem_of_getElem? (i := 9) rfl)) (fun _ h9 => h9) rfl (by decide +kernel) rfl rfl (Nat.le_of_ble_eq_true rfl) dX12_go_334 (fun H locs hP hD hS => ?_)
                              have hP : va_P (dC, dI) vwCl [(o, .inr (12, [.int kthrown, .ref ktape, .int (nI ktaped), .int (nI ksize), .int (nI klimit), .int (nI k47), .int (nI k5), .int kkind, .int y166, .int ksign, .int kfault, .int kplace, .long w159, .int ktold, .ref know, .ref kread, .ref kkept, .ref ksnaps, .ref kaside, .ref kname, .ref kreadName, .ref kkeptName, .ref kisKept, .ref konces, .int (nI ksnapMany), .int khasCells, .ref kpoured, .ref kfar, .ref ksides, .int (nI ksideMany), .int kwayDays, .int khasWay, .ref klines, .ref kmet, .int (nI kmetMany), .ref ksunk, .ref ktrying, .int (nI ksunkMany), .int ksending, .int kfleets, .ref ktext, .int (nI ktexts), .int kseed, .ref kline, .ref kwritten, .int (nI klineMany), .int khasWritten, .ref knode, .int (nI knodes), .int (nI konesMany), .int (nI kwithin), .int (nI ktop)])), (ktape, .inl (ky 0, 940, .inl ktapeF))] H := hP
                              have hD : va_D A [(o, .inr (12, [.int kthrown, .ref ktape, .int (nI ktaped), .int (nI ksize), .int (nI klimit), .int (nI k47), .int (nI k5), .int kkind, .int y166, .int ksign, .int kfault, .int kplace, .long w159, .int ktold, .ref know, .ref kread, .ref kkept, .ref ksnaps, .ref kaside, .ref kname, .ref kreadName, .ref kkeptName, .ref kisKept, .ref konces, .int (nI ksnapMany), .int khasCells, .ref kpoured, .ref kfar, .ref ksides, .int (nI ksideMany), .int kwayDays, .int khasWay, .ref klines, .ref kmet, .int (nI kmetMany), .ref ksunk, .ref ktrying, .int (nI ksunkMany), .int ksending, .int kfleets, .ref ktext, .int (nI ktexts), .int kseed, .ref kline, .ref kwritten, .int (nI klineMany), .int khasWritten, .ref knode, .int (nI knodes), .int (nI konesMany), .int (nI kwithin), .int (nI ktop)])), (ktape, .inl (ky 0, 940, .inl ktapeF))] := hD
                              refine lv_aload_n hx hb dX12_go_337 rfl (lv_at hl 3 rfl) ?_
                              refine lv_dup hx hb dX12_go_338 rfl ?_
                              refine va_get (D := (dC, dI)) (ci := 12) (v := .int (nI k47)) (C := RX12) (T := TX12) (N := 52) hx hb hts hin12 hown hK hP 0 rfl rfl 5 (by decide) (hts (.fieldLink RX12 21 "PorridgeSeaModel" "to" "I") (List.mem_of_getElem? (i := 1) rfl)) (fun _ h9 => h9) rfl dX12_go_339 ?_
                              refine lv_iconst (v := nI 1) hx hb dX12_go_342 (by decide) ?_
                              refine lv_iadd hx hb dX12_go_343 ?_
                              refine r_ti (nI (k47 + 1)) (nI_add _ _) ?_
                              refine va_put (D := (dC, dI)) (ci := 12) (v := .int (nI (k47 + 1))) (ty := .int) (C := RX12) (T := TX12) (N := 52) hx hb hts hin12 tyX12 tyX12_ok nmX12 hown hK hP hD hS 0 rfl rfl 5 (by decide) (hts (.fieldLink RX12 21 "PorridgeSeaModel" "to" "I") (List.mem_of_getElem? (i := 1) rfl)) (fun _ h9 => h9) rfl (by decide +kernel) rfl rfl (Nat.le_of_ble_eq_true rfl) dX12_go_344 (fun H locs hP hD hS => ?_)
                              have hP : va_P (dC, dI) vwCl [(o, .inr (12, [.int kthrown, .ref ktape, .int (nI ktaped), .int (nI ksize), .int (nI klimit), .int (nI (k47 + 1)), .int (nI k5), .int kkind, .int y166, .int ksign, .int kfault, .int kplace, .long w159, .int ktold, .ref know, .ref kread, .ref kkept, .ref ksnaps, .ref kaside, .ref kname, .ref kreadName, .ref kkeptName, .ref kisKept, .ref konces, .int (nI ksnapMany), .int khasCells, .ref kpoured, .ref kfar, .ref ksides, .int (nI ksideMany), .int kwayDays, .int khasWay, .ref klines, .ref kmet, .int (nI kmetMany), .ref ksunk, .ref ktrying, .int (nI ksunkMany), .int ksending, .int kfleets, .ref ktext, .int (nI ktexts), .int kseed, .ref kline, .ref kwritten, .int (nI klineMany), .int khasWritten, .ref knode, .int (nI knodes), .int (nI konesMany), .int (nI kwithin), .int (nI ktop)])), (ktape, .inl (ky 0, 940, .inl ktapeF))] H := hP
                              have hD : va_D A [(o, .inr (12, [.int kthrown, .ref ktape, .int (nI ktaped), .int (nI ksize), .int (nI klimit), .int (nI (k47 + 1)), .int (nI k5), .int kkind, .int y166, .int ksign, .int kfault, .int kplace, .long w159, .int ktold, .ref know, .ref kread, .ref kkept, .ref ksnaps, .ref kaside, .ref kname, .ref kreadName, .ref kkeptName, .ref kisKept, .ref konces, .int (nI ksnapMany), .int khasCells, .ref kpoured, .ref kfar, .ref ksides, .int (nI ksideMany), .int kwayDays, .int khasWay, .ref klines, .ref kmet, .int (nI kmetMany), .ref ksunk, .ref ktrying, .int (nI ksunkMany), .int ksending, .int kfleets, .ref ktext, .int (nI ktexts), .int kseed, .ref kline, .ref kwritten, .int (nI klineMany), .int khasWritten, .ref knode, .int (nI knodes), .int (nI konesMany), .int (nI kwithin), .int (nI ktop)])), (ktape, .inl (ky 0, 940, .inl ktapeF))] := hD
                              refine lv_goto (tgt := 215) hx hb dX12_go_347 (by decide) ?_
                              exact ih58 (nI 1) (k47 + 1) y166 w159 (lf_x_goP_81) (lf_x_goP_82 ksize kto ktapeF k5 n10 y18 r24 x46 k47 x48 n57 r60 y68 y162 y164 y166 iv_ko_1 iv_ko_3 j6 j7 j8 hm12 c17 e19 p25 j50 j51 j52 j53 j54 j55 hm59 p61 t64 t65 e69 c70 t93 c139 c161 e163 e165 e167) (lf_x_goP_83 ksize kto ktapeF k5 n10 y18 r24 x46 k47 x48 n57 r60 y68 y162 y164 y166 iv_ko_1 iv_ko_3 j6 j7 j8 hm12 c17 e19 p25 j50 j51 j52 j53 j54 j55 hm59 p61 t64 t65 e69 c70 t93 c139 c161 e163 e165 e167) (lf_x_goP_84 ksize kto ktapeF k5 n10 y18 r24 x46 k47 x48 n57 r60 y68 y162 y164 y166 iv_ko_1 iv_ko_3 j6 j7 j8 hm12 c17 e19 p25 j50 j51 j52 j53 j54 j55 hm59 p61 t64 t65 e69 c70 t93 c139 c161 e163 e165 e167) (lf_x_goP_85 ksize kto ktapeF k5 n10 y18 r24 x46 k47 x48 n57 r60 y68 y162 y164 y166 iv_ko_1 iv_ko_3 j6 j7 j8 hm12 c17 e19 p25 j50 j51 j52 j53 j54 j55 hm59 p61 t64 t65 e69 c70 t93 c139 c161 e163 e165 e167) (lf_x_goP_86 ksize kto ktapeF k5 n10 y18 r24 x46 k47 x48 n57 r60 y68 y162 y164 y166 iv_ko_1 iv_ko_3 j6 j7 j8 hm12 c17 e19 p25 j50 j51 j52 j53 j54 j55 hm59 p61 t64 t65 e69 c70 t93 c139 c161 e163 e165 e167) (lf_x_goP_87 ksize kto ktapeF k5 n10 y18 r24 x46 k47 x48 n57 r60 y68 y162 y164 y166 iv_ko_1 iv_ko_3 j6 j7 j8 hm12 c17 e19 p25 j50 j51 j52 j53 j54 j55 hm59 p61 t64 t65 e69 c70 t93 c139 c161 e163 e165 e167) _ _ _ hP hD hS (lv_sub hl [0, 2, 3] rfl)
                          refine n_icmp_ge (x := (k47 - k5)) (y := 7) (tgt := 307) hx hb (by omega) (by omega) dX12_go_284 (by decide) (fun c158 => ?_) (fun c158 => ?_)
                          · exact hJ160 w49  _ _ _ hP hD hS (lv_sub hl [0, 1, 2, 3] rfl)
                          · refine lv_aload_n hx hb dX12_go_287 rfl (lv_at hl 3 rfl) ?_
                            refine lv_ldc2 (v := 27) hx hb hown (hts _ (List.mem_of_getElem? (i := 10) rfl)) dX12_go_288 ?_
                            refine lv_aload_n hx hb dX12_go_291 rfl (lv_at hl 3 rfl) ?_
                            refine va_get (D := (dC, dI)) (ci := 12) (v := .long w49) (C := RX12) (T := TX12) (N := 52) hx hb hts hin12 hown hK hP 0 rfl rfl 12 (by decide) (hts (.fieldLink RX12 43 "PorridgeSeaModel" "word" "J") (List.mem_of_getElem? (i := 8) rfl)) (fun _ h9 => h9) rfl dX12_go_292 ?_
                            refine lv_lmul hx hb dX12_go_295 ?_
                            refine lv_topl (fun w168 e169 => ?_)
                            refine lv_iload hx hb dX12_go_296 (lv_at hl 1 rfl) ?_
                            obtain ⟨w170, e171⟩ : ∃ z9 : Int64, z9 = (y68).toInt64 := ⟨_, rfl⟩
                            refine lv_i2l (v := w170) hx hb dX12_go_298 e171.symm ?_
                            refine lv_ladd hx hb dX12_go_299 ?_
                            refine lv_topl (fun w172 e173 => ?_)
                            refine lv_ldc2 (v := 96) hx hb hown (hts _ (List.mem_of_getElem? (i := 11) rfl)) dX12_go_300 ?_
                            refine lv_lsub hx hb dX12_go_303 ?_
                            refine lv_topl (fun w174 e175 => ?_)
                            refine va_put (D := (dC, dI)) (ci := 12) (v := .long w174) (ty := .long) (C := RX12) (T := TX12) (N := 52) hx hb hts hin12 tyX12 tyX12_ok nmX12 hown hK hP hD hS 0 rfl rfl 12 (by decide) (hts (.fieldLink RX12 43 "PorridgeSeaModel" "word" "J") (List.mem_of_getElem? (i := 8) rfl)) (fun _ h9 => h9) rfl (by decide +kernel) rfl rfl (Nat.le_of_ble_eq_true rfl) dX12_go_304 (fun H locs hP hD hS => ?_)
                            have hP : va_P (dC, dI) vwCl [(o, .inr (12, [.int kthrown, .ref ktape, .int (nI ktaped), .int (nI ksize), .int (nI klimit), .int (nI k47), .int (nI k5), .int kkind, .int x48, .int ksign, .int kfault, .int kplace, .long w174, .int ktold, .ref know, .ref kread, .ref kkept, .ref ksnaps, .ref kaside, .ref kname, .ref kreadName, .ref kkeptName, .ref kisKept, .ref konces, .int (nI ksnapMany), .int khasCells, .ref kpoured, .ref kfar, .ref ksides, .int (nI ksideMany), .int kwayDays, .int khasWay, .ref klines, .ref kmet, .int (nI kmetMany), .ref ksunk, .ref ktrying, .int (nI ksunkMany), .int ksending, .int kfleets, .ref ktext, .int (nI ktexts), .int kseed, .ref kline, .ref kwritten, .int (nI klineMany), .int khasWritten, .ref knode, .int (nI knodes), .int (nI konesMany), .int (nI kwithin), .int (nI ktop)])), (ktape, .inl (ky 0, 940, .inl ktapeF))] H := hP
                            have hD : va_D A [(o, .inr (12, [.int kthrown, .ref ktape, .int (nI ktaped), .int (nI ksize), .int (nI klimit), .int (nI k47), .int (nI k5), .int kkind, .int x48, .int ksign, .int kfault, .int kplace, .long w174, .int ktold, .ref know, .ref kread, .ref kkept, .ref ksnaps, .ref kaside, .ref kname, .ref kreadName, .ref kkeptName, .ref kisKept, .ref konces, .int (nI ksnapMany), .int khasCells, .ref kpoured, .ref kfar, .ref ksides, .int (nI ksideMany), .int kwayDays, .int khasWay, .ref klines, .ref kmet, .int (nI kmetMany), .ref ksunk, .ref ktrying, .int (nI ksunkMany), .int ksending, .int kfleets, .ref ktext, .int (nI ktexts), .int kseed, .ref kline, .ref kwritten, .int (nI klineMany), .int khasWritten, .ref knode, .int (nI knodes), .int (nI konesMany), .int (nI kwithin), .int (nI ktop)])), (ktape, .inl (ky 0, 940, .inl ktapeF))] := hD
                            exact hJ160 w174  _ _ _ hP hD hS (lv_sub hl [0, 1, 2, 3] rfl)
                  · refine lv_if_ne (tgt := 243) hx hb dX12_go_226 (by decide) (fun c176 => absurd c176 (by decide)) (fun c176 => ?_)
                    refine lv_aload_n hx hb dX12_go_229 rfl (lv_at hl 2 rfl) ?_
                    refine lv_aload_n hx hb dX12_go_230 rfl (lv_at hl 2 rfl) ?_
                    refine va_get (D := (dC, dI)) (ci := 12) (v := .int (nI k47)) (C := RX12) (T := TX12) (N := 52) hx hb hts hin12 hown hK hP 0 rfl rfl 5 (by decide) (hts (.fieldLink RX12 21 "PorridgeSeaModel" "to" "I") (List.mem_of_getElem? (i := 1) rfl)) (fun _ h9 => h9) rfl dX12_go_231 ?_
                    refine vp_callSi (W.runV (As := [.int (nI k47)]) (rest := []) ⟨hx, hb, hml, hown, hts⟩ (c_x_tapeAtE l dC dI ky o kthrown ktape ktaped ksize klimit k47 k5 kkind x48 ksign kfault kplace w49 ktold know kread kkept ksnaps kaside kname kreadName kkeptName kisKept konces ksnapMany khasCells kpoured kfar ksides ksideMany kwayDays khasWay klines kmet kmetMany ksunk ktrying ksunkMany ksending kfleets ktext ktexts kseed kline kwritten klineMany khasWritten knode knodes konesMany kwithin ktop ktapeF k47 iv_ko_0 iv_ko_1 iv_ko_2 j52 j6 iv_ko_5 iv_ko_6 iv_ko_7 iv_ko_8 iv_ko_9 iv_ko_10 iv_ko_11 iv_ko_12 iv_ko_13 iv_ko_14 (lf_x_goP_88 ksize kto ktapeF k5 n10 y18 r24 x46 k47 x48 n57 r60 iv_ko_1 iv_ko_3 j6 j7 j8 hm12 c17 e19 p25 j50 j51 j52 j53 j54 j55 hm59 p61 t66)) (cwV 1 hts gX12_go_X12_tapeAt rfl rfl rfl (by decide +kernel) ⟨(Nat.le_of_ble_eq_true rfl), (Nat.le_of_ble_eq_true rfl)⟩) (pre_PV hK hP [0, 1] rfl (ci := 12) (q0 := 0) rfl rfl) rfl rfl hl.1 rfl (lv_room (Nat.le_of_ble_eq_true rfl)) dX12_go_234 ⟨(Nat.le_of_ble_eq_true rfl), (Nat.le_of_ble_eq_true rfl)⟩) (fun r177 p178 => ?_)
                    refine vp_callSi (W.runS (As := [.int r177]) (rest := []) ⟨hx, hb, hml, hown, hts⟩ (c_x_isDigitE l dC dI ky r177) (va_cwS 1 hts gX12_go_X12_isDigit rfl rfl rfl (by decide +kernel) ⟨(Nat.le_of_ble_eq_true rfl), (Nat.le_of_ble_eq_true rfl)⟩) (pre_PS hK hP [] rfl) rfl rfl hl.1 rfl (lv_room (Nat.le_of_ble_eq_true rfl)) dX12_go_237 ⟨(Nat.le_of_ble_eq_true rfl), (Nat.le_of_ble_eq_true rfl)⟩) (fun r179 p180 => ?_)
                    rcases p180 with ⟨rfl, t181, t182⟩ | ⟨rfl, t183⟩
                    · refine lv_if_eq (tgt := 350) hx hb dX12_go_240 (by decide) (fun c184 => absurd c184 (by decide)) (fun c184 => ?_)
                      refine lv_aload_n hx hb dX12_go_243 rfl (lv_at hl 2 rfl) ?_
                      refine va_get (D := (dC, dI)) (ci := 12) (v := .ref ktape) (C := RX12) (T := TX12) (N := 52) hx hb hts hin12 hown hK hP 0 rfl rfl 1 (by decide) (hts (.fieldLink RX12 7 "PorridgeSeaModel" "tape" "[I") (List.mem_of_getElem? (i := 3) rfl)) (fun _ h9 => h9) rfl dX12_go_244 ?_
                      refine lv_aload_n hx hb dX12_go_247 rfl (lv_at hl 2 rfl) ?_
                      refine va_get (D := (dC, dI)) (ci := 12) (v := .int (nI k47)) (C := RX12) (T := TX12) (N := 52) hx hb hts hin12 hown hK hP 0 rfl rfl 5 (by decide) (hts (.fieldLink RX12 21 "PorridgeSeaModel" "to" "I") (List.mem_of_getElem? (i := 1) rfl)) (fun _ h9 => h9) rfl dX12_go_248 ?_
                      obtain ⟨y185, e186⟩ : ∃ z9, z9 = ktapeF k47 := ⟨_, rfl⟩
                      refine r_iald hx hb hK hP 1 rfl k47 (lf_x_goP_89 ksize kto ktapeF k5 n10 y18 r24 x46 k47 x48 n57 r60 r177 y185 iv_ko_1 iv_ko_3 j6 j7 j8 hm12 c17 e19 p25 j50 j51 j52 j53 j54 j55 hm59 p61 t66 p178 t181 t182 e186) (by decide) y185 e186.symm dX12_go_251 ?_
                      refine lv_istore (lv' := [(4, .int y185), (3, .int x46), (2, .int r24), (0, .ref o)]) hx hb dX12_go_252 hl (by decide) rfl (fun ls hl => ?_)
                      refine lv_iload_n hx hb dX12_go_254 rfl (lv_at hl 1 rfl) ?_
                      refine lv_if_eq (tgt := 271) hx hb dX12_go_255 (by decide) (fun c187 => ?_) (fun c187 => ?_)
                      · refine lv_iconst (v := nI 0) hx hb dX12_go_271 (by decide) ?_
                        refine lv_istore_n (lv' := [(3, .int (nI 0)), (4, .int y185), (2, .int r24), (0, .ref o)]) hx hb dX12_go_272 rfl hl (by decide) rfl (fun ls hl => ?_)
                        refine lv_aload_n hx hb dX12_go_273 rfl (lv_at hl 3 rfl) ?_
                        refine va_get (D := (dC, dI)) (ci := 12) (v := .int (nI k47)) (C := RX12) (T := TX12) (N := 52) hx hb hts hin12 hown hK hP 0 rfl rfl 5 (by decide) (hts (.fieldLink RX12 21 "PorridgeSeaModel" "to" "I") (List.mem_of_getElem? (i := 1) rfl)) (fun _ h9 => h9) rfl dX12_go_274 ?_
                        refine lv_aload_n hx hb dX12_go_277 rfl (lv_at hl 3 rfl) ?_
                        refine va_get (D := (dC, dI)) (ci := 12) (v := .int (nI k5)) (C := RX12) (T := TX12) (N := 52) hx hb hts hin12 hown hK hP 0 rfl rfl 6 (by decide) (hts (.fieldLink RX12 24 "PorridgeSeaModel" "from" "I") (List.mem_of_getElem? (i := 4) rfl)) (fun _ h9 => h9) rfl dX12_go_278 ?_
                        refine lv_isub hx hb dX12_go_281 ?_
                        refine r_ti (nI (k47 - k5)) (pk_sub (lf_x_goP_90 ksize kto ktapeF k5 n10 y18 r24 x46 k47 x48 n57 r60 r177 y185 iv_ko_1 iv_ko_3 j6 j7 j8 hm12 c17 e19 p25 j50 j51 j52 j53 j54 j55 hm59 p61 t66 p178 t181 t182 e186 c187)) ?_
                        refine lv_bipush (v := nI 7) hx hb dX12_go_282 (by decide) ?_
                        have hJ190 : ∀ (w189 : Int64), ∀ (H : Heap) (locs : List Loc) (ls : Array Slot), va_P (dC, dI) vwCl [(o, .inr (12, [.int kthrown, .ref ktape, .int (nI ktaped), .int (nI ksize), .int (nI klimit), .int (nI k47), .int (nI k5), .int kkind, .int x48, .int ksign, .int kfault, .int kplace, .long w189, .int ktold, .ref know, .ref kread, .ref kkept, .ref ksnaps, .ref kaside, .ref kname, .ref kreadName, .ref kkeptName, .ref kisKept, .ref konces, .int (nI ksnapMany), .int khasCells, .ref kpoured, .ref kfar, .ref ksides, .int (nI ksideMany), .int kwayDays, .int khasWay, .ref klines, .ref kmet, .int (nI kmetMany), .ref ksunk, .ref ktrying, .int (nI ksunkMany), .int ksending, .int kfleets, .ref ktext, .int (nI ktexts), .int kseed, .ref kline, .ref kwritten, .int (nI klineMany), .int khasWritten, .ref knode, .int (nI knodes), .int (nI konesMany), .int (nI kwithin), .int (nI ktop)])), (ktape, .inl (ky 0, 940, .inl ktapeF))] H → va_D A [(o, .inr (12, [.int kthrown, .ref ktape, .int (nI ktaped), .int (nI ksize), .int (nI klimit), .int (nI k47), .int (nI k5), .int kkind, .int x48, .int ksign, .int kfault, .int kplace, .long w189, .int ktold, .ref know, .ref kread, .ref kkept, .ref ksnaps, .ref kaside, .ref kname, .ref kreadName, .ref kkeptName, .ref kisKept, .ref konces, .int (nI ksnapMany), .int khasCells, .ref kpoured, .ref kfar, .ref ksides, .int (nI ksideMany), .int kwayDays, .int khasWay, .ref klines, .ref kmet, .int (nI kmetMany), .ref ksunk, .ref ktrying, .int (nI ksunkMany), .int ksending, .int kfleets, .ref ktext, .int (nI ktexts), .int kseed, .ref kline, .ref kwritten, .int (nI klineMany), .int khasWritten, .ref knode, .int (nI knodes), .int (nI konesMany), .int (nI kwithin), .int (nI ktop)])), (ktape, .inl (ky 0, 940, .inl ktapeF))] → va_S A s.heap H locs → lv_has ls 5 [(3, .int (nI 0)), (4, .int y185), (2, .int r24), (0, .ref o)] → W p l e (headSpec wsX12_go ({ frames := 1, cells := 0, slots := 0, locals := 21 })).room s m args below meth c H locs 0 0 Q (F0 m 307 ls []) := by
                          intro w189 H locs ls hP hD hS hl
                          refine lv_aload_n hx hb dX12_go_307 rfl (lv_at hl 3 rfl) ?_
                          refine va_get (D := (dC, dI)) (ci := 12) (v := .int (nI k47)) (C := RX12) (T := TX12) (N := 52) hx hb hts hin12 hown hK hP 0 rfl rfl 5 (by decide) (hts (.fieldLink RX12 21 "PorridgeSeaModel" "to" "I") (List.mem_of_getElem? (i := 1) rfl)) (fun _ h9 => h9) rfl dX12_go_308 ?_
                          refine lv_aload_n hx hb dX12_go_311 rfl (lv_at hl 3 rfl) ?_
                          refine va_get (D := (dC, dI)) (ci := 12) (v := .int (nI k5)) (C := RX12) (T := TX12) (N := 52) hx hb hts hin12 hown hK hP 0 rfl rfl 6 (by decide) (hts (.fieldLink RX12 24 "PorridgeSeaModel" "from" "I") (List.mem_of_getElem? (i := 4) rfl)) (fun _ h9 => h9) rfl dX12_go_312 ?_
                          refine lv_isub hx hb dX12_go_315 ?_
                          refine r_ti (nI (k47 - k5)) (pk_sub (lf_x_goP_91 ksize kto ktapeF k5 n10 y18 r24 x46 k47 x48 n57 r60 r177 y185 iv_ko_1 iv_ko_3 j6 j7 j8 hm12 c17 e19 p25 j50 j51 j52 j53 j54 j55 hm59 p61 t66 p178 t181 t182 e186 c187)) ?_
                          refine lv_iconst (v := nI 3) hx hb dX12_go_316 (by decide) ?_
                          refine n_icmp_ge (x := (k47 - k5)) (y := 3) (tgt := 337) hx hb (by omega) (by omega) dX12_go_317 (by decide) (fun c191 => ?_) (fun c191 => ?_)
                          · refine lv_aload_n hx hb dX12_go_337 rfl (lv_at hl 3 rfl) ?_
                            refine lv_dup hx hb dX12_go_338 rfl ?_
                            refine va_get (D := (dC, dI)) (ci := 12) (v := .int (nI k47)) (C := RX12) (T := TX12) (N := 52) hx hb hts hin12 hown hK hP 0 rfl rfl 5 (by decide) (hts (.fieldLink RX12 21 "PorridgeSeaModel" "to" "I") (List.mem_of_getElem? (i := 1) rfl)) (fun _ h9 => h9) rfl dX12_go_339 ?_
                            refine lv_iconst (v := nI 1) hx hb dX12_go_342 (by decide) ?_
                            refine lv_iadd hx hb dX12_go_343 ?_
                            refine r_ti (nI (k47 + 1)) (nI_add _ _) ?_
                            refine va_put (D := (dC, dI)) (ci := 12) (v := .int (nI (k47 + 1))) (ty := .int) (C := RX12) (T := TX12) (N := 52) hx hb hts hin12 tyX12 tyX12_ok nmX12 hown hK hP hD hS 0 rfl rfl 5 (by decide) (hts (.fieldLink RX12 21 "PorridgeSeaModel" "to" "I") (List.mem_of_getElem? (i := 1) rfl)) (fun _ h9 => h9) rfl (by decide +kernel) rfl rfl (Nat.le_of_ble_eq_true rfl) dX12_go_344 (fun H locs hP hD hS => ?_)
                            have hP : va_P (dC, dI) vwCl [(o, .inr (12, [.int kthrown, .ref ktape, .int (nI ktaped), .int (nI ksize), .int (nI klimit), .int (nI (k47 + 1)), .int (nI k5), .int kkind, .int x48, .int ksign, .int kfault, .int kplace, .long w189, .int ktold, .ref know, .ref kread, .ref kkept, .ref ksnaps, .ref kaside, .ref kname, .ref kreadName, .ref kkeptName, .ref kisKept, .ref konces, .int (nI ksnapMany), .int khasCells, .ref kpoured, .ref kfar, .ref ksides, .int (nI ksideMany), .int kwayDays, .int khasWay, .ref klines, .ref kmet, .int (nI kmetMany), .ref ksunk, .ref ktrying, .int (nI ksunkMany), .int ksending, .int kfleets, .ref ktext, .int (nI ktexts), .int kseed, .ref kline, .ref kwritten, .int (nI klineMany), .int khasWritten, .ref knode, .int (nI knodes), .int (nI konesMany), .int (nI kwithin), .int (nI ktop)])), (ktape, .inl (ky 0, 940, .inl ktapeF))] H := hP
                            have hD : va_D A [(o, .inr (12, [.int kthrown, .ref ktape, .int (nI ktaped), .int (nI ksize), .int (nI klimit), .int (nI (k47 + 1)), .int (nI k5), .int kkind, .int x48, .int ksign, .int kfault, .int kplace, .long w189, .int ktold, .ref know, .ref kread, .ref kkept, .ref ksnaps, .ref kaside, .ref kname, .ref kreadName, .ref kkeptName, .ref kisKept, .ref konces, .int (nI ksnapMany), .int khasCells, .ref kpoured, .ref kfar, .ref ksides, .int (nI ksideMany), .int kwayDays, .int khasWay, .ref klines, .ref kmet, .int (nI kmetMany), .ref ksunk, .ref ktrying, .int (nI ksunkMany), .int ksending, .int kfleets, .ref ktext, .int (nI ktexts), .int kseed, .ref kline, .ref kwritten, .int (nI klineMany), .int khasWritten, .ref knode, .int (nI knodes), .int (nI konesMany), .int (nI kwithin), .int (nI ktop)])), (ktape, .inl (ky 0, 940, .inl ktapeF))] := hD
                            refine lv_goto (tgt := 215) hx hb dX12_go_347 (by decide) ?_
                            exact ih58 (nI 0) (k47 + 1) x48 w189 (lf_x_goP_92) (lf_x_goP_93 ksize kto ktapeF k5 n10 y18 r24 x46 k47 x48 n57 r60 r177 y185 iv_ko_1 iv_ko_3 j6 j7 j8 hm12 c17 e19 p25 j50 j51 j52 j53 j54 j55 hm59 p61 t66 p178 t181 t182 e186 c187 c191) (lf_x_goP_94 ksize kto ktapeF k5 n10 y18 r24 x46 k47 x48 n57 r60 r177 y185 iv_ko_1 iv_ko_3 j6 j7 j8 hm12 c17 e19 p25 j50 j51 j52 j53 j54 j55 hm59 p61 t66 p178 t181 t182 e186 c187 c191) (lf_x_goP_95 ksize kto ktapeF k5 n10 y18 r24 x46 k47 x48 n57 r60 r177 y185 iv_ko_1 iv_ko_3 j6 j7 j8 hm12 c17 e19 p25 j50 j51 j52 j53 j54 j55 hm59 p61 t66 p178 t181 t182 e186 c187 c191) (lf_x_goP_96 ksize kto ktapeF k5 n10 y18 r24 x46 k47 x48 n57 r60 r177 y185 iv_ko_1 iv_ko_3 j6 j7 j8 hm12 c17 e19 p25 j50 j51 j52 j53 j54 j55 hm59 p61 t66 p178 t181 t182 e186 c187 c191) (lf_x_goP_97 ksize kto ktapeF k5 n10 y18 r24 x46 k47 x48 n57 r60 r177 y185 iv_ko_1 iv_ko_3 j6 j7 j8 hm12 c17 e19 p25 j50 j51 j52 j53 j54 j55 hm59 p61 t66 p178 t181 t182 e186 c187 c191) (lf_x_goP_98 ksize kto ktapeF k5 n10 y18 r24 x46 k47 x48 n57 r60 r177 y185 iv_ko_1 iv_ko_3 j6 j7 j8 hm12 c17 e19 p25 j50 j51 j52 j53 j54 j55 hm59 p61 t66 p178 t181 t182 e186 c187 c191) _ _ _ hP hD hS (lv_sub hl [0, 2, 3] rfl)
                          · refine lv_aload_n hx hb dX12_go_320 rfl (lv_at hl 3 rfl) ?_
                            refine lv_bipush (v := nI 10) hx hb dX12_go_321 (by decide) ?_
                            refine lv_aload_n hx hb dX12_go_323 rfl (lv_at hl 3 rfl) ?_
                            refine va_get (D := (dC, dI)) (ci := 12) (v := .int x48) (C := RX12) (T := TX12) (N := 52) hx hb hts hin12 hown hK hP 0 rfl rfl 8 (by decide) (hts (.fieldLink RX12 47 "PorridgeSeaModel" "number" "I") (List.mem_of_getElem? (i := 9) rfl)) (fun _ h9 => h9) rfl dX12_go_324 ?_
                            refine lv_imul hx hb dX12_go_327 ?_
                            refine lv_topi (fun y192 e193 => ?_)
                            refine lv_iload hx hb dX12_go_328 (lv_at hl 1 rfl) ?_
                            refine lv_iadd hx hb dX12_go_330 ?_
                            refine lv_topi (fun y194 e195 => ?_)
                            refine lv_bipush (v := nI 48) hx hb dX12_go_331 (by decide) ?_
                            refine lv_isub hx hb dX12_go_333 ?_
                            refine lv_topi (fun y196 e197 => ?_)
                            refine va_put (D := (dC, dI)) (ci := 12) (v := .int y196) (ty := .int) (C := RX12) (T := TX12) (N := 52) hx hb hts hin12 tyX12 tyX12_ok nmX12 hown hK hP hD hS 0 rfl rfl 8 (by decide) (hts (.fieldLink RX12 47 "PorridgeSeaModel" "number" "I") (List.mem_of_getElem? (i := 9) rfl)) (fun _ h9 => h9) rfl (by decide +kernel) rfl rfl (Nat.le_of_ble_eq_true rfl) dX12_go_334 (fun H locs hP hD hS => ?_)
                            have hP : va_P (dC, dI) vwCl [(o, .inr (12, [.int kthrown, .ref ktape, .int (nI ktaped), .int (nI ksize), .int (nI klimit), .int (nI k47), .int (nI k5), .int kkind, .int y196, .int ksign, .int kfault, .int kplace, .long w189, .int ktold, .ref know, .ref kread, .ref kkept, .ref ksnaps, .ref kaside, .ref kname, .ref kreadName, .ref kkeptName, .ref kisKept, .ref konces, .int (nI ksnapMany), .int khasCells, .ref kpoured, .ref kfar, .ref ksides, .int (nI ksideMany), .int kwayDays, .int khasWay, .ref klines, .ref kmet, .int (nI kmetMany), .ref ksunk, .ref ktrying, .int (nI ksunkMany), .int ksending, .int kfleets, .ref ktext, .int (nI ktexts), .int kseed, .ref kline, .ref kwritten, .int (nI klineMany), .int khasWritten, .ref knode, .int (nI knodes), .int (nI konesMany), .int (nI kwithin), .int (nI ktop)])), (ktape, .inl (ky 0, 940, .inl ktapeF))] H := hP
                            have hD : va_D A [(o, .inr (12, [.int kthrown, .ref ktape, .int (nI ktaped), .int (nI ksize), .int (nI klimit), .int (nI k47), .int (nI k5), .int kkind, .int y196, .int ksign, .int kfault, .int kplace, .long w189, .int ktold, .ref know, .ref kread, .ref kkept, .ref ksnaps, .ref kaside, .ref kname, .ref kreadName, .ref kkeptName, .ref kisKept, .ref konces, .int (nI ksnapMany), .int khasCells, .ref kpoured, .ref kfar, .ref ksides, .int (nI ksideMany), .int kwayDays, .int khasWay, .ref klines, .ref kmet, .int (nI kmetMany), .ref ksunk, .ref ktrying, .int (nI ksunkMany), .int ksending, .int kfleets, .ref ktext, .int (nI ktexts), .int kseed, .ref kline, .ref kwritten, .int (nI klineMany), .int khasWritten, .ref knode, .int (nI knodes), .int (nI konesMany), .int (nI kwithin), .int (nI ktop)])), (ktape, .inl (ky 0, 940, .inl ktapeF))] := hD
                            refine lv_aload_n hx hb dX12_go_337 rfl (lv_at hl 3 rfl) ?_
                            refine lv_dup hx hb dX12_go_338 rfl ?_
                            refine va_get (D := (dC, dI)) (ci := 12) (v := .int (nI k47)) (C := RX12) (T := TX12) (N := 52) hx hb hts hin12 hown hK hP 0 rfl rfl 5 (by decide) (hts (.fieldLink RX12 21 "PorridgeSeaModel" "to" "I") (List.mem_of_getElem? (i := 1) rfl)) (fun _ h9 => h9) rfl dX12_go_339 ?_
                            refine lv_iconst (v := nI 1) hx hb dX12_go_342 (by decide) ?_
                            refine lv_iadd hx hb dX12_go_343 ?_
                            refine r_ti (nI (k47 + 1)) (nI_add _ _) ?_
                            refine va_put (D := (dC, dI)) (ci := 12) (v := .int (nI (k47 + 1))) (ty := .int) (C := RX12) (T := TX12) (N := 52) hx hb hts hin12 tyX12 tyX12_ok nmX12 hown hK hP hD hS 0 rfl rfl 5 (by decide) (hts (.fieldLink RX12 21 "PorridgeSeaModel" "to" "I") (List.mem_of_getElem? (i := 1) rfl)) (fun _ h9 => h9) rfl (by decide +kernel) rfl rfl (Nat.le_of_ble_eq_true rfl) dX12_go_344 (fun H locs hP hD hS => ?_)
                            have hP : va_P (dC, dI) vwCl [(o, .inr (12, [.int kthrown, .ref ktape, .int (nI ktaped), .int (nI ksize), .int (nI klimit), .int (nI (k47 + 1)), .int (nI k5), .int kkind, .int y196, .int ksign, .int kfault, .int kplace, .long w189, .int ktold, .ref know, .ref kread, .ref kkept, .ref ksnaps, .ref kaside, .ref kname, .ref kreadName, .ref kkeptName, .ref kisKept, .ref konces, .int (nI ksnapMany), .int khasCells, .ref kpoured, .ref kfar, .ref ksides, .int (nI ksideMany), .int kwayDays, .int khasWay, .ref klines, .ref kmet, .int (nI kmetMany), .ref ksunk, .ref ktrying, .int (nI ksunkMany), .int ksending, .int kfleets, .ref ktext, .int (nI ktexts), .int kseed, .ref kline, .ref kwritten, .int (nI klineMany), .int khasWritten, .ref knode, .int (nI knodes), .int (nI konesMany), .int (nI kwithin), .int (nI ktop)])), (ktape, .inl (ky 0, 940, .inl ktapeF))] H := hP
                            have hD : va_D A [(o, .inr (12, [.int kthrown, .ref ktape, .int (nI ktaped), .int (nI ksize), .int (nI klimit), .int (nI (k47 + 1)), .int (nI k5), .int kkind, .int y196, .int ksign, .int kfault, .int kplace, .long w189, .int ktold, .ref know, .ref kread, .ref kkept, .ref ksnaps, .ref kaside, .ref kname, .ref kreadName, .ref kkeptName, .ref kisKept, .ref konces, .int (nI ksnapMany), .int khasCells, .ref kpoured, .ref kfar, .ref ksides, .int (nI ksideMany), .int kwayDays, .int khasWay, .ref klines, .ref kmet, .int (nI kmetMany), .ref ksunk, .ref ktrying, .int (nI ksunkMany), .int ksending, .int kfleets, .ref ktext, .int (nI ktexts), .int kseed, .ref kline, .ref kwritten, .int (nI klineMany), .int khasWritten, .ref knode, .int (nI knodes), .int (nI konesMany), .int (nI kwithin), .int (nI ktop)])), (ktape, .inl (ky 0, 940, .inl ktapeF))] := hD
                            refine lv_goto (tgt := 215) hx hb dX12_go_347 (by decide) ?_
                            exact ih58 (nI 0) (k47 + 1) y196 w189 (lf_x_goP_99) (lf_x_goP_100 ksize kto ktapeF k5 n10 y18 r24 x46 k47 x48 n57 r60 r177 y185 y192 y194 y196 iv_ko_1 iv_ko_3 j6 j7 j8 hm12 c17 e19 p25 j50 j51 j52 j53 j54 j55 hm59 p61 t66 p178 t181 t182 e186 c187 c191 e193 e195 e197) (lf_x_goP_101 ksize kto ktapeF k5 n10 y18 r24 x46 k47 x48 n57 r60 r177 y185 y192 y194 y196 iv_ko_1 iv_ko_3 j6 j7 j8 hm12 c17 e19 p25 j50 j51 j52 j53 j54 j55 hm59 p61 t66 p178 t181 t182 e186 c187 c191 e193 e195 e197) (lf_x_goP_102 ksize kto ktapeF k5 n10 y18 r24 x46 k47 x48 n57 r60 r177 y185 y192 y194 y196 iv_ko_1 iv_ko_3 j6 j7 j8 hm12 c17 e19 p25 j50 j51 j52 j53 j54 j55 hm59 p61 t66 p178 t181 t182 e186 c187 c191 e193 e195 e197) (lf_x_goP_103 ksize kto ktapeF k5 n10 y18 r24 x46 k47 x48 n57 r60 r177 y185 y192 y194 y196 iv_ko_1 iv_ko_3 j6 j7 j8 hm12 c17 e19 p25 j50 j51 j52 j53 j54 j55 hm59 p61 t66 p178 t181 t182 e186 c187 c191 e193 e195 e197) (lf_x_goP_104 ksize kto ktapeF k5 n10 y18 r24 x46 k47 x48 n57 r60 r177 y185 y192 y194 y196 iv_ko_1 iv_ko_3 j6 j7 j8 hm12 c17 e19 p25 j50 j51 j52 j53 j54 j55 hm59 p61 t66 p178 t181 t182 e186 c187 c191 e193 e195 e197) (lf_x_goP_105 ksize kto ktapeF k5 n10 y18 r24 x46 k47 x48 n57 r60 r177 y185 y192 y194 y196 iv_ko_1 iv_ko_3 j6 j7 j8 hm12 c17 e19 p25 j50 j51 j52 j53 j54 j55 hm59 p61 t66 p178 t181 t182 e186 c187 c191 e193 e195 e197) _ _ _ hP hD hS (lv_sub hl [0, 2, 3] rfl)
                        refine n_icmp_ge (x := (k47 - k5)) (y := 7) (tgt := 307) hx hb (by omega) (by omega) dX12_go_284 (by decide) (fun c188 => ?_) (fun c188 => ?_)
                        · exact hJ190 w49  _ _ _ hP hD hS (lv_sub hl [0, 1, 2, 3] rfl)
                        · refine lv_aload_n hx hb dX12_go_287 rfl (lv_at hl 3 rfl) ?_
                          refine lv_ldc2 (v := 27) hx hb hown (hts _ (List.mem_of_getElem? (i := 10) rfl)) dX12_go_288 ?_
                          refine lv_aload_n hx hb dX12_go_291 rfl (lv_at hl 3 rfl) ?_
                          refine va_get (D := (dC, dI)) (ci := 12) (v := .long w49) (C := RX12) (T := TX12) (N := 52) hx hb hts hin12 hown hK hP 0 rfl rfl 12 (by decide) (hts (.fieldLink RX12 43 "PorridgeSeaModel" "word" "J") (List.mem_of_getElem? (i := 8) rfl)) (fun _ h9 => h9) rfl dX12_go_292 ?_
                          refine lv_lmul hx hb dX12_go_295 ?_
                          refine lv_topl (fun w198 e199 => ?_)
                          refine lv_iload hx hb dX12_go_296 (lv_at hl 1 rfl) ?_
                          obtain ⟨w200, e201⟩ : ∃ z9 : Int64, z9 = (y185).toInt64 := ⟨_, rfl⟩
                          refine lv_i2l (v := w200) hx hb dX12_go_298 e201.symm ?_
                          refine lv_ladd hx hb dX12_go_299 ?_
                          refine lv_topl (fun w202 e203 => ?_)
                          refine lv_ldc2 (v := 96) hx hb hown (hts _ (List.mem_of_getElem? (i := 11) rfl)) dX12_go_300 ?_
                          refine lv_lsub hx hb dX12_go_303 ?_
                          refine lv_topl (fun w204 e205 => ?_)
                          refine va_put (D := (dC, dI)) (ci := 12) (v := .long w204) (ty := .long) (C := RX12) (T := TX12) (N := 52) hx hb hts hin12 tyX12 tyX12_ok nmX12 hown hK hP hD hS 0 rfl rfl 12 (by decide) (hts (.fieldLink RX12 43 "PorridgeSeaModel" "word" "J") (List.mem_of_getElem? (i := 8) rfl)) (fun _ h9 => h9) rfl (by decide +kernel) rfl rfl (Nat.le_of_ble_eq_true rfl) dX12_go_304 (fun H locs hP hD hS => ?_)
                          have hP : va_P (dC, dI) vwCl [(o, .inr (12, [.int kthrown, .ref ktape, .int (nI ktaped), .int (nI ksize), .int (nI klimit), .int (nI k47), .int (nI k5), .int kkind, .int x48, .int ksign, .int kfault, .int kplace, .long w204, .int ktold, .ref know, .ref kread, .ref kkept, .ref ksnaps, .ref kaside, .ref kname, .ref kreadName, .ref kkeptName, .ref kisKept, .ref konces, .int (nI ksnapMany), .int khasCells, .ref kpoured, .ref kfar, .ref ksides, .int (nI ksideMany), .int kwayDays, .int khasWay, .ref klines, .ref kmet, .int (nI kmetMany), .ref ksunk, .ref ktrying, .int (nI ksunkMany), .int ksending, .int kfleets, .ref ktext, .int (nI ktexts), .int kseed, .ref kline, .ref kwritten, .int (nI klineMany), .int khasWritten, .ref knode, .int (nI knodes), .int (nI konesMany), .int (nI kwithin), .int (nI ktop)])), (ktape, .inl (ky 0, 940, .inl ktapeF))] H := hP
                          have hD : va_D A [(o, .inr (12, [.int kthrown, .ref ktape, .int (nI ktaped), .int (nI ksize), .int (nI klimit), .int (nI k47), .int (nI k5), .int kkind, .int x48, .int ksign, .int kfault, .int kplace, .long w204, .int ktold, .ref know, .ref kread, .ref kkept, .ref ksnaps, .ref kaside, .ref kname, .ref kreadName, .ref kkeptName, .ref kisKept, .ref konces, .int (nI ksnapMany), .int khasCells, .ref kpoured, .ref kfar, .ref ksides, .int (nI ksideMany), .int kwayDays, .int khasWay, .ref klines, .ref kmet, .int (nI kmetMany), .ref ksunk, .ref ktrying, .int (nI ksunkMany), .int ksending, .int kfleets, .ref ktext, .int (nI ktexts), .int kseed, .ref kline, .ref kwritten, .int (nI klineMany), .int khasWritten, .ref knode, .int (nI knodes), .int (nI konesMany), .int (nI kwithin), .int (nI ktop)])), (ktape, .inl (ky 0, 940, .inl ktapeF))] := hD
                          exact hJ190 w204  _ _ _ hP hD hS (lv_sub hl [0, 1, 2, 3] rfl)
                      · refine lv_iload hx hb dX12_go_258 (lv_at hl 0 rfl) ?_
                        refine vp_callSi (W.runS (As := [.int y185]) (rest := []) ⟨hx, hb, hml, hown, hts⟩ (c_x_isLetterE l dC dI ky y185) (va_cwS 1 hts gX12_go_X12_isLetter rfl rfl rfl (by decide +kernel) ⟨(Nat.le_of_ble_eq_true rfl), (Nat.le_of_ble_eq_true rfl)⟩) (pre_PS hK hP [] rfl) rfl rfl hl.1 rfl (lv_room (Nat.le_of_ble_eq_true rfl)) dX12_go_260 ⟨(Nat.le_of_ble_eq_true rfl), (Nat.le_of_ble_eq_true rfl)⟩) (fun r206 p207 => ?_)
                        rcases p207 with ⟨rfl, t208, t209⟩ | ⟨rfl, t210⟩
                        · refine lv_iload_n hx hb dX12_go_263 rfl (lv_at hl 2 rfl) ?_
                          refine lv_icmp_ne (tgt := 271) hx hb dX12_go_264 (by decide) (fun c211 => ?_) (fun c211 => ?_)
                          · refine lv_iconst (v := nI 0) hx hb dX12_go_271 (by decide) ?_
                            refine lv_istore_n (lv' := [(3, .int (nI 0)), (4, .int y185), (2, .int r24), (0, .ref o)]) hx hb dX12_go_272 rfl hl (by decide) rfl (fun ls hl => ?_)
                            refine lv_aload_n hx hb dX12_go_273 rfl (lv_at hl 3 rfl) ?_
                            refine va_get (D := (dC, dI)) (ci := 12) (v := .int (nI k47)) (C := RX12) (T := TX12) (N := 52) hx hb hts hin12 hown hK hP 0 rfl rfl 5 (by decide) (hts (.fieldLink RX12 21 "PorridgeSeaModel" "to" "I") (List.mem_of_getElem? (i := 1) rfl)) (fun _ h9 => h9) rfl dX12_go_274 ?_
                            refine lv_aload_n hx hb dX12_go_277 rfl (lv_at hl 3 rfl) ?_
                            refine va_get (D := (dC, dI)) (ci := 12) (v := .int (nI k5)) (C := RX12) (T := TX12) (N := 52) hx hb hts hin12 hown hK hP 0 rfl rfl 6 (by decide) (hts (.fieldLink RX12 24 "PorridgeSeaModel" "from" "I") (List.mem_of_getElem? (i := 4) rfl)) (fun _ h9 => h9) rfl dX12_go_278 ?_
                            refine lv_isub hx hb dX12_go_281 ?_
                            refine r_ti (nI (k47 - k5)) (pk_sub (lf_x_goP_106 ksize kto ktapeF k5 n10 y18 r24 x46 k47 x48 n57 r60 r177 y185 iv_ko_1 iv_ko_3 j6 j7 j8 hm12 c17 e19 p25 j50 j51 j52 j53 j54 j55 hm59 p61 t66 p178 t181 t182 e186 c187 t208 t209 c211)) ?_
                            refine lv_bipush (v := nI 7) hx hb dX12_go_282 (by decide) ?_
                            have hJ214 : ∀ (w213 : Int64), ∀ (H : Heap) (locs : List Loc) (ls : Array Slot), va_P (dC, dI) vwCl [(o, .inr (12, [.int kthrown, .ref ktape, .int (nI ktaped), .int (nI ksize), .int (nI klimit), .int (nI k47), .int (nI k5), .int kkind, .int x48, .int ksign, .int kfault, .int kplace, .long w213, .int ktold, .ref know, .ref kread, .ref kkept, .ref ksnaps, .ref kaside, .ref kname, .ref kreadName, .ref kkeptName, .ref kisKept, .ref konces, .int (nI ksnapMany), .int khasCells, .ref kpoured, .ref kfar, .ref ksides, .int (nI ksideMany), .int kwayDays, .int khasWay, .ref klines, .ref kmet, .int (nI kmetMany), .ref ksunk, .ref ktrying, .int (nI ksunkMany), .int ksending, .int kfleets, .ref ktext, .int (nI ktexts), .int kseed, .ref kline, .ref kwritten, .int (nI klineMany), .int khasWritten, .ref knode, .int (nI knodes), .int (nI konesMany), .int (nI kwithin), .int (nI ktop)])), (ktape, .inl (ky 0, 940, .inl ktapeF))] H → va_D A [(o, .inr (12, [.int kthrown, .ref ktape, .int (nI ktaped), .int (nI ksize), .int (nI klimit), .int (nI k47), .int (nI k5), .int kkind, .int x48, .int ksign, .int kfault, .int kplace, .long w213, .int ktold, .ref know, .ref kread, .ref kkept, .ref ksnaps, .ref kaside, .ref kname, .ref kreadName, .ref kkeptName, .ref kisKept, .ref konces, .int (nI ksnapMany), .int khasCells, .ref kpoured, .ref kfar, .ref ksides, .int (nI ksideMany), .int kwayDays, .int khasWay, .ref klines, .ref kmet, .int (nI kmetMany), .ref ksunk, .ref ktrying, .int (nI ksunkMany), .int ksending, .int kfleets, .ref ktext, .int (nI ktexts), .int kseed, .ref kline, .ref kwritten, .int (nI klineMany), .int khasWritten, .ref knode, .int (nI knodes), .int (nI konesMany), .int (nI kwithin), .int (nI ktop)])), (ktape, .inl (ky 0, 940, .inl ktapeF))] → va_S A s.heap H locs → lv_has ls 5 [(3, .int (nI 0)), (4, .int y185), (2, .int r24), (0, .ref o)] → W p l e (headSpec wsX12_go ({ frames := 1, cells := 0, slots := 0, locals := 21 })).room s m args below meth c H locs 0 0 Q (F0 m 307 ls []) := by
                              intro w213 H locs ls hP hD hS hl
                              refine lv_aload_n hx hb dX12_go_307 rfl (lv_at hl 3 rfl) ?_
                              refine va_get (D := (dC, dI)) (ci := 12) (v := .int (nI k47)) (C := RX12) (T := TX12) (N := 52) hx hb hts hin12 hown hK hP 0 rfl rfl 5 (by decide) (hts (.fieldLink RX12 21 "PorridgeSeaModel" "to" "I") (List.mem_of_getElem? (i := 1) rfl)) (fun _ h9 => h9) rfl dX12_go_308 ?_
                              refine lv_aload_n hx hb dX12_go_311 rfl (lv_at hl 3 rfl) ?_
                              refine va_get (D := (dC, dI)) (ci := 12) (v := .int (nI k5)) (C := RX12) (T := TX12) (N := 52) hx hb hts hin12 hown hK hP 0 rfl rfl 6 (by decide) (hts (.fieldLink RX12 24 "PorridgeSeaModel" "from" "I") (List.mem_of_getElem? (i := 4) rfl)) (fun _ h9 => h9) rfl dX12_go_312 ?_
                              refine lv_isub hx hb dX12_go_315 ?_
                              refine r_ti (nI (k47 - k5)) (pk_sub (lf_x_goP_107 ksize kto ktapeF k5 n10 y18 r24 x46 k47 x48 n57 r60 r177 y185 iv_ko_1 iv_ko_3 j6 j7 j8 hm12 c17 e19 p25 j50 j51 j52 j53 j54 j55 hm59 p61 t66 p178 t181 t182 e186 c187 t208 t209 c211)) ?_
                              refine lv_iconst (v := nI 3) hx hb dX12_go_316 (by decide) ?_
                              refine n_icmp_ge (x := (k47 - k5)) (y := 3) (tgt := 337) hx hb (by omega) (by omega) dX12_go_317 (by decide) (fun c215 => ?_) (fun c215 => ?_)
                              · refine lv_aload_n hx hb dX12_go_337 rfl (lv_at hl 3 rfl) ?_
                                refine lv_dup hx hb dX12_go_338 rfl ?_
                                refine va_get (D := (dC, dI)) (ci := 12) (v := .int (nI k47)) (C := RX12) (T := TX12) (N := 52) hx hb hts hin12 hown hK hP 0 rfl rfl 5 (by decide) (hts (.fieldLink RX12 21 "PorridgeSeaModel" "to" "I") (List.mem_of_getElem? (i := 1) rfl)) (fun _ h9 => h9) rfl dX12_go_339 ?_
                                refine lv_iconst (v := nI 1) hx hb dX12_go_342 (by decide) ?_
                                refine lv_iadd hx hb dX12_go_343 ?_
                                refine r_ti (nI (k47 + 1)) (nI_add _ _) ?_
                                refine va_put (D := (dC, dI)) (ci := 12) (v := .int (nI (k47 + 1))) (ty := .int) (C := RX12) (T := TX12) (N := 52) hx hb hts hin12 tyX12 tyX12_ok nmX12 hown hK hP hD hS 0 rfl rfl 5 (by decide) (hts (.fieldLink RX12 21 "PorridgeSeaModel" "to" "I") (List.mem_of_getElem? (i := 1) rfl)) (fun _ h9 => h9) rfl (by decide +kernel) rfl rfl (Nat.le_of_ble_eq_true rfl) dX12_go_344 (fun H locs hP hD hS => ?_)
                                have hP : va_P (dC, dI) vwCl [(o, .inr (12, [.int kthrown, .ref ktape, .int (nI ktaped), .int (nI ksize), .int (nI klimit), .int (nI (k47 + 1)), .int (nI k5), .int kkind, .int x48, .int ksign, .int kfault, .int kplace, .long w213, .int ktold, .ref know, .ref kread, .ref kkept, .ref ksnaps, .ref kaside, .ref kname, .ref kreadName, .ref kkeptName, .ref kisKept, .ref konces, .int (nI ksnapMany), .int khasCells, .ref kpoured, .ref kfar, .ref ksides, .int (nI ksideMany), .int kwayDays, .int khasWay, .ref klines, .ref kmet, .int (nI kmetMany), .ref ksunk, .ref ktrying, .int (nI ksunkMany), .int ksending, .int kfleets, .ref ktext, .int (nI ktexts), .int kseed, .ref kline, .ref kwritten, .int (nI klineMany), .int khasWritten, .ref knode, .int (nI knodes), .int (nI konesMany), .int (nI kwithin), .int (nI ktop)])), (ktape, .inl (ky 0, 940, .inl ktapeF))] H := hP
                                have hD : va_D A [(o, .inr (12, [.int kthrown, .ref ktape, .int (nI ktaped), .int (nI ksize), .int (nI klimit), .int (nI (k47 + 1)), .int (nI k5), .int kkind, .int x48, .int ksign, .int kfault, .int kplace, .long w213, .int ktold, .ref know, .ref kread, .ref kkept, .ref ksnaps, .ref kaside, .ref kname, .ref kreadName, .ref kkeptName, .ref kisKept, .ref konces, .int (nI ksnapMany), .int khasCells, .ref kpoured, .ref kfar, .ref ksides, .int (nI ksideMany), .int kwayDays, .int khasWay, .ref klines, .ref kmet, .int (nI kmetMany), .ref ksunk, .ref ktrying, .int (nI ksunkMany), .int ksending, .int kfleets, .ref ktext, .int (nI ktexts), .int kseed, .ref kline, .ref kwritten, .int (nI klineMany), .int khasWritten, .ref knode, .int (nI knodes), .int (nI konesMany), .int (nI kwithin), .int (nI ktop)])), (ktape, .inl (ky 0, 940, .inl ktapeF))] := hD
                                refine lv_goto (tgt := 215) hx hb dX12_go_347 (by decide) ?_
                                exact ih58 (nI 0) (k47 + 1) x48 w213 (lf_x_goP_108) (lf_x_goP_109 ksize kto ktapeF k5 n10 y18 r24 x46 k47 x48 n57 r60 r177 y185 iv_ko_1 iv_ko_3 j6 j7 j8 hm12 c17 e19 p25 j50 j51 j52 j53 j54 j55 hm59 p61 t66 p178 t181 t182 e186 c187 t208 t209 c211 c215) (lf_x_goP_110 ksize kto ktapeF k5 n10 y18 r24 x46 k47 x48 n57 r60 r177 y185 iv_ko_1 iv_ko_3 j6 j7 j8 hm12 c17 e19 p25 j50 j51 j52 j53 j54 j55 hm59 p61 t66 p178 t181 t182 e186 c187 t208 t209 c211 c215) (lf_x_goP_111 ksize kto ktapeF k5 n10 y18 r24 x46 k47 x48 n57 r60 r177 y185 iv_ko_1 iv_ko_3 j6 j7 j8 hm12 c17 e19 p25 j50 j51 j52 j53 j54 j55 hm59 p61 t66 p178 t181 t182 e186 c187 t208 t209 c211 c215) (lf_x_goP_112 ksize kto ktapeF k5 n10 y18 r24 x46 k47 x48 n57 r60 r177 y185 iv_ko_1 iv_ko_3 j6 j7 j8 hm12 c17 e19 p25 j50 j51 j52 j53 j54 j55 hm59 p61 t66 p178 t181 t182 e186 c187 t208 t209 c211 c215) (lf_x_goP_113 ksize kto ktapeF k5 n10 y18 r24 x46 k47 x48 n57 r60 r177 y185 iv_ko_1 iv_ko_3 j6 j7 j8 hm12 c17 e19 p25 j50 j51 j52 j53 j54 j55 hm59 p61 t66 p178 t181 t182 e186 c187 t208 t209 c211 c215) (lf_x_goP_114 ksize kto ktapeF k5 n10 y18 r24 x46 k47 x48 n57 r60 r177 y185 iv_ko_1 iv_ko_3 j6 j7 j8 hm12 c17 e19 p25 j50 j51 j52 j53 j54 j55 hm59 p61 t66 p178 t181 t182 e186 c187 t208 t209 c211 c215) _ _ _ hP hD hS (lv_sub hl [0, 2, 3] rfl)
                              · refine lv_aload_n hx hb dX12_go_320 rfl (lv_at hl 3 rfl) ?_
                                refine lv_bipush (v := nI 10) hx hb dX12_go_321 (by decide) ?_
                                refine lv_aload_n hx hb dX12_go_323 rfl (lv_at hl 3 rfl) ?_
                                refine va_get (D := (dC, dI)) (ci := 12) (v := .int x48) (C := RX12) (T := TX12) (N := 52) hx hb hts hin12 hown hK hP 0 rfl rfl 8 (by decide) (hts (.fieldLink RX12 47 "PorridgeSeaModel" "number" "I") (List.mem_of_getElem? (i := 9) rfl)) (fun _ h9 => h9) rfl dX12_go_324 ?_
                                refine lv_imul hx hb dX12_go_327 ?_
                                refine lv_topi (fun y216 e217 => ?_)
                                refine lv_iload hx hb dX12_go_328 (lv_at hl 1 rfl) ?_
                                obtain ⟨n218, h219, e220⟩ := nat_of y185 123 (by decide) (lf_x_goP_115 ksize kto ktapeF k5 n10 y18 r24 x46 k47 x48 n57 r60 r177 y185 y216 iv_ko_1 iv_ko_3 j6 j7 j8 hm12 c17 e19 p25 j50 j51 j52 j53 j54 j55 hm59 p61 t66 p178 t181 t182 e186 c187 t208 t209 c211 c215 e217)
                                have f221 : 97 ≤ n218 := (lf_x_goP_116 ksize kto ktapeF k5 n10 y18 r24 x46 k47 x48 n57 r60 r177 y185 y216 n218 iv_ko_1 iv_ko_3 j6 j7 j8 hm12 c17 e19 p25 j50 j51 j52 j53 j54 j55 hm59 p61 t66 p178 t181 t182 e186 c187 t208 t209 c211 c215 e217 h219 e220)
                                rw [e220]
                                refine lv_iadd hx hb dX12_go_330 ?_
                                refine lv_topi (fun y222 e223 => ?_)
                                refine lv_bipush (v := nI 48) hx hb dX12_go_331 (by decide) ?_
                                refine lv_isub hx hb dX12_go_333 ?_
                                refine lv_topi (fun y224 e225 => ?_)
                                refine va_put (D := (dC, dI)) (ci := 12) (v := .int y224) (ty := .int) (C := RX12) (T := TX12) (N := 52) hx hb hts hin12 tyX12 tyX12_ok nmX12 hown hK hP hD hS 0 rfl rfl 8 (by decide) (hts (.fieldLink RX12 47 "PorridgeSeaModel" "number" "I") (List.mem_of_getElem? (i := 9) rfl)) (fun _ h9 => h9) rfl (by decide +kernel) rfl rfl (Nat.le_of_ble_eq_true rfl) dX12_go_334 (fun H locs hP hD hS => ?_)
                                have hP : va_P (dC, dI) vwCl [(o, .inr (12, [.int kthrown, .ref ktape, .int (nI ktaped), .int (nI ksize), .int (nI klimit), .int (nI k47), .int (nI k5), .int kkind, .int y224, .int ksign, .int kfault, .int kplace, .long w213, .int ktold, .ref know, .ref kread, .ref kkept, .ref ksnaps, .ref kaside, .ref kname, .ref kreadName, .ref kkeptName, .ref kisKept, .ref konces, .int (nI ksnapMany), .int khasCells, .ref kpoured, .ref kfar, .ref ksides, .int (nI ksideMany), .int kwayDays, .int khasWay, .ref klines, .ref kmet, .int (nI kmetMany), .ref ksunk, .ref ktrying, .int (nI ksunkMany), .int ksending, .int kfleets, .ref ktext, .int (nI ktexts), .int kseed, .ref kline, .ref kwritten, .int (nI klineMany), .int khasWritten, .ref knode, .int (nI knodes), .int (nI konesMany), .int (nI kwithin), .int (nI ktop)])), (ktape, .inl (ky 0, 940, .inl ktapeF))] H := hP
                                have hD : va_D A [(o, .inr (12, [.int kthrown, .ref ktape, .int (nI ktaped), .int (nI ksize), .int (nI klimit), .int (nI k47), .int (nI k5), .int kkind, .int y224, .int ksign, .int kfault, .int kplace, .long w213, .int ktold, .ref know, .ref kread, .ref kkept, .ref ksnaps, .ref kaside, .ref kname, .ref kreadName, .ref kkeptName, .ref kisKept, .ref konces, .int (nI ksnapMany), .int khasCells, .ref kpoured, .ref kfar, .ref ksides, .int (nI ksideMany), .int kwayDays, .int khasWay, .ref klines, .ref kmet, .int (nI kmetMany), .ref ksunk, .ref ktrying, .int (nI ksunkMany), .int ksending, .int kfleets, .ref ktext, .int (nI ktexts), .int kseed, .ref kline, .ref kwritten, .int (nI klineMany), .int khasWritten, .ref knode, .int (nI knodes), .int (nI konesMany), .int (nI kwithin), .int (nI ktop)])), (ktape, .inl (ky 0, 940, .inl ktapeF))] := hD
                                refine lv_aload_n hx hb dX12_go_337 rfl (lv_at hl 3 rfl) ?_
                                refine lv_dup hx hb dX12_go_338 rfl ?_
                                refine va_get (D := (dC, dI)) (ci := 12) (v := .int (nI k47)) (C := RX12) (T := TX12) (N := 52) hx hb hts hin12 hown hK hP 0 rfl rfl 5 (by decide) (hts (.fieldLink RX12 21 "PorridgeSeaModel" "to" "I") (List.mem_of_getElem? (i := 1) rfl)) (fun _ h9 => h9) rfl dX12_go_339 ?_
                                refine lv_iconst (v := nI 1) hx hb dX12_go_342 (by decide) ?_
                                refine lv_iadd hx hb dX12_go_343 ?_
                                refine r_ti (nI (k47 + 1)) (nI_add _ _) ?_
                                refine va_put (D := (dC, dI)) (ci := 12) (v := .int (nI (k47 + 1))) (ty := .int) (C := RX12) (T := TX12) (N := 52) hx hb hts hin12 tyX12 tyX12_ok nmX12 hown hK hP hD hS 0 rfl rfl 5 (by decide) (hts (.fieldLink RX12 21 "PorridgeSeaModel" "to" "I") (List.mem_of_getElem? (i := 1) rfl)) (fun _ h9 => h9) rfl (by decide +kernel) rfl rfl (Nat.le_of_ble_eq_true rfl) dX12_go_344 (fun H locs hP hD hS => ?_)
                                have hP : va_P (dC, dI) vwCl [(o, .inr (12, [.int kthrown, .ref ktape, .int (nI ktaped), .int (nI ksize), .int (nI klimit), .int (nI (k47 + 1)), .int (nI k5), .int kkind, .int y224, .int ksign, .int kfault, .int kplace, .long w213, .int ktold, .ref know, .ref kread, .ref kkept, .ref ksnaps, .ref kaside, .ref kname, .ref kreadName, .ref kkeptName, .ref kisKept, .ref konces, .int (nI ksnapMany), .int khasCells, .ref kpoured, .ref kfar, .ref ksides, .int (nI ksideMany), .int kwayDays, .int khasWay, .ref klines, .ref kmet, .int (nI kmetMany), .ref ksunk, .ref ktrying, .int (nI ksunkMany), .int ksending, .int kfleets, .ref ktext, .int (nI ktexts), .int kseed, .ref kline, .ref kwritten, .int (nI klineMany), .int khasWritten, .ref knode, .int (nI knodes), .int (nI konesMany), .int (nI kwithin), .int (nI ktop)])), (ktape, .inl (ky 0, 940, .inl ktapeF))] H := hP
                                have hD : va_D A [(o, .inr (12, [.int kthrown, .ref ktape, .int (nI ktaped), .int (nI ksize), .int (nI klimit), .int (nI (k47 + 1)), .int (nI k5), .int kkind, .int y224, .int ksign, .int kfault, .int kplace, .long w213, .int ktold, .ref know, .ref kread, .ref kkept, .ref ksnaps, .ref kaside, .ref kname, .ref kreadName, .ref kkeptName, .ref kisKept, .ref konces, .int (nI ksnapMany), .int khasCells, .ref kpoured, .ref kfar, .ref ksides, .int (nI ksideMany), .int kwayDays, .int khasWay, .ref klines, .ref kmet, .int (nI kmetMany), .ref ksunk, .ref ktrying, .int (nI ksunkMany), .int ksending, .int kfleets, .ref ktext, .int (nI ktexts), .int kseed, .ref kline, .ref kwritten, .int (nI klineMany), .int khasWritten, .ref knode, .int (nI knodes), .int (nI konesMany), .int (nI kwithin), .int (nI ktop)])), (ktape, .inl (ky 0, 940, .inl ktapeF))] := hD
                                refine lv_goto (tgt := 215) hx hb dX12_go_347 (by decide) ?_
                                exact ih58 (nI 0) (k47 + 1) y224 w213 (lf_x_goP_117) (lf_x_goP_118 ksize kto ktapeF k5 n10 y18 r24 x46 k47 x48 n57 r60 r177 y185 y216 n218 y222 y224 iv_ko_1 iv_ko_3 j6 j7 j8 hm12 c17 e19 p25 j50 j51 j52 j53 j54 j55 hm59 p61 t66 p178 t181 t182 e186 c187 t208 t209 c211 c215 e217 h219 e220 f221 e223 e225) (lf_x_goP_119 ksize kto ktapeF k5 n10 y18 r24 x46 k47 x48 n57 r60 r177 y185 y216 n218 y222 y224 iv_ko_1 iv_ko_3 j6 j7 j8 hm12 c17 e19 p25 j50 j51 j52 j53 j54 j55 hm59 p61 t66 p178 t181 t182 e186 c187 t208 t209 c211 c215 e217 h219 e220 f221 e223 e225) (lf_x_goP_120 ksize kto ktapeF k5 n10 y18 r24 x46 k47 x48 n57 r60 r177 y185 y216 n218 y222 y224 iv_ko_1 iv_ko_3 j6 j7 j8 hm12 c17 e19 p25 j50 j51 j52 j53 j54 j55 hm59 p61 t66 p178 t181 t182 e186 c187 t208 t209 c211 c215 e217 h219 e220 f221 e223 e225) (lf_x_goP_121 ksize kto ktapeF k5 n10 y18 r24 x46 k47 x48 n57 r60 r177 y185 y216 n218 y222 y224 iv_ko_1 iv_ko_3 j6 j7 j8 hm12 c17 e19 p25 j50 j51 j52 j53 j54 j55 hm59 p61 t66 p178 t181 t182 e186 c187 t208 t209 c211 c215 e217 h219 e220 f221 e223 e225) (lf_x_goP_122 ksize kto ktapeF k5 n10 y18 r24 x46 k47 x48 n57 r60 r177 y185 y216 n218 y222 y224 iv_ko_1 iv_ko_3 j6 j7 j8 hm12 c17 e19 p25 j50 j51 j52 j53 j54 j55 hm59 p61 t66 p178 t181 t182 e186 c187 t208 t209 c211 c215 e217 h219 e220 f221 e223 e225) (lf_x_goP_123 ksize kto ktapeF k5 n10 y18 r24 x46 k47 x48 n57 r60 r177 y185 y216 n218 y222 y224 iv_ko_1 iv_ko_3 j6 j7 j8 hm12 c17 e19 p25 j50 j51 j52 j53 j54 j55 hm59 p61 t66 p178 t181 t182 e186 c187 t208 t209 c211 c215 e217 h219 e220 f221 e223 e225) _ _ _ hP hD hS (lv_sub hl [0, 2, 3] rfl)
                            refine n_icmp_ge (x := (k47 - k5)) (y := 7) (tgt := 307) hx hb (by omega) (by omega) dX12_go_284 (by decide) (fun c212 => ?_) (fun c212 => ?_)
                            · exact hJ214 w49  _ _ _ hP hD hS (lv_sub hl [0, 1, 2, 3] rfl)
                            · refine lv_aload_n hx hb dX12_go_287 rfl (lv_at hl 3 rfl) ?_
                              refine lv_ldc2 (v := 27) hx hb hown (hts _ (List.mem_of_getElem? (i := 10) rfl)) dX12_go_288 ?_
                              refine lv_aload_n hx hb dX12_go_291 rfl (lv_at hl 3 rfl) ?_
                              refine va_get (D := (dC, dI)) (ci := 12) (v := .long w49) (C := RX12) (T := TX12) (N := 52) hx hb hts hin12 hown hK hP 0 rfl rfl 12 (by decide) (hts (.fieldLink RX12 43 "PorridgeSeaModel" "word" "J") (List.mem_of_getElem? (i := 8) rfl)) (fun _ h9 => h9) rfl dX12_go_292 ?_
                              refine lv_lmul hx hb dX12_go_295 ?_
                              refine lv_topl (fun w226 e227 => ?_)
                              refine lv_iload hx hb dX12_go_296 (lv_at hl 1 rfl) ?_
                              obtain ⟨w228, e229⟩ : ∃ z9 : Int64, z9 = (y185).toInt64 := ⟨_, rfl⟩
                              refine lv_i2l (v := w228) hx hb dX12_go_298 e229.symm ?_
                              refine lv_ladd hx hb dX12_go_299 ?_
                              refine lv_topl (fun w230 e231 => ?_)
                              refine lv_ldc2 (v := 96) hx hb hown (hts _ (List.mem_of_getElem? (i := 11) rfl)) dX12_go_300 ?_
                              refine lv_lsub hx hb dX12_go_303 ?_
                              refine lv_topl (fun w232 e233 => ?_)
                              refine va_put (D := (dC, dI)) (ci := 12) (v := .long w232) (ty := .long) (C := RX12) (T := TX12) (N := 52) hx hb hts hin12 tyX12 tyX12_ok nmX12 hown hK hP hD hS 0 rfl rfl 12 (by decide) (hts (.fieldLink RX12 43 "PorridgeSeaModel" "word" "J") (List.mem_of_getElem? (i := 8) rfl)) (fun _ h9 => h9) rfl (by decide +kernel) rfl rfl (Nat.le_of_ble_eq_true rfl) dX12_go_304 (fun H locs hP hD hS => ?_)
                              have hP : va_P (dC, dI) vwCl [(o, .inr (12, [.int kthrown, .ref ktape, .int (nI ktaped), .int (nI ksize), .int (nI klimit), .int (nI k47), .int (nI k5), .int kkind, .int x48, .int ksign, .int kfault, .int kplace, .long w232, .int ktold, .ref know, .ref kread, .ref kkept, .ref ksnaps, .ref kaside, .ref kname, .ref kreadName, .ref kkeptName, .ref kisKept, .ref konces, .int (nI ksnapMany), .int khasCells, .ref kpoured, .ref kfar, .ref ksides, .int (nI ksideMany), .int kwayDays, .int khasWay, .ref klines, .ref kmet, .int (nI kmetMany), .ref ksunk, .ref ktrying, .int (nI ksunkMany), .int ksending, .int kfleets, .ref ktext, .int (nI ktexts), .int kseed, .ref kline, .ref kwritten, .int (nI klineMany), .int khasWritten, .ref knode, .int (nI knodes), .int (nI konesMany), .int (nI kwithin), .int (nI ktop)])), (ktape, .inl (ky 0, 940, .inl ktapeF))] H := hP
                              have hD : va_D A [(o, .inr (12, [.int kthrown, .ref ktape, .int (nI ktaped), .int (nI ksize), .int (nI klimit), .int (nI k47), .int (nI k5), .int kkind, .int x48, .int ksign, .int kfault, .int kplace, .long w232, .int ktold, .ref know, .ref kread, .ref kkept, .ref ksnaps, .ref kaside, .ref kname, .ref kreadName, .ref kkeptName, .ref kisKept, .ref konces, .int (nI ksnapMany), .int khasCells, .ref kpoured, .ref kfar, .ref ksides, .int (nI ksideMany), .int kwayDays, .int khasWay, .ref klines, .ref kmet, .int (nI kmetMany), .ref ksunk, .ref ktrying, .int (nI ksunkMany), .int ksending, .int kfleets, .ref ktext, .int (nI ktexts), .int kseed, .ref kline, .ref kwritten, .int (nI klineMany), .int khasWritten, .ref knode, .int (nI knodes), .int (nI konesMany), .int (nI kwithin), .int (nI ktop)])), (ktape, .inl (ky 0, 940, .inl ktapeF))] := hD
                              exact hJ214 w232  _ _ _ hP hD hS (lv_sub hl [0, 1, 2, 3] rfl)
                          · refine lv_iconst (v := nI 1) hx hb dX12_go_267 (by decide) ?_
                            refine lv_goto (tgt := 272) hx hb dX12_go_268 (by decide) ?_
                            refine lv_istore_n (lv' := [(3, .int (nI 1)), (4, .int y185), (2, .int r24), (0, .ref o)]) hx hb dX12_go_272 rfl hl (by decide) rfl (fun ls hl => ?_)
                            refine lv_aload_n hx hb dX12_go_273 rfl (lv_at hl 3 rfl) ?_
                            refine va_get (D := (dC, dI)) (ci := 12) (v := .int (nI k47)) (C := RX12) (T := TX12) (N := 52) hx hb hts hin12 hown hK hP 0 rfl rfl 5 (by decide) (hts (.fieldLink RX12 21 "PorridgeSeaModel" "to" "I") (List.mem_of_getElem? (i := 1) rfl)) (fun _ h9 => h9) rfl dX12_go_274 ?_
                            refine lv_aload_n hx hb dX12_go_277 rfl (lv_at hl 3 rfl) ?_
                            refine va_get (D := (dC, dI)) (ci := 12) (v := .int (nI k5)) (C := RX12) (T := TX12) (N := 52) hx hb hts hin12 hown hK hP 0 rfl rfl 6 (by decide) (hts (.fieldLink RX12 24 "PorridgeSeaModel" "from" "I") (List.mem_of_getElem? (i := 4) rfl)) (fun _ h9 => h9) rfl dX12_go_278 ?_
                            refine lv_isub hx hb dX12_go_281 ?_
                            refine r_ti (nI (k47 - k5)) (pk_sub (lf_x_goP_124 ksize kto ktapeF k5 n10 y18 r24 x46 k47 x48 n57 r60 r177 y185 iv_ko_1 iv_ko_3 j6 j7 j8 hm12 c17 e19 p25 j50 j51 j52 j53 j54 j55 hm59 p61 t66 p178 t181 t182 e186 c187 t208 t209 c211)) ?_
                            refine lv_bipush (v := nI 7) hx hb dX12_go_282 (by decide) ?_
                            have hJ236 : ∀ (w235 : Int64), ∀ (H : Heap) (locs : List Loc) (ls : Array Slot), va_P (dC, dI) vwCl [(o, .inr (12, [.int kthrown, .ref ktape, .int (nI ktaped), .int (nI ksize), .int (nI klimit), .int (nI k47), .int (nI k5), .int kkind, .int x48, .int ksign, .int kfault, .int kplace, .long w235, .int ktold, .ref know, .ref kread, .ref kkept, .ref ksnaps, .ref kaside, .ref kname, .ref kreadName, .ref kkeptName, .ref kisKept, .ref konces, .int (nI ksnapMany), .int khasCells, .ref kpoured, .ref kfar, .ref ksides, .int (nI ksideMany), .int kwayDays, .int khasWay, .ref klines, .ref kmet, .int (nI kmetMany), .ref ksunk, .ref ktrying, .int (nI ksunkMany), .int ksending, .int kfleets, .ref ktext, .int (nI ktexts), .int kseed, .ref kline, .ref kwritten, .int (nI klineMany), .int khasWritten, .ref knode, .int (nI knodes), .int (nI konesMany), .int (nI kwithin), .int (nI ktop)])), (ktape, .inl (ky 0, 940, .inl ktapeF))] H → va_D A [(o, .inr (12, [.int kthrown, .ref ktape, .int (nI ktaped), .int (nI ksize), .int (nI klimit), .int (nI k47), .int (nI k5), .int kkind, .int x48, .int ksign, .int kfault, .int kplace, .long w235, .int ktold, .ref know, .ref kread, .ref kkept, .ref ksnaps, .ref kaside, .ref kname, .ref kreadName, .ref kkeptName, .ref kisKept, .ref konces, .int (nI ksnapMany), .int khasCells, .ref kpoured, .ref kfar, .ref ksides, .int (nI ksideMany), .int kwayDays, .int khasWay, .ref klines, .ref kmet, .int (nI kmetMany), .ref ksunk, .ref ktrying, .int (nI ksunkMany), .int ksending, .int kfleets, .ref ktext, .int (nI ktexts), .int kseed, .ref kline, .ref kwritten, .int (nI klineMany), .int khasWritten, .ref knode, .int (nI knodes), .int (nI konesMany), .int (nI kwithin), .int (nI ktop)])), (ktape, .inl (ky 0, 940, .inl ktapeF))] → va_S A s.heap H locs → lv_has ls 5 [(3, .int (nI 1)), (4, .int y185), (2, .int r24), (0, .ref o)] → W p l e (headSpec wsX12_go ({ frames := 1, cells := 0, slots := 0, locals := 21 })).room s m args below meth c H locs 0 0 Q (F0 m 307 ls []) := by
                              intro w235 H locs ls hP hD hS hl
                              refine lv_aload_n hx hb dX12_go_307 rfl (lv_at hl 3 rfl) ?_
                              refine va_get (D := (dC, dI)) (ci := 12) (v := .int (nI k47)) (C := RX12) (T := TX12) (N := 52) hx hb hts hin12 hown hK hP 0 rfl rfl 5 (by decide) (hts (.fieldLink RX12 21 "PorridgeSeaModel" "to" "I") (List.mem_of_getElem? (i := 1) rfl)) (fun _ h9 => h9) rfl dX12_go_308 ?_
                              refine lv_aload_n hx hb dX12_go_311 rfl (lv_at hl 3 rfl) ?_
                              refine va_get (D := (dC, dI)) (ci := 12) (v := .int (nI k5)) (C := RX12) (T := TX12) (N := 52) hx hb hts hin12 hown hK hP 0 rfl rfl 6 (by decide) (hts (.fieldLink RX12 24 "PorridgeSeaModel" "from" "I") (List.mem_of_getElem? (i := 4) rfl)) (fun _ h9 => h9) rfl dX12_go_312 ?_
                              refine lv_isub hx hb dX12_go_315 ?_
                              refine r_ti (nI (k47 - k5)) (pk_sub (lf_x_goP_125 ksize kto ktapeF k5 n10 y18 r24 x46 k47 x48 n57 r60 r177 y185 iv_ko_1 iv_ko_3 j6 j7 j8 hm12 c17 e19 p25 j50 j51 j52 j53 j54 j55 hm59 p61 t66 p178 t181 t182 e186 c187 t208 t209 c211)) ?_
                              refine lv_iconst (v := nI 3) hx hb dX12_go_316 (by decide) ?_
                              refine n_icmp_ge (x := (k47 - k5)) (y := 3) (tgt := 337) hx hb (by omega) (by omega) dX12_go_317 (by decide) (fun c237 => ?_) (fun c237 => ?_)
                              · refine lv_aload_n hx hb dX12_go_337 rfl (lv_at hl 3 rfl) ?_
                                refine lv_dup hx hb dX12_go_338 rfl ?_
                                refine va_get (D := (dC, dI)) (ci := 12) (v := .int (nI k47)) (C := RX12) (T := TX12) (N := 52) hx hb hts hin12 hown hK hP 0 rfl rfl 5 (by decide) (hts (.fieldLink RX12 21 "PorridgeSeaModel" "to" "I") (List.mem_of_getElem? (i := 1) rfl)) (fun _ h9 => h9) rfl dX12_go_339 ?_
                                refine lv_iconst (v := nI 1) hx hb dX12_go_342 (by decide) ?_
                                refine lv_iadd hx hb dX12_go_343 ?_
                                refine r_ti (nI (k47 + 1)) (nI_add _ _) ?_
                                refine va_put (D := (dC, dI)) (ci := 12) (v := .int (nI (k47 + 1))) (ty := .int) (C := RX12) (T := TX12) (N := 52) hx hb hts hin12 tyX12 tyX12_ok nmX12 hown hK hP hD hS 0 rfl rfl 5 (by decide) (hts (.fieldLink RX12 21 "PorridgeSeaModel" "to" "I") (List.mem_of_getElem? (i := 1) rfl)) (fun _ h9 => h9) rfl (by decide +kernel) rfl rfl (Nat.le_of_ble_eq_true rfl) dX12_go_344 (fun H locs hP hD hS => ?_)
                                have hP : va_P (dC, dI) vwCl [(o, .inr (12, [.int kthrown, .ref ktape, .int (nI ktaped), .int (nI ksize), .int (nI klimit), .int (nI (k47 + 1)), .int (nI k5), .int kkind, .int x48, .int ksign, .int kfault, .int kplace, .long w235, .int ktold, .ref know, .ref kread, .ref kkept, .ref ksnaps, .ref kaside, .ref kname, .ref kreadName, .ref kkeptName, .ref kisKept, .ref konces, .int (nI ksnapMany), .int khasCells, .ref kpoured, .ref kfar, .ref ksides, .int (nI ksideMany), .int kwayDays, .int khasWay, .ref klines, .ref kmet, .int (nI kmetMany), .ref ksunk, .ref ktrying, .int (nI ksunkMany), .int ksending, .int kfleets, .ref ktext, .int (nI ktexts), .int kseed, .ref kline, .ref kwritten, .int (nI klineMany), .int khasWritten, .ref knode, .int (nI knodes), .int (nI konesMany), .int (nI kwithin), .int (nI ktop)])), (ktape, .inl (ky 0, 940, .inl ktapeF))] H := hP
                                have hD : va_D A [(o, .inr (12, [.int kthrown, .ref ktape, .int (nI ktaped), .int (nI ksize), .int (nI klimit), .int (nI (k47 + 1)), .int (nI k5), .int kkind, .int x48, .int ksign, .int kfault, .int kplace, .long w235, .int ktold, .ref know, .ref kread, .ref kkept, .ref ksnaps, .ref kaside, .ref kname, .ref kreadName, .ref kkeptName, .ref kisKept, .ref konces, .int (nI ksnapMany), .int khasCells, .ref kpoured, .ref kfar, .ref ksides, .int (nI ksideMany), .int kwayDays, .int khasWay, .ref klines, .ref kmet, .int (nI kmetMany), .ref ksunk, .ref ktrying, .int (nI ksunkMany), .int ksending, .int kfleets, .ref ktext, .int (nI ktexts), .int kseed, .ref kline, .ref kwritten, .int (nI klineMany), .int khasWritten, .ref knode, .int (nI knodes), .int (nI konesMany), .int (nI kwithin), .int (nI ktop)])), (ktape, .inl (ky 0, 940, .inl ktapeF))] := hD
                                refine lv_goto (tgt := 215) hx hb dX12_go_347 (by decide) ?_
                                exact ih58 (nI 1) (k47 + 1) x48 w235 (lf_x_goP_126) (lf_x_goP_127 ksize kto ktapeF k5 n10 y18 r24 x46 k47 x48 n57 r60 r177 y185 iv_ko_1 iv_ko_3 j6 j7 j8 hm12 c17 e19 p25 j50 j51 j52 j53 j54 j55 hm59 p61 t66 p178 t181 t182 e186 c187 t208 t209 c211 c237) (lf_x_goP_128 ksize kto ktapeF k5 n10 y18 r24 x46 k47 x48 n57 r60 r177 y185 iv_ko_1 iv_ko_3 j6 j7 j8 hm12 c17 e19 p25 j50 j51 j52 j53 j54 j55 hm59 p61 t66 p178 t181 t182 e186 c187 t208 t209 c211 c237) (lf_x_goP_129 ksize kto ktapeF k5 n10 y18 r24 x46 k47 x48 n57 r60 r177 y185 iv_ko_1 iv_ko_3 j6 j7 j8 hm12 c17 e19 p25 j50 j51 j52 j53 j54 j55 hm59 p61 t66 p178 t181 t182 e186 c187 t208 t209 c211 c237) (lf_x_goP_130 ksize kto ktapeF k5 n10 y18 r24 x46 k47 x48 n57 r60 r177 y185 iv_ko_1 iv_ko_3 j6 j7 j8 hm12 c17 e19 p25 j50 j51 j52 j53 j54 j55 hm59 p61 t66 p178 t181 t182 e186 c187 t208 t209 c211 c237) (lf_x_goP_131 ksize kto ktapeF k5 n10 y18 r24 x46 k47 x48 n57 r60 r177 y185 iv_ko_1 iv_ko_3 j6 j7 j8 hm12 c17 e19 p25 j50 j51 j52 j53 j54 j55 hm59 p61 t66 p178 t181 t182 e186 c187 t208 t209 c211 c237) (lf_x_goP_132 ksize kto ktapeF k5 n10 y18 r24 x46 k47 x48 n57 r60 r177 y185 iv_ko_1 iv_ko_3 j6 j7 j8 hm12 c17 e19 p25 j50 j51 j52 j53 j54 j55 hm59 p61 t66 p178 t181 t182 e186 c187 t208 t209 c211 c237) _ _ _ hP hD hS (lv_sub hl [0, 2, 3] rfl)
                              · refine lv_aload_n hx hb dX12_go_320 rfl (lv_at hl 3 rfl) ?_
                                refine lv_bipush (v := nI 10) hx hb dX12_go_321 (by decide) ?_
                                refine lv_aload_n hx hb dX12_go_323 rfl (lv_at hl 3 rfl) ?_
                                refine va_get (D := (dC, dI)) (ci := 12) (v := .int x48) (C := RX12) (T := TX12) (N := 52) hx hb hts hin12 hown hK hP 0 rfl rfl 8 (by decide) (hts (.fieldLink RX12 47 "PorridgeSeaModel" "number" "I") (List.mem_of_getElem? (i := 9) rfl)) (fun _ h9 => h9) rfl dX12_go_324 ?_
                                refine lv_imul hx hb dX12_go_327 ?_
                                refine lv_topi (fun y238 e239 => ?_)
                                refine lv_iload hx hb dX12_go_328 (lv_at hl 1 rfl) ?_
                                obtain ⟨n240, h241, e242⟩ := nat_of y185 123 (by decide) (lf_x_goP_133 ksize kto ktapeF k5 n10 y18 r24 x46 k47 x48 n57 r60 r177 y185 y238 iv_ko_1 iv_ko_3 j6 j7 j8 hm12 c17 e19 p25 j50 j51 j52 j53 j54 j55 hm59 p61 t66 p178 t181 t182 e186 c187 t208 t209 c211 c237 e239)
                                have f243 : 97 ≤ n240 := (lf_x_goP_134 ksize kto ktapeF k5 n10 y18 r24 x46 k47 x48 n57 r60 r177 y185 y238 n240 iv_ko_1 iv_ko_3 j6 j7 j8 hm12 c17 e19 p25 j50 j51 j52 j53 j54 j55 hm59 p61 t66 p178 t181 t182 e186 c187 t208 t209 c211 c237 e239 h241 e242)
                                rw [e242]
                                refine lv_iadd hx hb dX12_go_330 ?_
                                refine lv_topi (fun y244 e245 => ?_)
                                refine lv_bipush (v := nI 48) hx hb dX12_go_331 (by decide) ?_
                                refine lv_isub hx hb dX12_go_333 ?_
                                refine lv_topi (fun y246 e247 => ?_)
                                refine va_put (D := (dC, dI)) (ci := 12) (v := .int y246) (ty := .int) (C := RX12) (T := TX12) (N := 52) hx hb hts hin12 tyX12 tyX12_ok nmX12 hown hK hP hD hS 0 rfl rfl 8 (by decide) (hts (.fieldLink RX12 47 "PorridgeSeaModel" "number" "I") (List.mem_of_getElem? (i := 9) rfl)) (fun _ h9 => h9) rfl (by decide +kernel) rfl rfl (Nat.le_of_ble_eq_true rfl) dX12_go_334 (fun H locs hP hD hS => ?_)
                                have hP : va_P (dC, dI) vwCl [(o, .inr (12, [.int kthrown, .ref ktape, .int (nI ktaped), .int (nI ksize), .int (nI klimit), .int (nI k47), .int (nI k5), .int kkind, .int y246, .int ksign, .int kfault, .int kplace, .long w235, .int ktold, .ref know, .ref kread, .ref kkept, .ref ksnaps, .ref kaside, .ref kname, .ref kreadName, .ref kkeptName, .ref kisKept, .ref konces, .int (nI ksnapMany), .int khasCells, .ref kpoured, .ref kfar, .ref ksides, .int (nI ksideMany), .int kwayDays, .int khasWay, .ref klines, .ref kmet, .int (nI kmetMany), .ref ksunk, .ref ktrying, .int (nI ksunkMany), .int ksending, .int kfleets, .ref ktext, .int (nI ktexts), .int kseed, .ref kline, .ref kwritten, .int (nI klineMany), .int khasWritten, .ref knode, .int (nI knodes), .int (nI konesMany), .int (nI kwithin), .int (nI ktop)])), (ktape, .inl (ky 0, 940, .inl ktapeF))] H := hP
                                have hD : va_D A [(o, .inr (12, [.int kthrown, .ref ktape, .int (nI ktaped), .int (nI ksize), .int (nI klimit), .int (nI k47), .int (nI k5), .int kkind, .int y246, .int ksign, .int kfault, .int kplace, .long w235, .int ktold, .ref know, .ref kread, .ref kkept, .ref ksnaps, .ref kaside, .ref kname, .ref kreadName, .ref kkeptName, .ref kisKept, .ref konces, .int (nI ksnapMany), .int khasCells, .ref kpoured, .ref kfar, .ref ksides, .int (nI ksideMany), .int kwayDays, .int khasWay, .ref klines, .ref kmet, .int (nI kmetMany), .ref ksunk, .ref ktrying, .int (nI ksunkMany), .int ksending, .int kfleets, .ref ktext, .int (nI ktexts), .int kseed, .ref kline, .ref kwritten, .int (nI klineMany), .int khasWritten, .ref knode, .int (nI knodes), .int (nI konesMany), .int (nI kwithin), .int (nI ktop)])), (ktape, .inl (ky 0, 940, .inl ktapeF))] := hD
                                refine lv_aload_n hx hb dX12_go_337 rfl (lv_at hl 3 rfl) ?_
                                refine lv_dup hx hb dX12_go_338 rfl ?_
                                refine va_get (D := (dC, dI)) (ci := 12) (v := .int (nI k47)) (C := RX12) (T := TX12) (N := 52) hx hb hts hin12 hown hK hP 0 rfl rfl 5 (by decide) (hts (.fieldLink RX12 21 "PorridgeSeaModel" "to" "I") (List.mem_of_getElem? (i := 1) rfl)) (fun _ h9 => h9) rfl dX12_go_339 ?_
                                refine lv_iconst (v := nI 1) hx hb dX12_go_342 (by decide) ?_
                                refine lv_iadd hx hb dX12_go_343 ?_
                                refine r_ti (nI (k47 + 1)) (nI_add _ _) ?_
                                refine va_put (D := (dC, dI)) (ci := 12) (v := .int (nI (k47 + 1))) (ty := .int) (C := RX12) (T := TX12) (N := 52) hx hb hts hin12 tyX12 tyX12_ok nmX12 hown hK hP hD hS 0 rfl rfl 5 (by decide) (hts (.fieldLink RX12 21 "PorridgeSeaModel" "to" "I") (List.mem_of_getElem? (i := 1) rfl)) (fun _ h9 => h9) rfl (by decide +kernel) rfl rfl (Nat.le_of_ble_eq_true rfl) dX12_go_344 (fun H locs hP hD hS => ?_)
                                have hP : va_P (dC, dI) vwCl [(o, .inr (12, [.int kthrown, .ref ktape, .int (nI ktaped), .int (nI ksize), .int (nI klimit), .int (nI (k47 + 1)), .int (nI k5), .int kkind, .int y246, .int ksign, .int kfault, .int kplace, .long w235, .int ktold, .ref know, .ref kread, .ref kkept, .ref ksnaps, .ref kaside, .ref kname, .ref kreadName, .ref kkeptName, .ref kisKept, .ref konces, .int (nI ksnapMany), .int khasCells, .ref kpoured, .ref kfar, .ref ksides, .int (nI ksideMany), .int kwayDays, .int khasWay, .ref klines, .ref kmet, .int (nI kmetMany), .ref ksunk, .ref ktrying, .int (nI ksunkMany), .int ksending, .int kfleets, .ref ktext, .int (nI ktexts), .int kseed, .ref kline, .ref kwritten, .int (nI klineMany), .int khasWritten, .ref knode, .int (nI knodes), .int (nI konesMany), .int (nI kwithin), .int (nI ktop)])), (ktape, .inl (ky 0, 940, .inl ktapeF))] H := hP
                                have hD : va_D A [(o, .inr (12, [.int kthrown, .ref ktape, .int (nI ktaped), .int (nI ksize), .int (nI klimit), .int (nI (k47 + 1)), .int (nI k5), .int kkind, .int y246, .int ksign, .int kfault, .int kplace, .long w235, .int ktold, .ref know, .ref kread, .ref kkept, .ref ksnaps, .ref kaside, .ref kname, .ref kreadName, .ref kkeptName, .ref kisKept, .ref konces, .int (nI ksnapMany), .int khasCells, .ref kpoured, .ref kfar, .ref ksides, .int (nI ksideMany), .int kwayDays, .int khasWay, .ref klines, .ref kmet, .int (nI kmetMany), .ref ksunk, .ref ktrying, .int (nI ksunkMany), .int ksending, .int kfleets, .ref ktext, .int (nI ktexts), .int kseed, .ref kline, .ref kwritten, .int (nI klineMany), .int khasWritten, .ref knode, .int (nI knodes), .int (nI konesMany), .int (nI kwithin), .int (nI ktop)])), (ktape, .inl (ky 0, 940, .inl ktapeF))] := hD
                                refine lv_goto (tgt := 215) hx hb dX12_go_347 (by decide) ?_
                                exact ih58 (nI 1) (k47 + 1) y246 w235 (lf_x_goP_135) (lf_x_goP_136 ksize kto ktapeF k5 n10 y18 r24 x46 k47 x48 n57 r60 r177 y185 y238 n240 y244 y246 iv_ko_1 iv_ko_3 j6 j7 j8 hm12 c17 e19 p25 j50 j51 j52 j53 j54 j55 hm59 p61 t66 p178 t181 t182 e186 c187 t208 t209 c211 c237 e239 h241 e242 f243 e245 e247) (lf_x_goP_137 ksize kto ktapeF k5 n10 y18 r24 x46 k47 x48 n57 r60 r177 y185 y238 n240 y244 y246 iv_ko_1 iv_ko_3 j6 j7 j8 hm12 c17 e19 p25 j50 j51 j52 j53 j54 j55 hm59 p61 t66 p178 t181 t182 e186 c187 t208 t209 c211 c237 e239 h241 e242 f243 e245 e247) (lf_x_goP_138 ksize kto ktapeF k5 n10 y18 r24 x46 k47 x48 n57 r60 r177 y185 y238 n240 y244 y246 iv_ko_1 iv_ko_3 j6 j7 j8 hm12 c17 e19 p25 j50 j51 j52 j53 j54 j55 hm59 p61 t66 p178 t181 t182 e186 c187 t208 t209 c211 c237 e239 h241 e242 f243 e245 e247) (lf_x_goP_139 ksize kto ktapeF k5 n10 y18 r24 x46 k47 x48 n57 r60 r177 y185 y238 n240 y244 y246 iv_ko_1 iv_ko_3 j6 j7 j8 hm12 c17 e19 p25 j50 j51 j52 j53 j54 j55 hm59 p61 t66 p178 t181 t182 e186 c187 t208 t209 c211 c237 e239 h241 e242 f243 e245 e247) (lf_x_goP_140 ksize kto ktapeF k5 n10 y18 r24 x46 k47 x48 n57 r60 r177 y185 y238 n240 y244 y246 iv_ko_1 iv_ko_3 j6 j7 j8 hm12 c17 e19 p25 j50 j51 j52 j53 j54 j55 hm59 p61 t66 p178 t181 t182 e186 c187 t208 t209 c211 c237 e239 h241 e242 f243 e245 e247) (lf_x_goP_141 ksize kto ktapeF k5 n10 y18 r24 x46 k47 x48 n57 r60 r177 y185 y238 n240 y244 y246 iv_ko_1 iv_ko_3 j6 j7 j8 hm12 c17 e19 p25 j50 j51 j52 j53 j54 j55 hm59 p61 t66 p178 t181 t182 e186 c187 t208 t209 c211 c237 e239 h241 e242 f243 e245 e247) _ _ _ hP hD hS (lv_sub hl [0, 2, 3] rfl)
                            refine n_icmp_ge (x := (k47 - k5)) (y := 7) (tgt := 307) hx hb (by omega) (by omega) dX12_go_284 (by decide) (fun c234 => ?_) (fun c234 => ?_)
                            · exact hJ236 w49  _ _ _ hP hD hS (lv_sub hl [0, 1, 2, 3] rfl)
                            · refine lv_aload_n hx hb dX12_go_287 rfl (lv_at hl 3 rfl) ?_
                              refine lv_ldc2 (v := 27) hx hb hown (hts _ (List.mem_of_getElem? (i := 10) rfl)) dX12_go_288 ?_
                              refine lv_aload_n hx hb dX12_go_291 rfl (lv_at hl 3 rfl) ?_
                              refine va_get (D := (dC, dI)) (ci := 12) (v := .long w49) (C := RX12) (T := TX12) (N := 52) hx hb hts hin12 hown hK hP 0 rfl rfl 12 (by decide) (hts (.fieldLink RX12 43 "PorridgeSeaModel" "word" "J") (List.mem_of_getElem? (i := 8) rfl)) (fun _ h9 => h9) rfl dX12_go_292 ?_
                              refine lv_lmul hx hb dX12_go_295 ?_
                              refine lv_topl (fun w248 e249 => ?_)
                              refine lv_iload hx hb dX12_go_296 (lv_at hl 1 rfl) ?_
                              obtain ⟨w250, e251⟩ : ∃ z9 : Int64, z9 = (y185).toInt64 := ⟨_, rfl⟩
                              refine lv_i2l (v := w250) hx hb dX12_go_298 e251.symm ?_
                              refine lv_ladd hx hb dX12_go_299 ?_
                              refine lv_topl (fun w252 e253 => ?_)
                              refine lv_ldc2 (v := 96) hx hb hown (hts _ (List.mem_of_getElem? (i := 11) rfl)) dX12_go_300 ?_
                              refine lv_lsub hx hb dX12_go_303 ?_
                              refine lv_topl (fun w254 e255 => ?_)
                              refine va_put (D := (dC, dI)) (ci := 12) (v := .long w254) (ty := .long) (C := RX12) (T := TX12) (N := 52) hx hb hts hin12 tyX12 tyX12_ok nmX12 hown hK hP hD hS 0 rfl rfl 12 (by decide) (hts (.fieldLink RX12 43 "PorridgeSeaModel" "word" "J") (List.mem_of_getElem? (i := 8) rfl)) (fun _ h9 => h9) rfl (by decide +kernel) rfl rfl (Nat.le_of_ble_eq_true rfl) dX12_go_304 (fun H locs hP hD hS => ?_)
                              have hP : va_P (dC, dI) vwCl [(o, .inr (12, [.int kthrown, .ref ktape, .int (nI ktaped), .int (nI ksize), .int (nI klimit), .int (nI k47), .int (nI k5), .int kkind, .int x48, .int ksign, .int kfault, .int kplace, .long w254, .int ktold, .ref know, .ref kread, .ref kkept, .ref ksnaps, .ref kaside, .ref kname, .ref kreadName, .ref kkeptName, .ref kisKept, .ref konces, .int (nI ksnapMany), .int khasCells, .ref kpoured, .ref kfar, .ref ksides, .int (nI ksideMany), .int kwayDays, .int khasWay, .ref klines, .ref kmet, .int (nI kmetMany), .ref ksunk, .ref ktrying, .int (nI ksunkMany), .int ksending, .int kfleets, .ref ktext, .int (nI ktexts), .int kseed, .ref kline, .ref kwritten, .int (nI klineMany), .int khasWritten, .ref knode, .int (nI knodes), .int (nI konesMany), .int (nI kwithin), .int (nI ktop)])), (ktape, .inl (ky 0, 940, .inl ktapeF))] H := hP
                              have hD : va_D A [(o, .inr (12, [.int kthrown, .ref ktape, .int (nI ktaped), .int (nI ksize), .int (nI klimit), .int (nI k47), .int (nI k5), .int kkind, .int x48, .int ksign, .int kfault, .int kplace, .long w254, .int ktold, .ref know, .ref kread, .ref kkept, .ref ksnaps, .ref kaside, .ref kname, .ref kreadName, .ref kkeptName, .ref kisKept, .ref konces, .int (nI ksnapMany), .int khasCells, .ref kpoured, .ref kfar, .ref ksides, .int (nI ksideMany), .int kwayDays, .int khasWay, .ref klines, .ref kmet, .int (nI kmetMany), .ref ksunk, .ref ktrying, .int (nI ksunkMany), .int ksending, .int kfleets, .ref ktext, .int (nI ktexts), .int kseed, .ref kline, .ref kwritten, .int (nI klineMany), .int khasWritten, .ref knode, .int (nI knodes), .int (nI konesMany), .int (nI kwithin), .int (nI ktop)])), (ktape, .inl (ky 0, 940, .inl ktapeF))] := hD
                              exact hJ236 w254  _ _ _ hP hD hS (lv_sub hl [0, 1, 2, 3] rfl)
                        · refine lv_iload_n hx hb dX12_go_263 rfl (lv_at hl 2 rfl) ?_
                          refine lv_icmp_ne (tgt := 271) hx hb dX12_go_264 (by decide) (fun c256 => ?_) (fun c256 => ?_)
                          · refine lv_iconst (v := nI 0) hx hb dX12_go_271 (by decide) ?_
                            refine lv_istore_n (lv' := [(3, .int (nI 0)), (4, .int y185), (2, .int r24), (0, .ref o)]) hx hb dX12_go_272 rfl hl (by decide) rfl (fun ls hl => ?_)
                            refine lv_aload_n hx hb dX12_go_273 rfl (lv_at hl 3 rfl) ?_
                            refine va_get (D := (dC, dI)) (ci := 12) (v := .int (nI k47)) (C := RX12) (T := TX12) (N := 52) hx hb hts hin12 hown hK hP 0 rfl rfl 5 (by decide) (hts (.fieldLink RX12 21 "PorridgeSeaModel" "to" "I") (List.mem_of_getElem? (i := 1) rfl)) (fun _ h9 => h9) rfl dX12_go_274 ?_
                            refine lv_aload_n hx hb dX12_go_277 rfl (lv_at hl 3 rfl) ?_
                            refine va_get (D := (dC, dI)) (ci := 12) (v := .int (nI k5)) (C := RX12) (T := TX12) (N := 52) hx hb hts hin12 hown hK hP 0 rfl rfl 6 (by decide) (hts (.fieldLink RX12 24 "PorridgeSeaModel" "from" "I") (List.mem_of_getElem? (i := 4) rfl)) (fun _ h9 => h9) rfl dX12_go_278 ?_
                            refine lv_isub hx hb dX12_go_281 ?_
                            refine r_ti (nI (k47 - k5)) (pk_sub (lf_x_goP_142 ksize kto ktapeF k5 n10 y18 r24 x46 k47 x48 n57 r60 r177 y185 iv_ko_1 iv_ko_3 j6 j7 j8 hm12 c17 e19 p25 j50 j51 j52 j53 j54 j55 hm59 p61 t66 p178 t181 t182 e186 c187 t210 c256)) ?_
                            refine lv_bipush (v := nI 7) hx hb dX12_go_282 (by decide) ?_
                            have hJ259 : ∀ (w258 : Int64), ∀ (H : Heap) (locs : List Loc) (ls : Array Slot), va_P (dC, dI) vwCl [(o, .inr (12, [.int kthrown, .ref ktape, .int (nI ktaped), .int (nI ksize), .int (nI klimit), .int (nI k47), .int (nI k5), .int kkind, .int x48, .int ksign, .int kfault, .int kplace, .long w258, .int ktold, .ref know, .ref kread, .ref kkept, .ref ksnaps, .ref kaside, .ref kname, .ref kreadName, .ref kkeptName, .ref kisKept, .ref konces, .int (nI ksnapMany), .int khasCells, .ref kpoured, .ref kfar, .ref ksides, .int (nI ksideMany), .int kwayDays, .int khasWay, .ref klines, .ref kmet, .int (nI kmetMany), .ref ksunk, .ref ktrying, .int (nI ksunkMany), .int ksending, .int kfleets, .ref ktext, .int (nI ktexts), .int kseed, .ref kline, .ref kwritten, .int (nI klineMany), .int khasWritten, .ref knode, .int (nI knodes), .int (nI konesMany), .int (nI kwithin), .int (nI ktop)])), (ktape, .inl (ky 0, 940, .inl ktapeF))] H → va_D A [(o, .inr (12, [.int kthrown, .ref ktape, .int (nI ktaped), .int (nI ksize), .int (nI klimit), .int (nI k47), .int (nI k5), .int kkind, .int x48, .int ksign, .int kfault, .int kplace, .long w258, .int ktold, .ref know, .ref kread, .ref kkept, .ref ksnaps, .ref kaside, .ref kname, .ref kreadName, .ref kkeptName, .ref kisKept, .ref konces, .int (nI ksnapMany), .int khasCells, .ref kpoured, .ref kfar, .ref ksides, .int (nI ksideMany), .int kwayDays, .int khasWay, .ref klines, .ref kmet, .int (nI kmetMany), .ref ksunk, .ref ktrying, .int (nI ksunkMany), .int ksending, .int kfleets, .ref ktext, .int (nI ktexts), .int kseed, .ref kline, .ref kwritten, .int (nI klineMany), .int khasWritten, .ref knode, .int (nI knodes), .int (nI konesMany), .int (nI kwithin), .int (nI ktop)])), (ktape, .inl (ky 0, 940, .inl ktapeF))] → va_S A s.heap H locs → lv_has ls 5 [(3, .int (nI 0)), (4, .int y185), (2, .int r24), (0, .ref o)] → W p l e (headSpec wsX12_go ({ frames := 1, cells := 0, slots := 0, locals := 21 })).room s m args below meth c H locs 0 0 Q (F0 m 307 ls []) := by
                              intro w258 H locs ls hP hD hS hl
                              refine lv_aload_n hx hb dX12_go_307 rfl (lv_at hl 3 rfl) ?_
                              refine va_get (D := (dC, dI)) (ci := 12) (v := .int (nI k47)) (C := RX12) (T := TX12) (N := 52) hx hb hts hin12 hown hK hP 0 rfl rfl 5 (by decide) (hts (.fieldLink RX12 21 "PorridgeSeaModel" "to" "I") (List.mem_of_getElem? (i := 1) rfl)) (fun _ h9 => h9) rfl dX12_go_308 ?_
                              refine lv_aload_n hx hb dX12_go_311 rfl (lv_at hl 3 rfl) ?_
                              refine va_get (D := (dC, dI)) (ci := 12) (v := .int (nI k5)) (C := RX12) (T := TX12) (N := 52) hx hb hts hin12 hown hK hP 0 rfl rfl 6 (by decide) (hts (.fieldLink RX12 24 "PorridgeSeaModel" "from" "I") (List.mem_of_getElem? (i := 4) rfl)) (fun _ h9 => h9) rfl dX12_go_312 ?_
                              refine lv_isub hx hb dX12_go_315 ?_
                              refine r_ti (nI (k47 - k5)) (pk_sub (lf_x_goP_143 ksize kto ktapeF k5 n10 y18 r24 x46 k47 x48 n57 r60 r177 y185 iv_ko_1 iv_ko_3 j6 j7 j8 hm12 c17 e19 p25 j50 j51 j52 j53 j54 j55 hm59 p61 t66 p178 t181 t182 e186 c187 t210 c256)) ?_
                              refine lv_iconst (v := nI 3) hx hb dX12_go_316 (by decide) ?_
                              refine n_icmp_ge (x := (k47 - k5)) (y := 3) (tgt := 337) hx hb (by omega) (by omega) dX12_go_317 (by decide) (fun c260 => ?_) (fun c260 => ?_)
                              · refine lv_aload_n hx hb dX12_go_337 rfl (lv_at hl 3 rfl) ?_
                                refine lv_dup hx hb dX12_go_338 rfl ?_
                                refine va_get (D := (dC, dI)) (ci := 12) (v := .int (nI k47)) (C := RX12) (T := TX12) (N := 52) hx hb hts hin12 hown hK hP 0 rfl rfl 5 (by decide) (hts (.fieldLink RX12 21 "PorridgeSeaModel" "to" "I") (List.mem_of_getElem? (i := 1) rfl)) (fun _ h9 => h9) rfl dX12_go_339 ?_
                                refine lv_iconst (v := nI 1) hx hb dX12_go_342 (by decide) ?_
                                refine lv_iadd hx hb dX12_go_343 ?_
                                refine r_ti (nI (k47 + 1)) (nI_add _ _) ?_
                                refine va_put (D := (dC, dI)) (ci := 12) (v := .int (nI (k47 + 1))) (ty := .int) (C := RX12) (T := TX12) (N := 52) hx hb hts hin12 tyX12 tyX12_ok nmX12 hown hK hP hD hS 0 rfl rfl 5 (by decide) (hts (.fieldLink RX12 21 "PorridgeSeaModel" "to" "I") (List.mem_of_getElem? (i := 1) rfl)) (fun _ h9 => h9) rfl (by decide +kernel) rfl rfl (Nat.le_of_ble_eq_true rfl) dX12_go_344 (fun H locs hP hD hS => ?_)
                                have hP : va_P (dC, dI) vwCl [(o, .inr (12, [.int kthrown, .ref ktape, .int (nI ktaped), .int (nI ksize), .int (nI klimit), .int (nI (k47 + 1)), .int (nI k5), .int kkind, .int x48, .int ksign, .int kfault, .int kplace, .long w258, .int ktold, .ref know, .ref kread, .ref kkept, .ref ksnaps, .ref kaside, .ref kname, .ref kreadName, .ref kkeptName, .ref kisKept, .ref konces, .int (nI ksnapMany), .int khasCells, .ref kpoured, .ref kfar, .ref ksides, .int (nI ksideMany), .int kwayDays, .int khasWay, .ref klines, .ref kmet, .int (nI kmetMany), .ref ksunk, .ref ktrying, .int (nI ksunkMany), .int ksending, .int kfleets, .ref ktext, .int (nI ktexts), .int kseed, .ref kline, .ref kwritten, .int (nI klineMany), .int khasWritten, .ref knode, .int (nI knodes), .int (nI konesMany), .int (nI kwithin), .int (nI ktop)])), (ktape, .inl (ky 0, 940, .inl ktapeF))] H := hP
                                have hD : va_D A [(o, .inr (12, [.int kthrown, .ref ktape, .int (nI ktaped), .int (nI ksize), .int (nI klimit), .int (nI (k47 + 1)), .int (nI k5), .int kkind, .int x48, .int ksign, .int kfault, .int kplace, .long w258, .int ktold, .ref know, .ref kread, .ref kkept, .ref ksnaps, .ref kaside, .ref kname, .ref kreadName, .ref kkeptName, .ref kisKept, .ref konces, .int (nI ksnapMany), .int khasCells, .ref kpoured, .ref kfar, .ref ksides, .int (nI ksideMany), .int kwayDays, .int khasWay, .ref klines, .ref kmet, .int (nI kmetMany), .ref ksunk, .ref ktrying, .int (nI ksunkMany), .int ksending, .int kfleets, .ref ktext, .int (nI ktexts), .int kseed, .ref kline, .ref kwritten, .int (nI klineMany), .int khasWritten, .ref knode, .int (nI knodes), .int (nI konesMany), .int (nI kwithin), .int (nI ktop)])), (ktape, .inl (ky 0, 940, .inl ktapeF))] := hD
                                refine lv_goto (tgt := 215) hx hb dX12_go_347 (by decide) ?_
                                exact ih58 (nI 0) (k47 + 1) x48 w258 (lf_x_goP_144) (lf_x_goP_145 ksize kto ktapeF k5 n10 y18 r24 x46 k47 x48 n57 r60 r177 y185 iv_ko_1 iv_ko_3 j6 j7 j8 hm12 c17 e19 p25 j50 j51 j52 j53 j54 j55 hm59 p61 t66 p178 t181 t182 e186 c187 t210 c256 c260) (lf_x_goP_146 ksize kto ktapeF k5 n10 y18 r24 x46 k47 x48 n57 r60 r177 y185 iv_ko_1 iv_ko_3 j6 j7 j8 hm12 c17 e19 p25 j50 j51 j52 j53 j54 j55 hm59 p61 t66 p178 t181 t182 e186 c187 t210 c256 c260) (lf_x_goP_147 ksize kto ktapeF k5 n10 y18 r24 x46 k47 x48 n57 r60 r177 y185 iv_ko_1 iv_ko_3 j6 j7 j8 hm12 c17 e19 p25 j50 j51 j52 j53 j54 j55 hm59 p61 t66 p178 t181 t182 e186 c187 t210 c256 c260) (lf_x_goP_148 ksize kto ktapeF k5 n10 y18 r24 x46 k47 x48 n57 r60 r177 y185 iv_ko_1 iv_ko_3 j6 j7 j8 hm12 c17 e19 p25 j50 j51 j52 j53 j54 j55 hm59 p61 t66 p178 t181 t182 e186 c187 t210 c256 c260) (lf_x_goP_149 ksize kto ktapeF k5 n10 y18 r24 x46 k47 x48 n57 r60 r177 y185 iv_ko_1 iv_ko_3 j6 j7 j8 hm12 c17 e19 p25 j50 j51 j52 j53 j54 j55 hm59 p61 t66 p178 t181 t182 e186 c187 t210 c256 c260) (lf_x_goP_150 ksize kto ktapeF k5 n10 y18 r24 x46 k47 x48 n57 r60 r177 y185 iv_ko_1 iv_ko_3 j6 j7 j8 hm12 c17 e19 p25 j50 j51 j52 j53 j54 j55 hm59 p61 t66 p178 t181 t182 e186 c187 t210 c256 c260) _ _ _ hP hD hS (lv_sub hl [0, 2, 3] rfl)
                              · refine lv_aload_n hx hb dX12_go_320 rfl (lv_at hl 3 rfl) ?_
                                refine lv_bipush (v := nI 10) hx hb dX12_go_321 (by decide) ?_
                                refine lv_aload_n hx hb dX12_go_323 rfl (lv_at hl 3 rfl) ?_
                                refine va_get (D := (dC, dI)) (ci := 12) (v := .int x48) (C := RX12) (T := TX12) (N := 52) hx hb hts hin12 hown hK hP 0 rfl rfl 8 (by decide) (hts (.fieldLink RX12 47 "PorridgeSeaModel" "number" "I") (List.mem_of_getElem? (i := 9) rfl)) (fun _ h9 => h9) rfl dX12_go_324 ?_
                                refine lv_imul hx hb dX12_go_327 ?_
                                refine lv_topi (fun y261 e262 => ?_)
                                refine lv_iload hx hb dX12_go_328 (lv_at hl 1 rfl) ?_
                                refine lv_iadd hx hb dX12_go_330 ?_
                                refine lv_topi (fun y263 e264 => ?_)
                                refine lv_bipush (v := nI 48) hx hb dX12_go_331 (by decide) ?_
                                refine lv_isub hx hb dX12_go_333 ?_
                                refine lv_topi (fun y265 e266 => ?_)
                                refine va_put (D := (dC, dI)) (ci := 12) (v := .int y265) (ty := .int) (C := RX12) (T := TX12) (N := 52) hx hb hts hin12 tyX12 tyX12_ok nmX12 hown hK hP hD hS 0 rfl rfl 8 (by decide) (hts (.fieldLink RX12 47 "PorridgeSeaModel" "number" "I") (List.mem_of_getElem? (i := 9) rfl)) (fun _ h9 => h9) rfl (by decide +kernel) rfl rfl (Nat.le_of_ble_eq_true rfl) dX12_go_334 (fun H locs hP hD hS => ?_)
                                have hP : va_P (dC, dI) vwCl [(o, .inr (12, [.int kthrown, .ref ktape, .int (nI ktaped), .int (nI ksize), .int (nI klimit), .int (nI k47), .int (nI k5), .int kkind, .int y265, .int ksign, .int kfault, .int kplace, .long w258, .int ktold, .ref know, .ref kread, .ref kkept, .ref ksnaps, .ref kaside, .ref kname, .ref kreadName, .ref kkeptName, .ref kisKept, .ref konces, .int (nI ksnapMany), .int khasCells, .ref kpoured, .ref kfar, .ref ksides, .int (nI ksideMany), .int kwayDays, .int khasWay, .ref klines, .ref kmet, .int (nI kmetMany), .ref ksunk, .ref ktrying, .int (nI ksunkMany), .int ksending, .int kfleets, .ref ktext, .int (nI ktexts), .int kseed, .ref kline, .ref kwritten, .int (nI klineMany), .int khasWritten, .ref knode, .int (nI knodes), .int (nI konesMany), .int (nI kwithin), .int (nI ktop)])), (ktape, .inl (ky 0, 940, .inl ktapeF))] H := hP
                                have hD : va_D A [(o, .inr (12, [.int kthrown, .ref ktape, .int (nI ktaped), .int (nI ksize), .int (nI klimit), .int (nI k47), .int (nI k5), .int kkind, .int y265, .int ksign, .int kfault, .int kplace, .long w258, .int ktold, .ref know, .ref kread, .ref kkept, .ref ksnaps, .ref kaside, .ref kname, .ref kreadName, .ref kkeptName, .ref kisKept, .ref konces, .int (nI ksnapMany), .int khasCells, .ref kpoured, .ref kfar, .ref ksides, .int (nI ksideMany), .int kwayDays, .int khasWay, .ref klines, .ref kmet, .int (nI kmetMany), .ref ksunk, .ref ktrying, .int (nI ksunkMany), .int ksending, .int kfleets, .ref ktext, .int (nI ktexts), .int kseed, .ref kline, .ref kwritten, .int (nI klineMany), .int khasWritten, .ref knode, .int (nI knodes), .int (nI konesMany), .int (nI kwithin), .int (nI ktop)])), (ktape, .inl (ky 0, 940, .inl ktapeF))] := hD
                                refine lv_aload_n hx hb dX12_go_337 rfl (lv_at hl 3 rfl) ?_
                                refine lv_dup hx hb dX12_go_338 rfl ?_
                                refine va_get (D := (dC, dI)) (ci := 12) (v := .int (nI k47)) (C := RX12) (T := TX12) (N := 52) hx hb hts hin12 hown hK hP 0 rfl rfl 5 (by decide) (hts (.fieldLink RX12 21 "PorridgeSeaModel" "to" "I") (List.mem_of_getElem? (i := 1) rfl)) (fun _ h9 => h9) rfl dX12_go_339 ?_
                                refine lv_iconst (v := nI 1) hx hb dX12_go_342 (by decide) ?_
                                refine lv_iadd hx hb dX12_go_343 ?_
                                refine r_ti (nI (k47 + 1)) (nI_add _ _) ?_
                                refine va_put (D := (dC, dI)) (ci := 12) (v := .int (nI (k47 + 1))) (ty := .int) (C := RX12) (T := TX12) (N := 52) hx hb hts hin12 tyX12 tyX12_ok nmX12 hown hK hP hD hS 0 rfl rfl 5 (by decide) (hts (.fieldLink RX12 21 "PorridgeSeaModel" "to" "I") (List.mem_of_getElem? (i := 1) rfl)) (fun _ h9 => h9) rfl (by decide +kernel) rfl rfl (Nat.le_of_ble_eq_true rfl) dX12_go_344 (fun H locs hP hD hS => ?_)
                                have hP : va_P (dC, dI) vwCl [(o, .inr (12, [.int kthrown, .ref ktape, .int (nI ktaped), .int (nI ksize), .int (nI klimit), .int (nI (k47 + 1)), .int (nI k5), .int kkind, .int y265, .int ksign, .int kfault, .int kplace, .long w258, .int ktold, .ref know, .ref kread, .ref kkept, .ref ksnaps, .ref kaside, .ref kname, .ref kreadName, .ref kkeptName, .ref kisKept, .ref konces, .int (nI ksnapMany), .int khasCells, .ref kpoured, .ref kfar, .ref ksides, .int (nI ksideMany), .int kwayDays, .int khasWay, .ref klines, .ref kmet, .int (nI kmetMany), .ref ksunk, .ref ktrying, .int (nI ksunkMany), .int ksending, .int kfleets, .ref ktext, .int (nI ktexts), .int kseed, .ref kline, .ref kwritten, .int (nI klineMany), .int khasWritten, .ref knode, .int (nI knodes), .int (nI konesMany), .int (nI kwithin), .int (nI ktop)])), (ktape, .inl (ky 0, 940, .inl ktapeF))] H := hP
                                have hD : va_D A [(o, .inr (12, [.int kthrown, .ref ktape, .int (nI ktaped), .int (nI ksize), .int (nI klimit), .int (nI (k47 + 1)), .int (nI k5), .int kkind, .int y265, .int ksign, .int kfault, .int kplace, .long w258, .int ktold, .ref know, .ref kread, .ref kkept, .ref ksnaps, .ref kaside, .ref kname, .ref kreadName, .ref kkeptName, .ref kisKept, .ref konces, .int (nI ksnapMany), .int khasCells, .ref kpoured, .ref kfar, .ref ksides, .int (nI ksideMany), .int kwayDays, .int khasWay, .ref klines, .ref kmet, .int (nI kmetMany), .ref ksunk, .ref ktrying, .int (nI ksunkMany), .int ksending, .int kfleets, .ref ktext, .int (nI ktexts), .int kseed, .ref kline, .ref kwritten, .int (nI klineMany), .int khasWritten, .ref knode, .int (nI knodes), .int (nI konesMany), .int (nI kwithin), .int (nI ktop)])), (ktape, .inl (ky 0, 940, .inl ktapeF))] := hD
                                refine lv_goto (tgt := 215) hx hb dX12_go_347 (by decide) ?_
                                exact ih58 (nI 0) (k47 + 1) y265 w258 (lf_x_goP_151) (lf_x_goP_152 ksize kto ktapeF k5 n10 y18 r24 x46 k47 x48 n57 r60 r177 y185 y261 y263 y265 iv_ko_1 iv_ko_3 j6 j7 j8 hm12 c17 e19 p25 j50 j51 j52 j53 j54 j55 hm59 p61 t66 p178 t181 t182 e186 c187 t210 c256 c260 e262 e264 e266) (lf_x_goP_153 ksize kto ktapeF k5 n10 y18 r24 x46 k47 x48 n57 r60 r177 y185 y261 y263 y265 iv_ko_1 iv_ko_3 j6 j7 j8 hm12 c17 e19 p25 j50 j51 j52 j53 j54 j55 hm59 p61 t66 p178 t181 t182 e186 c187 t210 c256 c260 e262 e264 e266) (lf_x_goP_154 ksize kto ktapeF k5 n10 y18 r24 x46 k47 x48 n57 r60 r177 y185 y261 y263 y265 iv_ko_1 iv_ko_3 j6 j7 j8 hm12 c17 e19 p25 j50 j51 j52 j53 j54 j55 hm59 p61 t66 p178 t181 t182 e186 c187 t210 c256 c260 e262 e264 e266) (lf_x_goP_155 ksize kto ktapeF k5 n10 y18 r24 x46 k47 x48 n57 r60 r177 y185 y261 y263 y265 iv_ko_1 iv_ko_3 j6 j7 j8 hm12 c17 e19 p25 j50 j51 j52 j53 j54 j55 hm59 p61 t66 p178 t181 t182 e186 c187 t210 c256 c260 e262 e264 e266) (lf_x_goP_156 ksize kto ktapeF k5 n10 y18 r24 x46 k47 x48 n57 r60 r177 y185 y261 y263 y265 iv_ko_1 iv_ko_3 j6 j7 j8 hm12 c17 e19 p25 j50 j51 j52 j53 j54 j55 hm59 p61 t66 p178 t181 t182 e186 c187 t210 c256 c260 e262 e264 e266) (lf_x_goP_157 ksize kto ktapeF k5 n10 y18 r24 x46 k47 x48 n57 r60 r177 y185 y261 y263 y265 iv_ko_1 iv_ko_3 j6 j7 j8 hm12 c17 e19 p25 j50 j51 j52 j53 j54 j55 hm59 p61 t66 p178 t181 t182 e186 c187 t210 c256 c260 e262 e264 e266) _ _ _ hP hD hS (lv_sub hl [0, 2, 3] rfl)
                            refine n_icmp_ge (x := (k47 - k5)) (y := 7) (tgt := 307) hx hb (by omega) (by omega) dX12_go_284 (by decide) (fun c257 => ?_) (fun c257 => ?_)
                            · exact hJ259 w49  _ _ _ hP hD hS (lv_sub hl [0, 1, 2, 3] rfl)
                            · refine lv_aload_n hx hb dX12_go_287 rfl (lv_at hl 3 rfl) ?_
                              refine lv_ldc2 (v := 27) hx hb hown (hts _ (List.mem_of_getElem? (i := 10) rfl)) dX12_go_288 ?_
                              refine lv_aload_n hx hb dX12_go_291 rfl (lv_at hl 3 rfl) ?_
                              refine va_get (D := (dC, dI)) (ci := 12) (v := .long w49) (C := RX12) (T := TX12) (N := 52) hx hb hts hin12 hown hK hP 0 rfl rfl 12 (by decide) (hts (.fieldLink RX12 43 "PorridgeSeaModel" "word" "J") (List.mem_of_getElem? (i := 8) rfl)) (fun _ h9 => h9) rfl dX12_go_292 ?_
                              refine lv_lmul hx hb dX12_go_295 ?_
                              refine lv_topl (fun w267 e268 => ?_)
                              refine lv_iload hx hb dX12_go_296 (lv_at hl 1 rfl) ?_
                              obtain ⟨w269, e270⟩ : ∃ z9 : Int64, z9 = (y185).toInt64 := ⟨_, rfl⟩
                              refine lv_i2l (v := w269) hx hb dX12_go_298 e270.symm ?_
                              refine lv_ladd hx hb dX12_go_299 ?_
                              refine lv_topl (fun w271 e272 => ?_)
                              refine lv_ldc2 (v := 96) hx hb hown (hts _ (List.mem_of_getElem? (i := 11) rfl)) dX12_go_300 ?_
                              refine lv_lsub hx hb dX12_go_303 ?_
                              refine lv_topl (fun w273 e274 => ?_)
                              refine va_put (D := (dC, dI)) (ci := 12) (v := .long w273) (ty := .long) (C := RX12) (T := TX12) (N := 52) hx hb hts hin12 tyX12 tyX12_ok nmX12 hown hK hP hD hS 0 rfl rfl 12 (by decide) (hts (.fieldLink RX12 43 "PorridgeSeaModel" "word" "J") (List.mem_of_getElem? (i := 8) rfl)) (fun _ h9 => h9) rfl (by decide +kernel) rfl rfl (Nat.le_of_ble_eq_true rfl) dX12_go_304 (fun H locs hP hD hS => ?_)
                              have hP : va_P (dC, dI) vwCl [(o, .inr (12, [.int kthrown, .ref ktape, .int (nI ktaped), .int (nI ksize), .int (nI klimit), .int (nI k47), .int (nI k5), .int kkind, .int x48, .int ksign, .int kfault, .int kplace, .long w273, .int ktold, .ref know, .ref kread, .ref kkept, .ref ksnaps, .ref kaside, .ref kname, .ref kreadName, .ref kkeptName, .ref kisKept, .ref konces, .int (nI ksnapMany), .int khasCells, .ref kpoured, .ref kfar, .ref ksides, .int (nI ksideMany), .int kwayDays, .int khasWay, .ref klines, .ref kmet, .int (nI kmetMany), .ref ksunk, .ref ktrying, .int (nI ksunkMany), .int ksending, .int kfleets, .ref ktext, .int (nI ktexts), .int kseed, .ref kline, .ref kwritten, .int (nI klineMany), .int khasWritten, .ref knode, .int (nI knodes), .int (nI konesMany), .int (nI kwithin), .int (nI ktop)])), (ktape, .inl (ky 0, 940, .inl ktapeF))] H := hP
                              have hD : va_D A [(o, .inr (12, [.int kthrown, .ref ktape, .int (nI ktaped), .int (nI ksize), .int (nI klimit), .int (nI k47), .int (nI k5), .int kkind, .int x48, .int ksign, .int kfault, .int kplace, .long w273, .int ktold, .ref know, .ref kread, .ref kkept, .ref ksnaps, .ref kaside, .ref kname, .ref kreadName, .ref kkeptName, .ref kisKept, .ref konces, .int (nI ksnapMany), .int khasCells, .ref kpoured, .ref kfar, .ref ksides, .int (nI ksideMany), .int kwayDays, .int khasWay, .ref klines, .ref kmet, .int (nI kmetMany), .ref ksunk, .ref ktrying, .int (nI ksunkMany), .int ksending, .int kfleets, .ref ktext, .int (nI ktexts), .int kseed, .ref kline, .ref kwritten, .int (nI klineMany), .int khasWritten, .ref knode, .int (nI knodes), .int (nI konesMany), .int (nI kwithin), .int (nI ktop)])), (ktape, .inl (ky 0, 940, .inl ktapeF))] := hD
                              exact hJ259 w273  _ _ _ hP hD hS (lv_sub hl [0, 1, 2, 3] rfl)
                          · refine lv_iconst (v := nI 1) hx hb dX12_go_267 (by decide) ?_
                            refine lv_goto (tgt := 272) hx hb dX12_go_268 (by decide) ?_
                            refine lv_istore_n (lv' := [(3, .int (nI 1)), (4, .int y185), (2, .int r24), (0, .ref o)]) hx hb dX12_go_272 rfl hl (by decide) rfl (fun ls hl => ?_)
                            refine lv_aload_n hx hb dX12_go_273 rfl (lv_at hl 3 rfl) ?_
                            refine va_get (D := (dC, dI)) (ci := 12) (v := .int (nI k47)) (C := RX12) (T := TX12) (N := 52) hx hb hts hin12 hown hK hP 0 rfl rfl 5 (by decide) (hts (.fieldLink RX12 21 "PorridgeSeaModel" "to" "I") (List.mem_of_getElem? (i := 1) rfl)) (fun _ h9 => h9) rfl dX12_go_274 ?_
                            refine lv_aload_n hx hb dX12_go_277 rfl (lv_at hl 3 rfl) ?_
                            refine va_get (D := (dC, dI)) (ci := 12) (v := .int (nI k5)) (C := RX12) (T := TX12) (N := 52) hx hb hts hin12 hown hK hP 0 rfl rfl 6 (by decide) (hts (.fieldLink RX12 24 "PorridgeSeaModel" "from" "I") (List.mem_of_getElem? (i := 4) rfl)) (fun _ h9 => h9) rfl dX12_go_278 ?_
                            refine lv_isub hx hb dX12_go_281 ?_
                            refine r_ti (nI (k47 - k5)) (pk_sub (lf_x_goP_158 ksize kto ktapeF k5 n10 y18 r24 x46 k47 x48 n57 r60 r177 y185 iv_ko_1 iv_ko_3 j6 j7 j8 hm12 c17 e19 p25 j50 j51 j52 j53 j54 j55 hm59 p61 t66 p178 t181 t182 e186 c187 t210 c256)) ?_
                            refine lv_bipush (v := nI 7) hx hb dX12_go_282 (by decide) ?_
                            have hJ277 : ∀ (w276 : Int64), ∀ (H : Heap) (locs : List Loc) (ls : Array Slot), va_P (dC, dI) vwCl [(o, .inr (12, [.int kthrown, .ref ktape, .int (nI ktaped), .int (nI ksize), .int (nI klimit), .int (nI k47), .int (nI k5), .int kkind, .int x48, .int ksign, .int kfault, .int kplace, .long w276, .int ktold, .ref know, .ref kread, .ref kkept, .ref ksnaps, .ref kaside, .ref kname, .ref kreadName, .ref kkeptName, .ref kisKept, .ref konces, .int (nI ksnapMany), .int khasCells, .ref kpoured, .ref kfar, .ref ksides, .int (nI ksideMany), .int kwayDays, .int khasWay, .ref klines, .ref kmet, .int (nI kmetMany), .ref ksunk, .ref ktrying, .int (nI ksunkMany), .int ksending, .int kfleets, .ref ktext, .int (nI ktexts), .int kseed, .ref kline, .ref kwritten, .int (nI klineMany), .int khasWritten, .ref knode, .int (nI knodes), .int (nI konesMany), .int (nI kwithin), .int (nI ktop)])), (ktape, .inl (ky 0, 940, .inl ktapeF))] H → va_D A [(o, .inr (12, [.int kthrown, .ref ktape, .int (nI ktaped), .int (nI ksize), .int (nI klimit), .int (nI k47), .int (nI k5), .int kkind, .int x48, .int ksign, .int kfault, .int kplace, .long w276, .int ktold, .ref know, .ref kread, .ref kkept, .ref ksnaps, .ref kaside, .ref kname, .ref kreadName, .ref kkeptName, .ref kisKept, .ref konces, .int (nI ksnapMany), .int khasCells, .ref kpoured, .ref kfar, .ref ksides, .int (nI ksideMany), .int kwayDays, .int khasWay, .ref klines, .ref kmet, .int (nI kmetMany), .ref ksunk, .ref ktrying, .int (nI ksunkMany), .int ksending, .int kfleets, .ref ktext, .int (nI ktexts), .int kseed, .ref kline, .ref kwritten, .int (nI klineMany), .int khasWritten, .ref knode, .int (nI knodes), .int (nI konesMany), .int (nI kwithin), .int (nI ktop)])), (ktape, .inl (ky 0, 940, .inl ktapeF))] → va_S A s.heap H locs → lv_has ls 5 [(3, .int (nI 1)), (4, .int y185), (2, .int r24), (0, .ref o)] → W p l e (headSpec wsX12_go ({ frames := 1, cells := 0, slots := 0, locals := 21 })).room s m args below meth c H locs 0 0 Q (F0 m 307 ls []) := by
                              intro w276 H locs ls hP hD hS hl
                              refine lv_aload_n hx hb dX12_go_307 rfl (lv_at hl 3 rfl) ?_
                              refine va_get (D := (dC, dI)) (ci := 12) (v := .int (nI k47)) (C := RX12) (T := TX12) (N := 52) hx hb hts hin12 hown hK hP 0 rfl rfl 5 (by decide) (hts (.fieldLink RX12 21 "PorridgeSeaModel" "to" "I") (List.mem_of_getElem? (i := 1) rfl)) (fun _ h9 => h9) rfl dX12_go_308 ?_
                              refine lv_aload_n hx hb dX12_go_311 rfl (lv_at hl 3 rfl) ?_
                              refine va_get (D := (dC, dI)) (ci := 12) (v := .int (nI k5)) (C := RX12) (T := TX12) (N := 52) hx hb hts hin12 hown hK hP 0 rfl rfl 6 (by decide) (hts (.fieldLink RX12 24 "PorridgeSeaModel" "from" "I") (List.mem_of_getElem? (i := 4) rfl)) (fun _ h9 => h9) rfl dX12_go_312 ?_
                              refine lv_isub hx hb dX12_go_315 ?_
                              refine r_ti (nI (k47 - k5)) (pk_sub (lf_x_goP_159 ksize kto ktapeF k5 n10 y18 r24 x46 k47 x48 n57 r60 r177 y185 iv_ko_1 iv_ko_3 j6 j7 j8 hm12 c17 e19 p25 j50 j51 j52 j53 j54 j55 hm59 p61 t66 p178 t181 t182 e186 c187 t210 c256)) ?_
                              refine lv_iconst (v := nI 3) hx hb dX12_go_316 (by decide) ?_
                              refine n_icmp_ge (x := (k47 - k5)) (y := 3) (tgt := 337) hx hb (by omega) (by omega) dX12_go_317 (by decide) (fun c278 => ?_) (fun c278 => ?_)
                              · refine lv_aload_n hx hb dX12_go_337 rfl (lv_at hl 3 rfl) ?_
                                refine lv_dup hx hb dX12_go_338 rfl ?_
                                refine va_get (D := (dC, dI)) (ci := 12) (v := .int (nI k47)) (C := RX12) (T := TX12) (N := 52) hx hb hts hin12 hown hK hP 0 rfl rfl 5 (by decide) (hts (.fieldLink RX12 21 "PorridgeSeaModel" "to" "I") (List.mem_of_getElem? (i := 1) rfl)) (fun _ h9 => h9) rfl dX12_go_339 ?_
                                refine lv_iconst (v := nI 1) hx hb dX12_go_342 (by decide) ?_
                                refine lv_iadd hx hb dX12_go_343 ?_
                                refine r_ti (nI (k47 + 1)) (nI_add _ _) ?_
                                refine va_put (D := (dC, dI)) (ci := 12) (v := .int (nI (k47 + 1))) (ty := .int) (C := RX12) (T := TX12) (N := 52) hx hb hts hin12 tyX12 tyX12_ok nmX12 hown hK hP hD hS 0 rfl rfl 5 (by decide) (hts (.fieldLink RX12 21 "PorridgeSeaModel" "to" "I") (List.mem_of_getElem? (i := 1) rfl)) (fun _ h9 => h9) rfl (by decide +kernel) rfl rfl (Nat.le_of_ble_eq_true rfl) dX12_go_344 (fun H locs hP hD hS => ?_)
                                have hP : va_P (dC, dI) vwCl [(o, .inr (12, [.int kthrown, .ref ktape, .int (nI ktaped), .int (nI ksize), .int (nI klimit), .int (nI (k47 + 1)), .int (nI k5), .int kkind, .int x48, .int ksign, .int kfault, .int kplace, .long w276, .int ktold, .ref know, .ref kread, .ref kkept, .ref ksnaps, .ref kaside, .ref kname, .ref kreadName, .ref kkeptName, .ref kisKept, .ref konces, .int (nI ksnapMany), .int khasCells, .ref kpoured, .ref kfar, .ref ksides, .int (nI ksideMany), .int kwayDays, .int khasWay, .ref klines, .ref kmet, .int (nI kmetMany), .ref ksunk, .ref ktrying, .int (nI ksunkMany), .int ksending, .int kfleets, .ref ktext, .int (nI ktexts), .int kseed, .ref kline, .ref kwritten, .int (nI klineMany), .int khasWritten, .ref knode, .int (nI knodes), .int (nI konesMany), .int (nI kwithin), .int (nI ktop)])), (ktape, .inl (ky 0, 940, .inl ktapeF))] H := hP
                                have hD : va_D A [(o, .inr (12, [.int kthrown, .ref ktape, .int (nI ktaped), .int (nI ksize), .int (nI klimit), .int (nI (k47 + 1)), .int (nI k5), .int kkind, .int x48, .int ksign, .int kfault, .int kplace, .long w276, .int ktold, .ref know, .ref kread, .ref kkept, .ref ksnaps, .ref kaside, .ref kname, .ref kreadName, .ref kkeptName, .ref kisKept, .ref konces, .int (nI ksnapMany), .int khasCells, .ref kpoured, .ref kfar, .ref ksides, .int (nI ksideMany), .int kwayDays, .int khasWay, .ref klines, .ref kmet, .int (nI kmetMany), .ref ksunk, .ref ktrying, .int (nI ksunkMany), .int ksending, .int kfleets, .ref ktext, .int (nI ktexts), .int kseed, .ref kline, .ref kwritten, .int (nI klineMany), .int khasWritten, .ref knode, .int (nI knodes), .int (nI konesMany), .int (nI kwithin), .int (nI ktop)])), (ktape, .inl (ky 0, 940, .inl ktapeF))] := hD
                                refine lv_goto (tgt := 215) hx hb dX12_go_347 (by decide) ?_
                                exact ih58 (nI 1) (k47 + 1) x48 w276 (lf_x_goP_160) (lf_x_goP_161 ksize kto ktapeF k5 n10 y18 r24 x46 k47 x48 n57 r60 r177 y185 iv_ko_1 iv_ko_3 j6 j7 j8 hm12 c17 e19 p25 j50 j51 j52 j53 j54 j55 hm59 p61 t66 p178 t181 t182 e186 c187 t210 c256 c278) (lf_x_goP_162 ksize kto ktapeF k5 n10 y18 r24 x46 k47 x48 n57 r60 r177 y185 iv_ko_1 iv_ko_3 j6 j7 j8 hm12 c17 e19 p25 j50 j51 j52 j53 j54 j55 hm59 p61 t66 p178 t181 t182 e186 c187 t210 c256 c278) (lf_x_goP_163 ksize kto ktapeF k5 n10 y18 r24 x46 k47 x48 n57 r60 r177 y185 iv_ko_1 iv_ko_3 j6 j7 j8 hm12 c17 e19 p25 j50 j51 j52 j53 j54 j55 hm59 p61 t66 p178 t181 t182 e186 c187 t210 c256 c278) (lf_x_goP_164 ksize kto ktapeF k5 n10 y18 r24 x46 k47 x48 n57 r60 r177 y185 iv_ko_1 iv_ko_3 j6 j7 j8 hm12 c17 e19 p25 j50 j51 j52 j53 j54 j55 hm59 p61 t66 p178 t181 t182 e186 c187 t210 c256 c278) (lf_x_goP_165 ksize kto ktapeF k5 n10 y18 r24 x46 k47 x48 n57 r60 r177 y185 iv_ko_1 iv_ko_3 j6 j7 j8 hm12 c17 e19 p25 j50 j51 j52 j53 j54 j55 hm59 p61 t66 p178 t181 t182 e186 c187 t210 c256 c278) (lf_x_goP_166 ksize kto ktapeF k5 n10 y18 r24 x46 k47 x48 n57 r60 r177 y185 iv_ko_1 iv_ko_3 j6 j7 j8 hm12 c17 e19 p25 j50 j51 j52 j53 j54 j55 hm59 p61 t66 p178 t181 t182 e186 c187 t210 c256 c278) _ _ _ hP hD hS (lv_sub hl [0, 2, 3] rfl)
                              · refine lv_aload_n hx hb dX12_go_320 rfl (lv_at hl 3 rfl) ?_
                                refine lv_bipush (v := nI 10) hx hb dX12_go_321 (by decide) ?_
                                refine lv_aload_n hx hb dX12_go_323 rfl (lv_at hl 3 rfl) ?_
                                refine va_get (D := (dC, dI)) (ci := 12) (v := .int x48) (C := RX12) (T := TX12) (N := 52) hx hb hts hin12 hown hK hP 0 rfl rfl 8 (by decide) (hts (.fieldLink RX12 47 "PorridgeSeaModel" "number" "I") (List.mem_of_getElem? (i := 9) rfl)) (fun _ h9 => h9) rfl dX12_go_324 ?_
                                refine lv_imul hx hb dX12_go_327 ?_
                                refine lv_topi (fun y279 e280 => ?_)
                                refine lv_iload hx hb dX12_go_328 (lv_at hl 1 rfl) ?_
                                refine lv_iadd hx hb dX12_go_330 ?_
                                refine lv_topi (fun y281 e282 => ?_)
                                refine lv_bipush (v := nI 48) hx hb dX12_go_331 (by decide) ?_
                                refine lv_isub hx hb dX12_go_333 ?_
                                refine lv_topi (fun y283 e284 => ?_)
                                refine va_put (D := (dC, dI)) (ci := 12) (v := .int y283) (ty := .int) (C := RX12) (T := TX12) (N := 52) hx hb hts hin12 tyX12 tyX12_ok nmX12 hown hK hP hD hS 0 rfl rfl 8 (by decide) (hts (.fieldLink RX12 47 "PorridgeSeaModel" "number" "I") (List.mem_of_getElem? (i := 9) rfl)) (fun _ h9 => h9) rfl (by decide +kernel) rfl rfl (Nat.le_of_ble_eq_true rfl) dX12_go_334 (fun H locs hP hD hS => ?_)
                                have hP : va_P (dC, dI) vwCl [(o, .inr (12, [.int kthrown, .ref ktape, .int (nI ktaped), .int (nI ksize), .int (nI klimit), .int (nI k47), .int (nI k5), .int kkind, .int y283, .int ksign, .int kfault, .int kplace, .long w276, .int ktold, .ref know, .ref kread, .ref kkept, .ref ksnaps, .ref kaside, .ref kname, .ref kreadName, .ref kkeptName, .ref kisKept, .ref konces, .int (nI ksnapMany), .int khasCells, .ref kpoured, .ref kfar, .ref ksides, .int (nI ksideMany), .int kwayDays, .int khasWay, .ref klines, .ref kmet, .int (nI kmetMany), .ref ksunk, .ref ktrying, .int (nI ksunkMany), .int ksending, .int kfleets, .ref ktext, .int (nI ktexts), .int kseed, .ref kline, .ref kwritten, .int (nI klineMany), .int khasWritten, .ref knode, .int (nI knodes), .int (nI konesMany), .int (nI kwithin), .int (nI ktop)])), (ktape, .inl (ky 0, 940, .inl ktapeF))] H := hP
                                have hD : va_D A [(o, .inr (12, [.int kthrown, .ref ktape, .int (nI ktaped), .int (nI ksize), .int (nI klimit), .int (nI k47), .int (nI k5), .int kkind, .int y283, .int ksign, .int kfault, .int kplace, .long w276, .int ktold, .ref know, .ref kread, .ref kkept, .ref ksnaps, .ref kaside, .ref kname, .ref kreadName, .ref kkeptName, .ref kisKept, .ref konces, .int (nI ksnapMany), .int khasCells, .ref kpoured, .ref kfar, .ref ksides, .int (nI ksideMany), .int kwayDays, .int khasWay, .ref klines, .ref kmet, .int (nI kmetMany), .ref ksunk, .ref ktrying, .int (nI ksunkMany), .int ksending, .int kfleets, .ref ktext, .int (nI ktexts), .int kseed, .ref kline, .ref kwritten, .int (nI klineMany), .int khasWritten, .ref knode, .int (nI knodes), .int (nI konesMany), .int (nI kwithin), .int (nI ktop)])), (ktape, .inl (ky 0, 940, .inl ktapeF))] := hD
                                refine lv_aload_n hx hb dX12_go_337 rfl (lv_at hl 3 rfl) ?_
                                refine lv_dup hx hb dX12_go_338 rfl ?_
                                refine va_get (D := (dC, dI)) (ci := 12) (v := .int (nI k47)) (C := RX12) (T := TX12) (N := 52) hx hb hts hin12 hown hK hP 0 rfl rfl 5 (by decide) (hts (.fieldLink RX12 21 "PorridgeSeaModel" "to" "I") (List.mem_of_getElem? (i := 1) rfl)) (fun _ h9 => h9) rfl dX12_go_339 ?_
                                refine lv_iconst (v := nI 1) hx hb dX12_go_342 (by decide) ?_
                                refine lv_iadd hx hb dX12_go_343 ?_
                                refine r_ti (nI (k47 + 1)) (nI_add _ _) ?_
                                refine va_put (D := (dC, dI)) (ci := 12) (v := .int (nI (k47 + 1))) (ty := .int) (C := RX12) (T := TX12) (N := 52) hx hb hts hin12 tyX12 tyX12_ok nmX12 hown hK hP hD hS 0 rfl rfl 5 (by decide) (hts (.fieldLink RX12 21 "PorridgeSeaModel" "to" "I") (List.mem_of_getElem? (i := 1) rfl)) (fun _ h9 => h9) rfl (by decide +kernel) rfl rfl (Nat.le_of_ble_eq_true rfl) dX12_go_344 (fun H locs hP hD hS => ?_)
                                have hP : va_P (dC, dI) vwCl [(o, .inr (12, [.int kthrown, .ref ktape, .int (nI ktaped), .int (nI ksize), .int (nI klimit), .int (nI (k47 + 1)), .int (nI k5), .int kkind, .int y283, .int ksign, .int kfault, .int kplace, .long w276, .int ktold, .ref know, .ref kread, .ref kkept, .ref ksnaps, .ref kaside, .ref kname, .ref kreadName, .ref kkeptName, .ref kisKept, .ref konces, .int (nI ksnapMany), .int khasCells, .ref kpoured, .ref kfar, .ref ksides, .int (nI ksideMany), .int kwayDays, .int khasWay, .ref klines, .ref kmet, .int (nI kmetMany), .ref ksunk, .ref ktrying, .int (nI ksunkMany), .int ksending, .int kfleets, .ref ktext, .int (nI ktexts), .int kseed, .ref kline, .ref kwritten, .int (nI klineMany), .int khasWritten, .ref knode, .int (nI knodes), .int (nI konesMany), .int (nI kwithin), .int (nI ktop)])), (ktape, .inl (ky 0, 940, .inl ktapeF))] H := hP
                                have hD : va_D A [(o, .inr (12, [.int kthrown, .ref ktape, .int (nI ktaped), .int (nI ksize), .int (nI klimit), .int (nI (k47 + 1)), .int (nI k5), .int kkind, .int y283, .int ksign, .int kfault, .int kplace, .long w276, .int ktold, .ref know, .ref kread, .ref kkept, .ref ksnaps, .ref kaside, .ref kname, .ref kreadName, .ref kkeptName, .ref kisKept, .ref konces, .int (nI ksnapMany), .int khasCells, .ref kpoured, .ref kfar, .ref ksides, .int (nI ksideMany), .int kwayDays, .int khasWay, .ref klines, .ref kmet, .int (nI kmetMany), .ref ksunk, .ref ktrying, .int (nI ksunkMany), .int ksending, .int kfleets, .ref ktext, .int (nI ktexts), .int kseed, .ref kline, .ref kwritten, .int (nI klineMany), .int khasWritten, .ref knode, .int (nI knodes), .int (nI konesMany), .int (nI kwithin), .int (nI ktop)])), (ktape, .inl (ky 0, 940, .inl ktapeF))] := hD
                                refine lv_goto (tgt := 215) hx hb dX12_go_347 (by decide) ?_
                                exact ih58 (nI 1) (k47 + 1) y283 w276 (lf_x_goP_167) (lf_x_goP_168 ksize kto ktapeF k5 n10 y18 r24 x46 k47 x48 n57 r60 r177 y185 y279 y281 y283 iv_ko_1 iv_ko_3 j6 j7 j8 hm12 c17 e19 p25 j50 j51 j52 j53 j54 j55 hm59 p61 t66 p178 t181 t182 e186 c187 t210 c256 c278 e280 e282 e284) (lf_x_goP_169 ksize kto ktapeF k5 n10 y18 r24 x46 k47 x48 n57 r60 r177 y185 y279 y281 y283 iv_ko_1 iv_ko_3 j6 j7 j8 hm12 c17 e19 p25 j50 j51 j52 j53 j54 j55 hm59 p61 t66 p178 t181 t182 e186 c187 t210 c256 c278 e280 e282 e284) (lf_x_goP_170 ksize kto ktapeF k5 n10 y18 r24 x46 k47 x48 n57 r60 r177 y185 y279 y281 y283 iv_ko_1 iv_ko_3 j6 j7 j8 hm12 c17 e19 p25 j50 j51 j52 j53 j54 j55 hm59 p61 t66 p178 t181 t182 e186 c187 t210 c256 c278 e280 e282 e284) (lf_x_goP_171 ksize kto ktapeF k5 n10 y18 r24 x46 k47 x48 n57 r60 r177 y185 y279 y281 y283 iv_ko_1 iv_ko_3 j6 j7 j8 hm12 c17 e19 p25 j50 j51 j52 j53 j54 j55 hm59 p61 t66 p178 t181 t182 e186 c187 t210 c256 c278 e280 e282 e284) (lf_x_goP_172 ksize kto ktapeF k5 n10 y18 r24 x46 k47 x48 n57 r60 r177 y185 y279 y281 y283 iv_ko_1 iv_ko_3 j6 j7 j8 hm12 c17 e19 p25 j50 j51 j52 j53 j54 j55 hm59 p61 t66 p178 t181 t182 e186 c187 t210 c256 c278 e280 e282 e284) (lf_x_goP_173 ksize kto ktapeF k5 n10 y18 r24 x46 k47 x48 n57 r60 r177 y185 y279 y281 y283 iv_ko_1 iv_ko_3 j6 j7 j8 hm12 c17 e19 p25 j50 j51 j52 j53 j54 j55 hm59 p61 t66 p178 t181 t182 e186 c187 t210 c256 c278 e280 e282 e284) _ _ _ hP hD hS (lv_sub hl [0, 2, 3] rfl)
                            refine n_icmp_ge (x := (k47 - k5)) (y := 7) (tgt := 307) hx hb (by omega) (by omega) dX12_go_284 (by decide) (fun c275 => ?_) (fun c275 => ?_)
                            · exact hJ277 w49  _ _ _ hP hD hS (lv_sub hl [0, 1, 2, 3] rfl)
                            · refine lv_aload_n hx hb dX12_go_287 rfl (lv_at hl 3 rfl) ?_
                              refine lv_ldc2 (v := 27) hx hb hown (hts _ (List.mem_of_getElem? (i := 10) rfl)) dX12_go_288 ?_
                              refine lv_aload_n hx hb dX12_go_291 rfl (lv_at hl 3 rfl) ?_
                              refine va_get (D := (dC, dI)) (ci := 12) (v := .long w49) (C := RX12) (T := TX12) (N := 52) hx hb hts hin12 hown hK hP 0 rfl rfl 12 (by decide) (hts (.fieldLink RX12 43 "PorridgeSeaModel" "word" "J") (List.mem_of_getElem? (i := 8) rfl)) (fun _ h9 => h9) rfl dX12_go_292 ?_
                              refine lv_lmul hx hb dX12_go_295 ?_
                              refine lv_topl (fun w285 e286 => ?_)
                              refine lv_iload hx hb dX12_go_296 (lv_at hl 1 rfl) ?_
                              obtain ⟨w287, e288⟩ : ∃ z9 : Int64, z9 = (y185).toInt64 := ⟨_, rfl⟩
                              refine lv_i2l (v := w287) hx hb dX12_go_298 e288.symm ?_
                              refine lv_ladd hx hb dX12_go_299 ?_
                              refine lv_topl (fun w289 e290 => ?_)
                              refine lv_ldc2 (v := 96) hx hb hown (hts _ (List.mem_of_getElem? (i := 11) rfl)) dX12_go_300 ?_
                              refine lv_lsub hx hb dX12_go_303 ?_
                              refine lv_topl (fun w291 e292 => ?_)
                              refine va_put (D := (dC, dI)) (ci := 12) (v := .long w291) (ty := .long) (C := RX12) (T := TX12) (N := 52) hx hb hts hin12 tyX12 tyX12_ok nmX12 hown hK hP hD hS 0 rfl rfl 12 (by decide) (hts (.fieldLink RX12 43 "PorridgeSeaModel" "word" "J") (List.mem_of_getElem? (i := 8) rfl)) (fun _ h9 => h9) rfl (by decide +kernel) rfl rfl (Nat.le_of_ble_eq_true rfl) dX12_go_304 (fun H locs hP hD hS => ?_)
                              have hP : va_P (dC, dI) vwCl [(o, .inr (12, [.int kthrown, .ref ktape, .int (nI ktaped), .int (nI ksize), .int (nI klimit), .int (nI k47), .int (nI k5), .int kkind, .int x48, .int ksign, .int kfault, .int kplace, .long w291, .int ktold, .ref know, .ref kread, .ref kkept, .ref ksnaps, .ref kaside, .ref kname, .ref kreadName, .ref kkeptName, .ref kisKept, .ref konces, .int (nI ksnapMany), .int khasCells, .ref kpoured, .ref kfar, .ref ksides, .int (nI ksideMany), .int kwayDays, .int khasWay, .ref klines, .ref kmet, .int (nI kmetMany), .ref ksunk, .ref ktrying, .int (nI ksunkMany), .int ksending, .int kfleets, .ref ktext, .int (nI ktexts), .int kseed, .ref kline, .ref kwritten, .int (nI klineMany), .int khasWritten, .ref knode, .int (nI knodes), .int (nI konesMany), .int (nI kwithin), .int (nI ktop)])), (ktape, .inl (ky 0, 940, .inl ktapeF))] H := hP
                              have hD : va_D A [(o, .inr (12, [.int kthrown, .ref ktape, .int (nI ktaped), .int (nI ksize), .int (nI klimit), .int (nI k47), .int (nI k5), .int kkind, .int x48, .int ksign, .int kfault, .int kplace, .long w291, .int ktold, .ref know, .ref kread, .ref kkept, .ref ksnaps, .ref kaside, .ref kname, .ref kreadName, .ref kkeptName, .ref kisKept, .ref konces, .int (nI ksnapMany), .int khasCells, .ref kpoured, .ref kfar, .ref ksides, .int (nI ksideMany), .int kwayDays, .int khasWay, .ref klines, .ref kmet, .int (nI kmetMany), .ref ksunk, .ref ktrying, .int (nI ksunkMany), .int ksending, .int kfleets, .ref ktext, .int (nI ktexts), .int kseed, .ref kline, .ref kwritten, .int (nI klineMany), .int khasWritten, .ref knode, .int (nI knodes), .int (nI konesMany), .int (nI kwithin), .int (nI ktop)])), (ktape, .inl (ky 0, 940, .inl ktapeF))] := hD
                              exact hJ277 w291  _ _ _ hP hD hS (lv_sub hl [0, 1, 2, 3] rfl)
                    · refine lv_if_eq (tgt := 350) hx hb dX12_go_240 (by decide) (fun c293 => ?_) (fun c293 => absurd (by decide) c293)
                      refine lv_aload_n hx hb dX12_go_350 rfl (lv_at hl 2 rfl) ?_
                      refine lv_iload_n hx hb dX12_go_351 rfl (lv_at hl 0 rfl) ?_
                      refine lv_if_eq (tgt := 377) hx hb dX12_go_352 (by decide) (fun c294 => ?_) (fun c294 => ?_)
                      · refine lv_iconst (v := nI 1) hx hb dX12_go_377 (by decide) ?_
                        refine lv_goto (tgt := 390) hx hb dX12_go_378 (by decide) ?_
                        refine va_put (D := (dC, dI)) (ci := 12) (v := .int (nI 1)) (ty := .int) (C := RX12) (T := TX12) (N := 52) hx hb hts hin12 tyX12 tyX12_ok nmX12 hown hK hP hD hS 0 rfl rfl 7 (by decide) (hts (.fieldLink RX12 30 "PorridgeSeaModel" "kind" "I") (List.mem_of_getElem? (i := 6) rfl)) (fun _ h9 => h9) rfl (by decide +kernel) rfl rfl (Nat.le_of_ble_eq_true rfl) dX12_go_390 (fun H locs hP hD hS => ?_)
                        have hP : va_P (dC, dI) vwCl [(o, .inr (12, [.int kthrown, .ref ktape, .int (nI ktaped), .int (nI ksize), .int (nI klimit), .int (nI k47), .int (nI k5), .int (nI 1), .int x48, .int ksign, .int kfault, .int kplace, .long w49, .int ktold, .ref know, .ref kread, .ref kkept, .ref ksnaps, .ref kaside, .ref kname, .ref kreadName, .ref kkeptName, .ref kisKept, .ref konces, .int (nI ksnapMany), .int khasCells, .ref kpoured, .ref kfar, .ref ksides, .int (nI ksideMany), .int kwayDays, .int khasWay, .ref klines, .ref kmet, .int (nI kmetMany), .ref ksunk, .ref ktrying, .int (nI ksunkMany), .int ksending, .int kfleets, .ref ktext, .int (nI ktexts), .int kseed, .ref kline, .ref kwritten, .int (nI klineMany), .int khasWritten, .ref knode, .int (nI knodes), .int (nI konesMany), .int (nI kwithin), .int (nI ktop)])), (ktape, .inl (ky 0, 940, .inl ktapeF))] H := hP
                        have hD : va_D A [(o, .inr (12, [.int kthrown, .ref ktape, .int (nI ktaped), .int (nI ksize), .int (nI klimit), .int (nI k47), .int (nI k5), .int (nI 1), .int x48, .int ksign, .int kfault, .int kplace, .long w49, .int ktold, .ref know, .ref kread, .ref kkept, .ref ksnaps, .ref kaside, .ref kname, .ref kreadName, .ref kkeptName, .ref kisKept, .ref konces, .int (nI ksnapMany), .int khasCells, .ref kpoured, .ref kfar, .ref ksides, .int (nI ksideMany), .int kwayDays, .int khasWay, .ref klines, .ref kmet, .int (nI kmetMany), .ref ksunk, .ref ktrying, .int (nI ksunkMany), .int ksending, .int kfleets, .ref ktext, .int (nI ktexts), .int kseed, .ref kline, .ref kwritten, .int (nI klineMany), .int khasWritten, .ref knode, .int (nI knodes), .int (nI konesMany), .int (nI kwithin), .int (nI ktop)])), (ktape, .inl (ky 0, 940, .inl ktapeF))] := hD
                        rw [hQ]
                        exact W.vret hx hb hr (fun t9 ht9 hW9 => ⟨⟨(k47, k5, nI 1, x48, ksign, w49), rfl, ⟨j52, j6, j53, (lf_x_goP_174 ksize kto ktapeF k5 n10 y18 r24 x46 k47 x48 n57 r60 r177 iv_ko_1 iv_ko_3 j6 j7 j8 hm12 c17 e19 p25 j50 j51 j52 j53 j54 j55 hm59 p61 t66 p178 t183 c294), (lf_x_goP_175 ksize kto ktapeF k5 n10 y18 r24 x46 k47 x48 n57 r60 r177 iv_ko_1 iv_ko_3 j6 j7 j8 hm12 c17 e19 p25 j50 j51 j52 j53 j54 j55 hm59 p61 t66 p178 t183 c294)⟩, by rw [ht9]; exact hP, va_K.moved hW9.alike hK, hD⟩, hS.F ht9⟩) hS.2.2 dX12_go_393
                      · refine lv_aload_n hx hb dX12_go_355 rfl (lv_at hl 2 rfl) ?_
                        refine va_get (D := (dC, dI)) (ci := 12) (v := .int (nI k47)) (C := RX12) (T := TX12) (N := 52) hx hb hts hin12 hown hK hP 0 rfl rfl 5 (by decide) (hts (.fieldLink RX12 21 "PorridgeSeaModel" "to" "I") (List.mem_of_getElem? (i := 1) rfl)) (fun _ h9 => h9) rfl dX12_go_356 ?_
                        refine lv_aload_n hx hb dX12_go_359 rfl (lv_at hl 2 rfl) ?_
                        refine va_get (D := (dC, dI)) (ci := 12) (v := .int (nI k5)) (C := RX12) (T := TX12) (N := 52) hx hb hts hin12 hown hK hP 0 rfl rfl 6 (by decide) (hts (.fieldLink RX12 24 "PorridgeSeaModel" "from" "I") (List.mem_of_getElem? (i := 4) rfl)) (fun _ h9 => h9) rfl dX12_go_360 ?_
                        refine lv_isub hx hb dX12_go_363 ?_
                        refine r_ti (nI (k47 - k5)) (pk_sub (lf_x_goP_176 ksize kto ktapeF k5 n10 y18 r24 x46 k47 x48 n57 r60 r177 iv_ko_1 iv_ko_3 j6 j7 j8 hm12 c17 e19 p25 j50 j51 j52 j53 j54 j55 hm59 p61 t66 p178 t183 c294)) ?_
                        refine lv_iload_n hx hb dX12_go_364 rfl (lv_at hl 1 rfl) ?_
                        refine lv_if_eq (tgt := 373) hx hb dX12_go_365 (by decide) (fun c295 => ?_) (fun c295 => ?_)
                        · refine lv_iconst (v := nI 3) hx hb dX12_go_373 (by decide) ?_
                          refine n_icmp_le (x := (k47 - k5)) (y := 3) (tgt := 381) hx hb (by omega) (by omega) dX12_go_374 (by decide) (fun c296 => ?_) (fun c296 => ?_)
                          · refine lv_iload_n hx hb dX12_go_381 rfl (lv_at hl 1 rfl) ?_
                            refine lv_if_eq (tgt := 389) hx hb dX12_go_382 (by decide) (fun c297 => ?_) (fun c297 => absurd c295 c297)
                            refine lv_iconst (v := nI 3) hx hb dX12_go_389 (by decide) ?_
                            refine va_put (D := (dC, dI)) (ci := 12) (v := .int (nI 3)) (ty := .int) (C := RX12) (T := TX12) (N := 52) hx hb hts hin12 tyX12 tyX12_ok nmX12 hown hK hP hD hS 0 rfl rfl 7 (by decide) (hts (.fieldLink RX12 30 "PorridgeSeaModel" "kind" "I") (List.mem_of_getElem? (i := 6) rfl)) (fun _ h9 => h9) rfl (by decide +kernel) rfl rfl (Nat.le_of_ble_eq_true rfl) dX12_go_390 (fun H locs hP hD hS => ?_)
                            have hP : va_P (dC, dI) vwCl [(o, .inr (12, [.int kthrown, .ref ktape, .int (nI ktaped), .int (nI ksize), .int (nI klimit), .int (nI k47), .int (nI k5), .int (nI 3), .int x48, .int ksign, .int kfault, .int kplace, .long w49, .int ktold, .ref know, .ref kread, .ref kkept, .ref ksnaps, .ref kaside, .ref kname, .ref kreadName, .ref kkeptName, .ref kisKept, .ref konces, .int (nI ksnapMany), .int khasCells, .ref kpoured, .ref kfar, .ref ksides, .int (nI ksideMany), .int kwayDays, .int khasWay, .ref klines, .ref kmet, .int (nI kmetMany), .ref ksunk, .ref ktrying, .int (nI ksunkMany), .int ksending, .int kfleets, .ref ktext, .int (nI ktexts), .int kseed, .ref kline, .ref kwritten, .int (nI klineMany), .int khasWritten, .ref knode, .int (nI knodes), .int (nI konesMany), .int (nI kwithin), .int (nI ktop)])), (ktape, .inl (ky 0, 940, .inl ktapeF))] H := hP
                            have hD : va_D A [(o, .inr (12, [.int kthrown, .ref ktape, .int (nI ktaped), .int (nI ksize), .int (nI klimit), .int (nI k47), .int (nI k5), .int (nI 3), .int x48, .int ksign, .int kfault, .int kplace, .long w49, .int ktold, .ref know, .ref kread, .ref kkept, .ref ksnaps, .ref kaside, .ref kname, .ref kreadName, .ref kkeptName, .ref kisKept, .ref konces, .int (nI ksnapMany), .int khasCells, .ref kpoured, .ref kfar, .ref ksides, .int (nI ksideMany), .int kwayDays, .int khasWay, .ref klines, .ref kmet, .int (nI kmetMany), .ref ksunk, .ref ktrying, .int (nI ksunkMany), .int ksending, .int kfleets, .ref ktext, .int (nI ktexts), .int kseed, .ref kline, .ref kwritten, .int (nI klineMany), .int khasWritten, .ref knode, .int (nI knodes), .int (nI konesMany), .int (nI kwithin), .int (nI ktop)])), (ktape, .inl (ky 0, 940, .inl ktapeF))] := hD
                            rw [hQ]
                            exact W.vret hx hb hr (fun t9 ht9 hW9 => ⟨⟨(k47, k5, nI 3, x48, ksign, w49), rfl, ⟨j52, j6, j53, (lf_x_goP_177 ksize kto ktapeF k5 n10 y18 r24 x46 k47 x48 n57 r60 r177 iv_ko_1 iv_ko_3 j6 j7 j8 hm12 c17 e19 p25 j50 j51 j52 j53 j54 j55 hm59 p61 t66 p178 t183 c294 c295 c296), (lf_x_goP_178 ksize kto ktapeF k5 n10 y18 r24 x46 k47 x48 n57 r60 r177 iv_ko_1 iv_ko_3 j6 j7 j8 hm12 c17 e19 p25 j50 j51 j52 j53 j54 j55 hm59 p61 t66 p178 t183 c294 c295 c296)⟩, by rw [ht9]; exact hP, va_K.moved hW9.alike hK, hD⟩, hS.F ht9⟩) hS.2.2 dX12_go_393
                          · refine lv_iconst (v := nI 1) hx hb dX12_go_377 (by decide) ?_
                            refine lv_goto (tgt := 390) hx hb dX12_go_378 (by decide) ?_
                            refine va_put (D := (dC, dI)) (ci := 12) (v := .int (nI 1)) (ty := .int) (C := RX12) (T := TX12) (N := 52) hx hb hts hin12 tyX12 tyX12_ok nmX12 hown hK hP hD hS 0 rfl rfl 7 (by decide) (hts (.fieldLink RX12 30 "PorridgeSeaModel" "kind" "I") (List.mem_of_getElem? (i := 6) rfl)) (fun _ h9 => h9) rfl (by decide +kernel) rfl rfl (Nat.le_of_ble_eq_true rfl) dX12_go_390 (fun H locs hP hD hS => ?_)
                            have hP : va_P (dC, dI) vwCl [(o, .inr (12, [.int kthrown, .ref ktape, .int (nI ktaped), .int (nI ksize), .int (nI klimit), .int (nI k47), .int (nI k5), .int (nI 1), .int x48, .int ksign, .int kfault, .int kplace, .long w49, .int ktold, .ref know, .ref kread, .ref kkept, .ref ksnaps, .ref kaside, .ref kname, .ref kreadName, .ref kkeptName, .ref kisKept, .ref konces, .int (nI ksnapMany), .int khasCells, .ref kpoured, .ref kfar, .ref ksides, .int (nI ksideMany), .int kwayDays, .int khasWay, .ref klines, .ref kmet, .int (nI kmetMany), .ref ksunk, .ref ktrying, .int (nI ksunkMany), .int ksending, .int kfleets, .ref ktext, .int (nI ktexts), .int kseed, .ref kline, .ref kwritten, .int (nI klineMany), .int khasWritten, .ref knode, .int (nI knodes), .int (nI konesMany), .int (nI kwithin), .int (nI ktop)])), (ktape, .inl (ky 0, 940, .inl ktapeF))] H := hP
                            have hD : va_D A [(o, .inr (12, [.int kthrown, .ref ktape, .int (nI ktaped), .int (nI ksize), .int (nI klimit), .int (nI k47), .int (nI k5), .int (nI 1), .int x48, .int ksign, .int kfault, .int kplace, .long w49, .int ktold, .ref know, .ref kread, .ref kkept, .ref ksnaps, .ref kaside, .ref kname, .ref kreadName, .ref kkeptName, .ref kisKept, .ref konces, .int (nI ksnapMany), .int khasCells, .ref kpoured, .ref kfar, .ref ksides, .int (nI ksideMany), .int kwayDays, .int khasWay, .ref klines, .ref kmet, .int (nI kmetMany), .ref ksunk, .ref ktrying, .int (nI ksunkMany), .int ksending, .int kfleets, .ref ktext, .int (nI ktexts), .int kseed, .ref kline, .ref kwritten, .int (nI klineMany), .int khasWritten, .ref knode, .int (nI knodes), .int (nI konesMany), .int (nI kwithin), .int (nI ktop)])), (ktape, .inl (ky 0, 940, .inl ktapeF))] := hD
                            rw [hQ]
                            exact W.vret hx hb hr (fun t9 ht9 hW9 => ⟨⟨(k47, k5, nI 1, x48, ksign, w49), rfl, ⟨j52, j6, j53, (lf_x_goP_179 ksize kto ktapeF k5 n10 y18 r24 x46 k47 x48 n57 r60 r177 iv_ko_1 iv_ko_3 j6 j7 j8 hm12 c17 e19 p25 j50 j51 j52 j53 j54 j55 hm59 p61 t66 p178 t183 c294 c295 c296), (lf_x_goP_180 ksize kto ktapeF k5 n10 y18 r24 x46 k47 x48 n57 r60 r177 iv_ko_1 iv_ko_3 j6 j7 j8 hm12 c17 e19 p25 j50 j51 j52 j53 j54 j55 hm59 p61 t66 p178 t183 c294 c295 c296)⟩, by rw [ht9]; exact hP, va_K.moved hW9.alike hK, hD⟩, hS.F ht9⟩) hS.2.2 dX12_go_393
                        · refine lv_bipush (v := nI 7) hx hb dX12_go_368 (by decide) ?_
                          refine lv_goto (tgt := 374) hx hb dX12_go_370 (by decide) ?_
                          refine n_icmp_le (x := (k47 - k5)) (y := 7) (tgt := 381) hx hb (by omega) (by omega) dX12_go_374 (by decide) (fun c298 => ?_) (fun c298 => ?_)
                          · refine lv_iload_n hx hb dX12_go_381 rfl (lv_at hl 1 rfl) ?_
                            refine lv_if_eq (tgt := 389) hx hb dX12_go_382 (by decide) (fun c299 => absurd c299 c295) (fun c299 => ?_)
                            refine lv_iconst (v := nI 2) hx hb dX12_go_385 (by decide) ?_
                            refine lv_goto (tgt := 390) hx hb dX12_go_386 (by decide) ?_
                            refine va_put (D := (dC, dI)) (ci := 12) (v := .int (nI 2)) (ty := .int) (C := RX12) (T := TX12) (N := 52) hx hb hts hin12 tyX12 tyX12_ok nmX12 hown hK hP hD hS 0 rfl rfl 7 (by decide) (hts (.fieldLink RX12 30 "PorridgeSeaModel" "kind" "I") (List.mem_of_getElem? (i := 6) rfl)) (fun _ h9 => h9) rfl (by decide +kernel) rfl rfl (Nat.le_of_ble_eq_true rfl) dX12_go_390 (fun H locs hP hD hS => ?_)
                            have hP : va_P (dC, dI) vwCl [(o, .inr (12, [.int kthrown, .ref ktape, .int (nI ktaped), .int (nI ksize), .int (nI klimit), .int (nI k47), .int (nI k5), .int (nI 2), .int x48, .int ksign, .int kfault, .int kplace, .long w49, .int ktold, .ref know, .ref kread, .ref kkept, .ref ksnaps, .ref kaside, .ref kname, .ref kreadName, .ref kkeptName, .ref kisKept, .ref konces, .int (nI ksnapMany), .int khasCells, .ref kpoured, .ref kfar, .ref ksides, .int (nI ksideMany), .int kwayDays, .int khasWay, .ref klines, .ref kmet, .int (nI kmetMany), .ref ksunk, .ref ktrying, .int (nI ksunkMany), .int ksending, .int kfleets, .ref ktext, .int (nI ktexts), .int kseed, .ref kline, .ref kwritten, .int (nI klineMany), .int khasWritten, .ref knode, .int (nI knodes), .int (nI konesMany), .int (nI kwithin), .int (nI ktop)])), (ktape, .inl (ky 0, 940, .inl ktapeF))] H := hP
                            have hD : va_D A [(o, .inr (12, [.int kthrown, .ref ktape, .int (nI ktaped), .int (nI ksize), .int (nI klimit), .int (nI k47), .int (nI k5), .int (nI 2), .int x48, .int ksign, .int kfault, .int kplace, .long w49, .int ktold, .ref know, .ref kread, .ref kkept, .ref ksnaps, .ref kaside, .ref kname, .ref kreadName, .ref kkeptName, .ref kisKept, .ref konces, .int (nI ksnapMany), .int khasCells, .ref kpoured, .ref kfar, .ref ksides, .int (nI ksideMany), .int kwayDays, .int khasWay, .ref klines, .ref kmet, .int (nI kmetMany), .ref ksunk, .ref ktrying, .int (nI ksunkMany), .int ksending, .int kfleets, .ref ktext, .int (nI ktexts), .int kseed, .ref kline, .ref kwritten, .int (nI klineMany), .int khasWritten, .ref knode, .int (nI knodes), .int (nI konesMany), .int (nI kwithin), .int (nI ktop)])), (ktape, .inl (ky 0, 940, .inl ktapeF))] := hD
                            rw [hQ]
                            exact W.vret hx hb hr (fun t9 ht9 hW9 => ⟨⟨(k47, k5, nI 2, x48, ksign, w49), rfl, ⟨j52, j6, j53, (lf_x_goP_181 ksize kto ktapeF k5 n10 y18 r24 x46 k47 x48 n57 r60 r177 iv_ko_1 iv_ko_3 j6 j7 j8 hm12 c17 e19 p25 j50 j51 j52 j53 j54 j55 hm59 p61 t66 p178 t183 c294 c295 c298), (lf_x_goP_182 ksize kto ktapeF k5 n10 y18 r24 x46 k47 x48 n57 r60 r177 iv_ko_1 iv_ko_3 j6 j7 j8 hm12 c17 e19 p25 j50 j51 j52 j53 j54 j55 hm59 p61 t66 p178 t183 c294 c295 c298)⟩, by rw [ht9]; exact hP, va_K.moved hW9.alike hK, hD⟩, hS.F ht9⟩) hS.2.2 dX12_go_393
                          · refine lv_iconst (v := nI 1) hx hb dX12_go_377 (by decide) ?_
                            refine lv_goto (tgt := 390) hx hb dX12_go_378 (by decide) ?_
                            refine va_put (D := (dC, dI)) (ci := 12) (v := .int (nI 1)) (ty := .int) (C := RX12) (T := TX12) (N := 52) hx hb hts hin12 tyX12 tyX12_ok nmX12 hown hK hP hD hS 0 rfl rfl 7 (by decide) (hts (.fieldLink RX12 30 "PorridgeSeaModel" "kind" "I") (List.mem_of_getElem? (i := 6) rfl)) (fun _ h9 => h9) rfl (by decide +kernel) rfl rfl (Nat.le_of_ble_eq_true rfl) dX12_go_390 (fun H locs hP hD hS => ?_)
                            have hP : va_P (dC, dI) vwCl [(o, .inr (12, [.int kthrown, .ref ktape, .int (nI ktaped), .int (nI ksize), .int (nI klimit), .int (nI k47), .int (nI k5), .int (nI 1), .int x48, .int ksign, .int kfault, .int kplace, .long w49, .int ktold, .ref know, .ref kread, .ref kkept, .ref ksnaps, .ref kaside, .ref kname, .ref kreadName, .ref kkeptName, .ref kisKept, .ref konces, .int (nI ksnapMany), .int khasCells, .ref kpoured, .ref kfar, .ref ksides, .int (nI ksideMany), .int kwayDays, .int khasWay, .ref klines, .ref kmet, .int (nI kmetMany), .ref ksunk, .ref ktrying, .int (nI ksunkMany), .int ksending, .int kfleets, .ref ktext, .int (nI ktexts), .int kseed, .ref kline, .ref kwritten, .int (nI klineMany), .int khasWritten, .ref knode, .int (nI knodes), .int (nI konesMany), .int (nI kwithin), .int (nI ktop)])), (ktape, .inl (ky 0, 940, .inl ktapeF))] H := hP
                            have hD : va_D A [(o, .inr (12, [.int kthrown, .ref ktape, .int (nI ktaped), .int (nI ksize), .int (nI klimit), .int (nI k47), .int (nI k5), .int (nI 1), .int x48, .int ksign, .int kfault, .int kplace, .long w49, .int ktold, .ref know, .ref kread, .ref kkept, .ref ksnaps, .ref kaside, .ref kname, .ref kreadName, .ref kkeptName, .ref kisKept, .ref konces, .int (nI ksnapMany), .int khasCells, .ref kpoured, .ref kfar, .ref ksides, .int (nI ksideMany), .int kwayDays, .int khasWay, .ref klines, .ref kmet, .int (nI kmetMany), .ref ksunk, .ref ktrying, .int (nI ksunkMany), .int ksending, .int kfleets, .ref ktext, .int (nI ktexts), .int kseed, .ref kline, .ref kwritten, .int (nI klineMany), .int khasWritten, .ref knode, .int (nI knodes), .int (nI konesMany), .int (nI kwithin), .int (nI ktop)])), (ktape, .inl (ky 0, 940, .inl ktapeF))] := hD
                            rw [hQ]
                            exact W.vret hx hb hr (fun t9 ht9 hW9 => ⟨⟨(k47, k5, nI 1, x48, ksign, w49), rfl, ⟨j52, j6, j53, (lf_x_goP_183 ksize kto ktapeF k5 n10 y18 r24 x46 k47 x48 n57 r60 r177 iv_ko_1 iv_ko_3 j6 j7 j8 hm12 c17 e19 p25 j50 j51 j52 j53 j54 j55 hm59 p61 t66 p178 t183 c294 c295 c298), (lf_x_goP_184 ksize kto ktapeF k5 n10 y18 r24 x46 k47 x48 n57 r60 r177 iv_ko_1 iv_ko_3 j6 j7 j8 hm12 c17 e19 p25 j50 j51 j52 j53 j54 j55 hm59 p61 t66 p178 t183 c294 c295 c298)⟩, by rw [ht9]; exact hP, va_K.moved hW9.alike hK, hD⟩, hS.F ht9⟩) hS.2.2 dX12_go_393
              exact hL56 ((940 - k5) + 1) (nI 1) k5 (nI 0) 0 (lf_x_goP_185) (lf_x_goP_186 ksize kto ktapeF k5 n10 y18 iv_ko_1 iv_ko_3 j6 j7 j8 hm12 c17 e19) j7 j8 (lf_x_goP_187 ksize kto ktapeF k5 n10 y18 iv_ko_1 iv_ko_3 j6 j7 j8 hm12 c17 e19) (lf_x_goP_188 ksize kto ktapeF k5 n10 y18 r24 iv_ko_1 iv_ko_3 j6 j7 j8 hm12 c17 e19 p25) (Nat.lt_succ_self _) _ _ _ hP hD hS (lv_sub hl [0, 1, 3] rfl)
            refine lv_if_ne (tgt := 198) hx hb dX12_go_127 (by decide) (fun c22 => ?_) (fun c22 => ?_)
            · exact hJ23   _ _ _ hP hD hS (lv_sub hl [0, 1] rfl)
            · refine lv_iload_n hx hb dX12_go_130 rfl (lv_at hl 0 rfl) ?_
              refine vp_callSi (W.runS (As := [.int y18]) (rest := []) ⟨hx, hb, hml, hown, hts⟩ (c_x_isDigitB l dC dI ky y18) (va_cwS 1 hts gX12_go_X12_isDigit rfl rfl rfl (by decide +kernel) ⟨(Nat.le_of_ble_eq_true rfl), (Nat.le_of_ble_eq_true rfl)⟩) (pre_PS hK hP [] rfl) rfl rfl hl.1 rfl (lv_room (Nat.le_of_ble_eq_true rfl)) dX12_go_131 ⟨(Nat.le_of_ble_eq_true rfl), (Nat.le_of_ble_eq_true rfl)⟩) (fun r300 p301 => ?_)
              refine lv_if_ne (tgt := 198) hx hb dX12_go_134 (by decide) (fun c302 => ?_) (fun c302 => ?_)
              · exact hJ23   _ _ _ hP hD hS (lv_sub hl [0, 1] rfl)
              · refine lv_aload_n hx hb dX12_go_137 rfl (lv_at hl 1 rfl) ?_
                refine lv_iload_n hx hb dX12_go_138 rfl (lv_at hl 0 rfl) ?_
                refine lv_bipush (v := nI 59) hx hb dX12_go_139 (by decide) ?_
                have hJ306 : ∀ (x304 : Int32), (x304 = nI 1 ∨ x304 = nI 4) → ∀ (H : Heap) (locs : List Loc) (ls : Array Slot), va_P (dC, dI) vwCl [(o, .inr (12, [.int kthrown, .ref ktape, .int (nI ktaped), .int (nI ksize), .int (nI klimit), .int (nI k5), .int (nI k5), .int kkind, .int knumber, .int ksign, .int kfault, .int kplace, .long kword, .int ktold, .ref know, .ref kread, .ref kkept, .ref ksnaps, .ref kaside, .ref kname, .ref kreadName, .ref kkeptName, .ref kisKept, .ref konces, .int (nI ksnapMany), .int khasCells, .ref kpoured, .ref kfar, .ref ksides, .int (nI ksideMany), .int kwayDays, .int khasWay, .ref klines, .ref kmet, .int (nI kmetMany), .ref ksunk, .ref ktrying, .int (nI ksunkMany), .int ksending, .int kfleets, .ref ktext, .int (nI ktexts), .int kseed, .ref kline, .ref kwritten, .int (nI klineMany), .int khasWritten, .ref knode, .int (nI knodes), .int (nI konesMany), .int (nI kwithin), .int (nI ktop)])), (ktape, .inl (ky 0, 940, .inl ktapeF))] H → va_D A [(o, .inr (12, [.int kthrown, .ref ktape, .int (nI ktaped), .int (nI ksize), .int (nI klimit), .int (nI k5), .int (nI k5), .int kkind, .int knumber, .int ksign, .int kfault, .int kplace, .long kword, .int ktold, .ref know, .ref kread, .ref kkept, .ref ksnaps, .ref kaside, .ref kname, .ref kreadName, .ref kkeptName, .ref kisKept, .ref konces, .int (nI ksnapMany), .int khasCells, .ref kpoured, .ref kfar, .ref ksides, .int (nI ksideMany), .int kwayDays, .int khasWay, .ref klines, .ref kmet, .int (nI kmetMany), .ref ksunk, .ref ktrying, .int (nI ksunkMany), .int ksending, .int kfleets, .ref ktext, .int (nI ktexts), .int kseed, .ref kline, .ref kwritten, .int (nI klineMany), .int khasWritten, .ref knode, .int (nI knodes), .int (nI konesMany), .int (nI kwithin), .int (nI ktop)])), (ktape, .inl (ky 0, 940, .inl ktapeF))] → va_S A s.heap H locs → lv_has ls 5 [(1, .int y18), (0, .ref o)] → W p l e (headSpec wsX12_go ({ frames := 1, cells := 0, slots := 0, locals := 21 })).room s m args below meth c H locs 0 0 Q (F0 m 179 ls [.int x304, .ref o]) := by
                  intro x304 j305 H locs ls hP hD hS hl
                  refine va_put (D := (dC, dI)) (ci := 12) (v := .int x304) (ty := .int) (C := RX12) (T := TX12) (N := 52) hx hb hts hin12 tyX12 tyX12_ok nmX12 hown hK hP hD hS 0 rfl rfl 7 (by decide) (hts (.fieldLink RX12 30 "PorridgeSeaModel" "kind" "I") (List.mem_of_getElem? (i := 6) rfl)) (fun _ h9 => h9) rfl (by decide +kernel) rfl rfl (Nat.le_of_ble_eq_true rfl) dX12_go_179 (fun H locs hP hD hS => ?_)
                  have hP : va_P (dC, dI) vwCl [(o, .inr (12, [.int kthrown, .ref ktape, .int (nI ktaped), .int (nI ksize), .int (nI klimit), .int (nI k5), .int (nI k5), .int x304, .int knumber, .int ksign, .int kfault, .int kplace, .long kword, .int ktold, .ref know, .ref kread, .ref kkept, .ref ksnaps, .ref kaside, .ref kname, .ref kreadName, .ref kkeptName, .ref kisKept, .ref konces, .int (nI ksnapMany), .int khasCells, .ref kpoured, .ref kfar, .ref ksides, .int (nI ksideMany), .int kwayDays, .int khasWay, .ref klines, .ref kmet, .int (nI kmetMany), .ref ksunk, .ref ktrying, .int (nI ksunkMany), .int ksending, .int kfleets, .ref ktext, .int (nI ktexts), .int kseed, .ref kline, .ref kwritten, .int (nI klineMany), .int khasWritten, .ref knode, .int (nI knodes), .int (nI konesMany), .int (nI kwithin), .int (nI ktop)])), (ktape, .inl (ky 0, 940, .inl ktapeF))] H := hP
                  have hD : va_D A [(o, .inr (12, [.int kthrown, .ref ktape, .int (nI ktaped), .int (nI ksize), .int (nI klimit), .int (nI k5), .int (nI k5), .int x304, .int knumber, .int ksign, .int kfault, .int kplace, .long kword, .int ktold, .ref know, .ref kread, .ref kkept, .ref ksnaps, .ref kaside, .ref kname, .ref kreadName, .ref kkeptName, .ref kisKept, .ref konces, .int (nI ksnapMany), .int khasCells, .ref kpoured, .ref kfar, .ref ksides, .int (nI ksideMany), .int kwayDays, .int khasWay, .ref klines, .ref kmet, .int (nI kmetMany), .ref ksunk, .ref ktrying, .int (nI ksunkMany), .int ksending, .int kfleets, .ref ktext, .int (nI ktexts), .int kseed, .ref kline, .ref kwritten, .int (nI klineMany), .int khasWritten, .ref knode, .int (nI knodes), .int (nI konesMany), .int (nI kwithin), .int (nI ktop)])), (ktape, .inl (ky 0, 940, .inl ktapeF))] := hD
                  refine lv_aload_n hx hb dX12_go_182 rfl (lv_at hl 1 rfl) ?_
                  refine lv_iload_n hx hb dX12_go_183 rfl (lv_at hl 0 rfl) ?_
                  refine va_put (D := (dC, dI)) (ci := 12) (v := .int y18) (ty := .int) (C := RX12) (T := TX12) (N := 52) hx hb hts hin12 tyX12 tyX12_ok nmX12 hown hK hP hD hS 0 rfl rfl 9 (by decide) (hts (.fieldLink RX12 40 "PorridgeSeaModel" "sign" "I") (List.mem_of_getElem? (i := 7) rfl)) (fun _ h9 => h9) rfl (by decide +kernel) rfl rfl (Nat.le_of_ble_eq_true rfl) dX12_go_184 (fun H locs hP hD hS => ?_)
                  have hP : va_P (dC, dI) vwCl [(o, .inr (12, [.int kthrown, .ref ktape, .int (nI ktaped), .int (nI ksize), .int (nI klimit), .int (nI k5), .int (nI k5), .int x304, .int knumber, .int y18, .int kfault, .int kplace, .long kword, .int ktold, .ref know, .ref kread, .ref kkept, .ref ksnaps, .ref kaside, .ref kname, .ref kreadName, .ref kkeptName, .ref kisKept, .ref konces, .int (nI ksnapMany), .int khasCells, .ref kpoured, .ref kfar, .ref ksides, .int (nI ksideMany), .int kwayDays, .int khasWay, .ref klines, .ref kmet, .int (nI kmetMany), .ref ksunk, .ref ktrying, .int (nI ksunkMany), .int ksending, .int kfleets, .ref ktext, .int (nI ktexts), .int kseed, .ref kline, .ref kwritten, .int (nI klineMany), .int khasWritten, .ref knode, .int (nI knodes), .int (nI konesMany), .int (nI kwithin), .int (nI ktop)])), (ktape, .inl (ky 0, 940, .inl ktapeF))] H := hP
                  have hD : va_D A [(o, .inr (12, [.int kthrown, .ref ktape, .int (nI ktaped), .int (nI ksize), .int (nI klimit), .int (nI k5), .int (nI k5), .int x304, .int knumber, .int y18, .int kfault, .int kplace, .long kword, .int ktold, .ref know, .ref kread, .ref kkept, .ref ksnaps, .ref kaside, .ref kname, .ref kreadName, .ref kkeptName, .ref kisKept, .ref konces, .int (nI ksnapMany), .int khasCells, .ref kpoured, .ref kfar, .ref ksides, .int (nI ksideMany), .int kwayDays, .int khasWay, .ref klines, .ref kmet, .int (nI kmetMany), .ref ksunk, .ref ktrying, .int (nI ksunkMany), .int ksending, .int kfleets, .ref ktext, .int (nI ktexts), .int kseed, .ref kline, .ref kwritten, .int (nI klineMany), .int khasWritten, .ref knode, .int (nI knodes), .int (nI konesMany), .int (nI kwithin), .int (nI ktop)])), (ktape, .inl (ky 0, 940, .inl ktapeF))] := hD
                  refine lv_aload_n hx hb dX12_go_187 rfl (lv_at hl 1 rfl) ?_
                  refine lv_dup hx hb dX12_go_188 rfl ?_
                  refine va_get (D := (dC, dI)) (ci := 12) (v := .int (nI k5)) (C := RX12) (T := TX12) (N := 52) hx hb hts hin12 hown hK hP 0 rfl rfl 5 (by decide) (hts (.fieldLink RX12 21 "PorridgeSeaModel" "to" "I") (List.mem_of_getElem? (i := 1) rfl)) (fun _ h9 => h9) rfl dX12_go_189 ?_
                  refine lv_iconst (v := nI 1) hx hb dX12_go_192 (by decide) ?_
                  refine lv_iadd hx hb dX12_go_193 ?_
                  refine r_ti (nI (k5 + 1)) (nI_add _ _) ?_
                  refine va_put (D := (dC, dI)) (ci := 12) (v := .int (nI (k5 + 1))) (ty := .int) (C := RX12) (T := TX12) (N := 52) hx hb hts hin12 tyX12 tyX12_ok nmX12 hown hK hP hD hS 0 rfl rfl 5 (by decide) (hts (.fieldLink RX12 21 "PorridgeSeaModel" "to" "I") (List.mem_of_getElem? (i := 1) rfl)) (fun _ h9 => h9) rfl (by decide +kernel) rfl rfl (Nat.le_of_ble_eq_true rfl) dX12_go_194 (fun H locs hP hD hS => ?_)
                  have hP : va_P (dC, dI) vwCl [(o, .inr (12, [.int kthrown, .ref ktape, .int (nI ktaped), .int (nI ksize), .int (nI klimit), .int (nI (k5 + 1)), .int (nI k5), .int x304, .int knumber, .int y18, .int kfault, .int kplace, .long kword, .int ktold, .ref know, .ref kread, .ref kkept, .ref ksnaps, .ref kaside, .ref kname, .ref kreadName, .ref kkeptName, .ref kisKept, .ref konces, .int (nI ksnapMany), .int khasCells, .ref kpoured, .ref kfar, .ref ksides, .int (nI ksideMany), .int kwayDays, .int khasWay, .ref klines, .ref kmet, .int (nI kmetMany), .ref ksunk, .ref ktrying, .int (nI ksunkMany), .int ksending, .int kfleets, .ref ktext, .int (nI ktexts), .int kseed, .ref kline, .ref kwritten, .int (nI klineMany), .int khasWritten, .ref knode, .int (nI knodes), .int (nI konesMany), .int (nI kwithin), .int (nI ktop)])), (ktape, .inl (ky 0, 940, .inl ktapeF))] H := hP
                  have hD : va_D A [(o, .inr (12, [.int kthrown, .ref ktape, .int (nI ktaped), .int (nI ksize), .int (nI klimit), .int (nI (k5 + 1)), .int (nI k5), .int x304, .int knumber, .int y18, .int kfault, .int kplace, .long kword, .int ktold, .ref know, .ref kread, .ref kkept, .ref ksnaps, .ref kaside, .ref kname, .ref kreadName, .ref kkeptName, .ref kisKept, .ref konces, .int (nI ksnapMany), .int khasCells, .ref kpoured, .ref kfar, .ref ksides, .int (nI ksideMany), .int kwayDays, .int khasWay, .ref klines, .ref kmet, .int (nI kmetMany), .ref ksunk, .ref ktrying, .int (nI ksunkMany), .int ksending, .int kfleets, .ref ktext, .int (nI ktexts), .int kseed, .ref kline, .ref kwritten, .int (nI klineMany), .int khasWritten, .ref knode, .int (nI knodes), .int (nI konesMany), .int (nI kwithin), .int (nI ktop)])), (ktape, .inl (ky 0, 940, .inl ktapeF))] := hD
                  rw [hQ]
                  exact W.vret hx hb hr (fun t9 ht9 hW9 => ⟨⟨((k5 + 1), k5, x304, knumber, y18, kword), rfl, ⟨(lf_x_goP_189 ksize kto ktapeF k5 n10 y18 iv_ko_1 iv_ko_3 j6 j7 j8 hm12 c17 e19), j6, (lf_x_goP_190 ksize kto ktapeF k5 n10 y18 iv_ko_1 iv_ko_3 j6 j7 j8 hm12 c17 e19), (lf_x_goP_191 ksize kto ktapeF k5 n10 y18 x304 iv_ko_1 iv_ko_3 j6 j7 j8 hm12 c17 e19 j305), (lf_x_goP_192 knumber x304 j305)⟩, by rw [ht9]; exact hP, va_K.moved hW9.alike hK, hD⟩, hS.F ht9⟩) hS.2.2 dX12_go_197
                refine lv_icmp_eq (tgt := 174) hx hb dX12_go_141 (by decide) (fun c303 => ?_) (fun c303 => ?_)
                · refine lv_iconst (v := nI 4) hx hb dX12_go_174 (by decide) ?_
                  refine lv_goto (tgt := 179) hx hb dX12_go_175 (by decide) ?_
                  exact hJ306 (nI 4) (lf_x_goP_193) _ _ _ hP hD hS (lv_sub hl [0, 1] rfl)
                · refine lv_iload_n hx hb dX12_go_144 rfl (lv_at hl 0 rfl) ?_
                  refine lv_bipush (v := nI 60) hx hb dX12_go_145 (by decide) ?_
                  refine lv_icmp_eq (tgt := 174) hx hb dX12_go_147 (by decide) (fun c307 => ?_) (fun c307 => ?_)
                  · refine lv_iconst (v := nI 4) hx hb dX12_go_174 (by decide) ?_
                    refine lv_goto (tgt := 179) hx hb dX12_go_175 (by decide) ?_
                    exact hJ306 (nI 4) (lf_x_goP_194) _ _ _ hP hD hS (lv_sub hl [0, 1] rfl)
                  · refine lv_iload_n hx hb dX12_go_150 rfl (lv_at hl 0 rfl) ?_
                    refine lv_bipush (v := nI 61) hx hb dX12_go_151 (by decide) ?_
                    refine lv_icmp_eq (tgt := 174) hx hb dX12_go_153 (by decide) (fun c308 => ?_) (fun c308 => ?_)
                    · refine lv_iconst (v := nI 4) hx hb dX12_go_174 (by decide) ?_
                      refine lv_goto (tgt := 179) hx hb dX12_go_175 (by decide) ?_
                      exact hJ306 (nI 4) (lf_x_goP_195) _ _ _ hP hD hS (lv_sub hl [0, 1] rfl)
                    · refine lv_iload_n hx hb dX12_go_156 rfl (lv_at hl 0 rfl) ?_
                      refine lv_bipush (v := nI 62) hx hb dX12_go_157 (by decide) ?_
                      refine lv_icmp_eq (tgt := 174) hx hb dX12_go_159 (by decide) (fun c309 => ?_) (fun c309 => ?_)
                      · refine lv_iconst (v := nI 4) hx hb dX12_go_174 (by decide) ?_
                        refine lv_goto (tgt := 179) hx hb dX12_go_175 (by decide) ?_
                        exact hJ306 (nI 4) (lf_x_goP_196) _ _ _ hP hD hS (lv_sub hl [0, 1] rfl)
                      · refine lv_iload_n hx hb dX12_go_162 rfl (lv_at hl 0 rfl) ?_
                        refine lv_bipush (v := nI 40) hx hb dX12_go_163 (by decide) ?_
                        refine lv_icmp_eq (tgt := 174) hx hb dX12_go_165 (by decide) (fun c310 => ?_) (fun c310 => ?_)
                        · refine lv_iconst (v := nI 4) hx hb dX12_go_174 (by decide) ?_
                          refine lv_goto (tgt := 179) hx hb dX12_go_175 (by decide) ?_
                          exact hJ306 (nI 4) (lf_x_goP_197) _ _ _ hP hD hS (lv_sub hl [0, 1] rfl)
                        · refine lv_iload_n hx hb dX12_go_168 rfl (lv_at hl 0 rfl) ?_
                          refine lv_bipush (v := nI 41) hx hb dX12_go_169 (by decide) ?_
                          refine lv_icmp_ne (tgt := 178) hx hb dX12_go_171 (by decide) (fun c311 => ?_) (fun c311 => ?_)
                          · refine lv_iconst (v := nI 1) hx hb dX12_go_178 (by decide) ?_
                            exact hJ306 (nI 1) (lf_x_goP_198) _ _ _ hP hD hS (lv_sub hl [0, 1] rfl)
                          · refine lv_iconst (v := nI 4) hx hb dX12_go_174 (by decide) ?_
                            refine lv_goto (tgt := 179) hx hb dX12_go_175 (by decide) ?_
                            exact hJ306 (nI 4) (lf_x_goP_199) _ _ _ hP hD hS (lv_sub hl [0, 1] rfl)
          · refine lv_aload_n hx hb dX12_go_107 rfl (lv_at hl 0 rfl) ?_
            refine lv_iconst (v := nI 0) hx hb dX12_go_108 (by decide) ?_
            refine va_put (D := (dC, dI)) (ci := 12) (v := .int (nI 0)) (ty := .int) (C := RX12) (T := TX12) (N := 52) hx hb hts hin12 tyX12 tyX12_ok nmX12 hown hK hP hD hS 0 rfl rfl 7 (by decide) (hts (.fieldLink RX12 30 "PorridgeSeaModel" "kind" "I") (List.mem_of_getElem? (i := 6) rfl)) (fun _ h9 => h9) rfl (by decide +kernel) rfl rfl (Nat.le_of_ble_eq_true rfl) dX12_go_109 (fun H locs hP hD hS => ?_)
            have hP : va_P (dC, dI) vwCl [(o, .inr (12, [.int kthrown, .ref ktape, .int (nI ktaped), .int (nI ksize), .int (nI klimit), .int (nI k5), .int (nI k5), .int (nI 0), .int knumber, .int ksign, .int kfault, .int kplace, .long kword, .int ktold, .ref know, .ref kread, .ref kkept, .ref ksnaps, .ref kaside, .ref kname, .ref kreadName, .ref kkeptName, .ref kisKept, .ref konces, .int (nI ksnapMany), .int khasCells, .ref kpoured, .ref kfar, .ref ksides, .int (nI ksideMany), .int kwayDays, .int khasWay, .ref klines, .ref kmet, .int (nI kmetMany), .ref ksunk, .ref ktrying, .int (nI ksunkMany), .int ksending, .int kfleets, .ref ktext, .int (nI ktexts), .int kseed, .ref kline, .ref kwritten, .int (nI klineMany), .int khasWritten, .ref knode, .int (nI knodes), .int (nI konesMany), .int (nI kwithin), .int (nI ktop)])), (ktape, .inl (ky 0, 940, .inl ktapeF))] H := hP
            have hD : va_D A [(o, .inr (12, [.int kthrown, .ref ktape, .int (nI ktaped), .int (nI ksize), .int (nI klimit), .int (nI k5), .int (nI k5), .int (nI 0), .int knumber, .int ksign, .int kfault, .int kplace, .long kword, .int ktold, .ref know, .ref kread, .ref kkept, .ref ksnaps, .ref kaside, .ref kname, .ref kreadName, .ref kkeptName, .ref kisKept, .ref konces, .int (nI ksnapMany), .int khasCells, .ref kpoured, .ref kfar, .ref ksides, .int (nI ksideMany), .int kwayDays, .int khasWay, .ref klines, .ref kmet, .int (nI kmetMany), .ref ksunk, .ref ktrying, .int (nI ksunkMany), .int ksending, .int kfleets, .ref ktext, .int (nI ktexts), .int kseed, .ref kline, .ref kwritten, .int (nI klineMany), .int khasWritten, .ref knode, .int (nI knodes), .int (nI konesMany), .int (nI kwithin), .int (nI ktop)])), (ktape, .inl (ky 0, 940, .inl ktapeF))] := hD
            rw [hQ]
            exact W.vret hx hb hr (fun t9 ht9 hW9 => ⟨⟨(k5, k5, nI 0, knumber, ksign, kword), rfl, ⟨j7, j6, j8, (lf_x_goP_200 ksize kto k5 n10 iv_ko_1 iv_ko_3 j6 j7 j8 hm12 c17), (lf_x_goP_201 knumber)⟩, by rw [ht9]; exact hP, va_K.moved hW9.alike hK, hD⟩, hS.F ht9⟩) hS.2.2 dX12_go_112
        refine n_icmp_le (x := ksize) (y := klimit) (tgt := 96) hx hb (by omega) (by omega) dX12_go_68 (by decide) (fun c15 => ?_) (fun c15 => ?_)
        · exact hJ16   _ _ _ hP hD hS (lv_sub hl [0] rfl)
        · refine lv_aload_n hx hb dX12_go_71 rfl (lv_at hl 0 rfl) ?_
          refine va_get (D := (dC, dI)) (ci := 12) (v := .int (nI k5)) (C := RX12) (T := TX12) (N := 52) hx hb hts hin12 hown hK hP 0 rfl rfl 6 (by decide) (hts (.fieldLink RX12 24 "PorridgeSeaModel" "from" "I") (List.mem_of_getElem? (i := 4) rfl)) (fun _ h9 => h9) rfl dX12_go_72 ?_
          refine lv_aload_n hx hb dX12_go_75 rfl (lv_at hl 0 rfl) ?_
          refine va_get (D := (dC, dI)) (ci := 12) (v := .int (nI klimit)) (C := RX12) (T := TX12) (N := 52) hx hb hts hin12 hown hK hP 0 rfl rfl 4 (by decide) (hts (.fieldLink RX12 27 "PorridgeSeaModel" "limit" "I") (List.mem_of_getElem? (i := 5) rfl)) (fun _ h9 => h9) rfl dX12_go_76 ?_
          refine n_icmp_lt (x := k5) (y := klimit) (tgt := 96) hx hb (by omega) (by omega) dX12_go_79 (by decide) (fun c312 => ?_) (fun c312 => ?_)
          · exact hJ16   _ _ _ hP hD hS (lv_sub hl [0] rfl)
          · refine lv_aload_n hx hb dX12_go_82 rfl (lv_at hl 0 rfl) ?_
            refine lv_aload_n hx hb dX12_go_83 rfl (lv_at hl 0 rfl) ?_
            refine va_get (D := (dC, dI)) (ci := 12) (v := .int (nI klimit)) (C := RX12) (T := TX12) (N := 52) hx hb hts hin12 hown hK hP 0 rfl rfl 4 (by decide) (hts (.fieldLink RX12 27 "PorridgeSeaModel" "limit" "I") (List.mem_of_getElem? (i := 5) rfl)) (fun _ h9 => h9) rfl dX12_go_84 ?_
            refine va_put (D := (dC, dI)) (ci := 12) (v := .int (nI klimit)) (ty := .int) (C := RX12) (T := TX12) (N := 52) hx hb hts hin12 tyX12 tyX12_ok nmX12 hown hK hP hD hS 0 rfl rfl 6 (by decide) (hts (.fieldLink RX12 24 "PorridgeSeaModel" "from" "I") (List.mem_of_getElem? (i := 4) rfl)) (fun _ h9 => h9) rfl (by decide +kernel) rfl rfl (Nat.le_of_ble_eq_true rfl) dX12_go_87 (fun H locs hP hD hS => ?_)
            have hP : va_P (dC, dI) vwCl [(o, .inr (12, [.int kthrown, .ref ktape, .int (nI ktaped), .int (nI ksize), .int (nI klimit), .int (nI k5), .int (nI klimit), .int kkind, .int knumber, .int ksign, .int kfault, .int kplace, .long kword, .int ktold, .ref know, .ref kread, .ref kkept, .ref ksnaps, .ref kaside, .ref kname, .ref kreadName, .ref kkeptName, .ref kisKept, .ref konces, .int (nI ksnapMany), .int khasCells, .ref kpoured, .ref kfar, .ref ksides, .int (nI ksideMany), .int kwayDays, .int khasWay, .ref klines, .ref kmet, .int (nI kmetMany), .ref ksunk, .ref ktrying, .int (nI ksunkMany), .int ksending, .int kfleets, .ref ktext, .int (nI ktexts), .int kseed, .ref kline, .ref kwritten, .int (nI klineMany), .int khasWritten, .ref knode, .int (nI knodes), .int (nI konesMany), .int (nI kwithin), .int (nI ktop)])), (ktape, .inl (ky 0, 940, .inl ktapeF))] H := hP
            have hD : va_D A [(o, .inr (12, [.int kthrown, .ref ktape, .int (nI ktaped), .int (nI ksize), .int (nI klimit), .int (nI k5), .int (nI klimit), .int kkind, .int knumber, .int ksign, .int kfault, .int kplace, .long kword, .int ktold, .ref know, .ref kread, .ref kkept, .ref ksnaps, .ref kaside, .ref kname, .ref kreadName, .ref kkeptName, .ref kisKept, .ref konces, .int (nI ksnapMany), .int khasCells, .ref kpoured, .ref kfar, .ref ksides, .int (nI ksideMany), .int kwayDays, .int khasWay, .ref klines, .ref kmet, .int (nI kmetMany), .ref ksunk, .ref ktrying, .int (nI ksunkMany), .int ksending, .int kfleets, .ref ktext, .int (nI ktexts), .int kseed, .ref kline, .ref kwritten, .int (nI klineMany), .int khasWritten, .ref knode, .int (nI knodes), .int (nI konesMany), .int (nI kwithin), .int (nI ktop)])), (ktape, .inl (ky 0, 940, .inl ktapeF))] := hD
            refine lv_aload_n hx hb dX12_go_90 rfl (lv_at hl 0 rfl) ?_
            refine lv_iconst (v := nI 1) hx hb dX12_go_91 (by decide) ?_
            refine va_put (D := (dC, dI)) (ci := 12) (v := .int (nI 1)) (ty := .int) (C := RX12) (T := TX12) (N := 52) hx hb hts hin12 tyX12 tyX12_ok nmX12 hown hK hP hD hS 0 rfl rfl 7 (by decide) (hts (.fieldLink RX12 30 "PorridgeSeaModel" "kind" "I") (List.mem_of_getElem? (i := 6) rfl)) (fun _ h9 => h9) rfl (by decide +kernel) rfl rfl (Nat.le_of_ble_eq_true rfl) dX12_go_92 (fun H locs hP hD hS => ?_)
            have hP : va_P (dC, dI) vwCl [(o, .inr (12, [.int kthrown, .ref ktape, .int (nI ktaped), .int (nI ksize), .int (nI klimit), .int (nI k5), .int (nI klimit), .int (nI 1), .int knumber, .int ksign, .int kfault, .int kplace, .long kword, .int ktold, .ref know, .ref kread, .ref kkept, .ref ksnaps, .ref kaside, .ref kname, .ref kreadName, .ref kkeptName, .ref kisKept, .ref konces, .int (nI ksnapMany), .int khasCells, .ref kpoured, .ref kfar, .ref ksides, .int (nI ksideMany), .int kwayDays, .int khasWay, .ref klines, .ref kmet, .int (nI kmetMany), .ref ksunk, .ref ktrying, .int (nI ksunkMany), .int ksending, .int kfleets, .ref ktext, .int (nI ktexts), .int kseed, .ref kline, .ref kwritten, .int (nI klineMany), .int khasWritten, .ref knode, .int (nI knodes), .int (nI konesMany), .int (nI kwithin), .int (nI ktop)])), (ktape, .inl (ky 0, 940, .inl ktapeF))] H := hP
            have hD : va_D A [(o, .inr (12, [.int kthrown, .ref ktape, .int (nI ktaped), .int (nI ksize), .int (nI klimit), .int (nI k5), .int (nI klimit), .int (nI 1), .int knumber, .int ksign, .int kfault, .int kplace, .long kword, .int ktold, .ref know, .ref kread, .ref kkept, .ref ksnaps, .ref kaside, .ref kname, .ref kreadName, .ref kkeptName, .ref kisKept, .ref konces, .int (nI ksnapMany), .int khasCells, .ref kpoured, .ref kfar, .ref ksides, .int (nI ksideMany), .int kwayDays, .int khasWay, .ref klines, .ref kmet, .int (nI kmetMany), .ref ksunk, .ref ktrying, .int (nI ksunkMany), .int ksending, .int kfleets, .ref ktext, .int (nI ktexts), .int kseed, .ref kline, .ref kwritten, .int (nI klineMany), .int khasWritten, .ref knode, .int (nI knodes), .int (nI konesMany), .int (nI kwithin), .int (nI ktop)])), (ktape, .inl (ky 0, 940, .inl ktapeF))] := hD
            rw [hQ]
            exact W.vret hx hb hr (fun t9 ht9 hW9 => ⟨⟨(k5, klimit, nI 1, knumber, ksign, kword), rfl, ⟨j7, (lf_x_goP_202 ksize klimit kto k5 n10 iv_ko_1 iv_ko_2 iv_ko_3 j6 j7 j8 hm12 c15 c312), j8, (lf_x_goP_203 ksize klimit kto k5 n10 iv_ko_1 iv_ko_2 iv_ko_3 j6 j7 j8 hm12 c15 c312), (lf_x_goP_204 knumber)⟩, by rw [ht9]; exact hP, va_K.moved hW9.alike hK, hD⟩, hS.F ht9⟩) hS.2.2 dX12_go_95
      refine n_icmp_ge (x := k5) (y := ksize) (tgt := 52) hx hb (by omega) (by omega) dX12_go_8 (by decide) (fun c13 => ?_) (fun c13 => ?_)
      · exact hJ14   _ _ _ hP hD hS (lv_sub hl [0] rfl)
      · refine lv_aload_n hx hb dX12_go_11 rfl (lv_at hl 0 rfl) ?_
        refine va_get (D := (dC, dI)) (ci := 12) (v := .ref ktape) (C := RX12) (T := TX12) (N := 52) hx hb hts hin12 hown hK hP 0 rfl rfl 1 (by decide) (hts (.fieldLink RX12 7 "PorridgeSeaModel" "tape" "[I") (List.mem_of_getElem? (i := 3) rfl)) (fun _ h9 => h9) rfl dX12_go_12 ?_
        refine lv_aload_n hx hb dX12_go_15 rfl (lv_at hl 0 rfl) ?_
        refine va_get (D := (dC, dI)) (ci := 12) (v := .int (nI k5)) (C := RX12) (T := TX12) (N := 52) hx hb hts hin12 hown hK hP 0 rfl rfl 5 (by decide) (hts (.fieldLink RX12 21 "PorridgeSeaModel" "to" "I") (List.mem_of_getElem? (i := 1) rfl)) (fun _ h9 => h9) rfl dX12_go_16 ?_
        obtain ⟨y313, e314⟩ : ∃ z9, z9 = ktapeF k5 := ⟨_, rfl⟩
        refine r_iald hx hb hK hP 1 rfl k5 (lf_x_goP_205 ksize kto ktapeF k5 n10 y313 iv_ko_1 iv_ko_3 j6 j7 j8 hm12 c13 e314) (by decide) y313 e314.symm dX12_go_19 ?_
        refine lv_bipush (v := nI 32) hx hb dX12_go_20 (by decide) ?_
        refine lv_icmp_eq (tgt := 39) hx hb dX12_go_22 (by decide) (fun c315 => ?_) (fun c315 => ?_)
        · refine lv_aload_n hx hb dX12_go_39 rfl (lv_at hl 0 rfl) ?_
          refine lv_dup hx hb dX12_go_40 rfl ?_
          refine va_get (D := (dC, dI)) (ci := 12) (v := .int (nI k5)) (C := RX12) (T := TX12) (N := 52) hx hb hts hin12 hown hK hP 0 rfl rfl 5 (by decide) (hts (.fieldLink RX12 21 "PorridgeSeaModel" "to" "I") (List.mem_of_getElem? (i := 1) rfl)) (fun _ h9 => h9) rfl dX12_go_41 ?_
          refine lv_iconst (v := nI 1) hx hb dX12_go_44 (by decide) ?_
          refine lv_iadd hx hb dX12_go_45 ?_
          refine r_ti (nI (k5 + 1)) (nI_add _ _) ?_
          refine va_put (D := (dC, dI)) (ci := 12) (v := .int (nI (k5 + 1))) (ty := .int) (C := RX12) (T := TX12) (N := 52) hx hb hts hin12 tyX12 tyX12_ok nmX12 hown hK hP hD hS 0 rfl rfl 5 (by decide) (hts (.fieldLink RX12 21 "PorridgeSeaModel" "to" "I") (List.mem_of_getElem? (i := 1) rfl)) (fun _ h9 => h9) rfl (by decide +kernel) rfl rfl (Nat.le_of_ble_eq_true rfl) dX12_go_46 (fun H locs hP hD hS => ?_)
          have hP : va_P (dC, dI) vwCl [(o, .inr (12, [.int kthrown, .ref ktape, .int (nI ktaped), .int (nI ksize), .int (nI klimit), .int (nI (k5 + 1)), .int (nI kfrom), .int kkind, .int knumber, .int ksign, .int kfault, .int kplace, .long kword, .int ktold, .ref know, .ref kread, .ref kkept, .ref ksnaps, .ref kaside, .ref kname, .ref kreadName, .ref kkeptName, .ref kisKept, .ref konces, .int (nI ksnapMany), .int khasCells, .ref kpoured, .ref kfar, .ref ksides, .int (nI ksideMany), .int kwayDays, .int khasWay, .ref klines, .ref kmet, .int (nI kmetMany), .ref ksunk, .ref ktrying, .int (nI ksunkMany), .int ksending, .int kfleets, .ref ktext, .int (nI ktexts), .int kseed, .ref kline, .ref kwritten, .int (nI klineMany), .int khasWritten, .ref knode, .int (nI knodes), .int (nI konesMany), .int (nI kwithin), .int (nI ktop)])), (ktape, .inl (ky 0, 940, .inl ktapeF))] H := hP
          have hD : va_D A [(o, .inr (12, [.int kthrown, .ref ktape, .int (nI ktaped), .int (nI ksize), .int (nI klimit), .int (nI (k5 + 1)), .int (nI kfrom), .int kkind, .int knumber, .int ksign, .int kfault, .int kplace, .long kword, .int ktold, .ref know, .ref kread, .ref kkept, .ref ksnaps, .ref kaside, .ref kname, .ref kreadName, .ref kkeptName, .ref kisKept, .ref konces, .int (nI ksnapMany), .int khasCells, .ref kpoured, .ref kfar, .ref ksides, .int (nI ksideMany), .int kwayDays, .int khasWay, .ref klines, .ref kmet, .int (nI kmetMany), .ref ksunk, .ref ktrying, .int (nI ksunkMany), .int ksending, .int kfleets, .ref ktext, .int (nI ktexts), .int kseed, .ref kline, .ref kwritten, .int (nI klineMany), .int khasWritten, .ref knode, .int (nI knodes), .int (nI konesMany), .int (nI kwithin), .int (nI ktop)])), (ktape, .inl (ky 0, 940, .inl ktapeF))] := hD
          refine lv_goto (tgt := 0) hx hb dX12_go_49 (by decide) ?_
          exact ih11 (k5 + 1) (lf_x_goP_206 ksize kto ktapeF k5 n10 y313 iv_ko_1 iv_ko_3 j6 j7 j8 hm12 c13 e314 c315) (lf_x_goP_207 ksize kto ktapeF k5 n10 y313 iv_ko_1 iv_ko_3 j6 j7 j8 hm12 c13 e314 c315) (lf_x_goP_208 ksize kto ktapeF k5 n10 y313 iv_ko_1 iv_ko_3 j6 j7 j8 hm12 c13 e314 c315) (lf_x_goP_209 ksize kto ktapeF k5 n10 y313 iv_ko_1 iv_ko_3 j6 j7 j8 hm12 c13 e314 c315) _ _ _ hP hD hS (lv_sub hl [0] rfl)
        · refine lv_aload_n hx hb dX12_go_25 rfl (lv_at hl 0 rfl) ?_
          refine va_get (D := (dC, dI)) (ci := 12) (v := .ref ktape) (C := RX12) (T := TX12) (N := 52) hx hb hts hin12 hown hK hP 0 rfl rfl 1 (by decide) (hts (.fieldLink RX12 7 "PorridgeSeaModel" "tape" "[I") (List.mem_of_getElem? (i := 3) rfl)) (fun _ h9 => h9) rfl dX12_go_26 ?_
          refine lv_aload_n hx hb dX12_go_29 rfl (lv_at hl 0 rfl) ?_
          refine va_get (D := (dC, dI)) (ci := 12) (v := .int (nI k5)) (C := RX12) (T := TX12) (N := 52) hx hb hts hin12 hown hK hP 0 rfl rfl 5 (by decide) (hts (.fieldLink RX12 21 "PorridgeSeaModel" "to" "I") (List.mem_of_getElem? (i := 1) rfl)) (fun _ h9 => h9) rfl dX12_go_30 ?_
          obtain ⟨y316, e317⟩ : ∃ z9, z9 = ktapeF k5 := ⟨_, rfl⟩
          refine r_iald hx hb hK hP 1 rfl k5 (lf_x_goP_210 ksize kto ktapeF k5 n10 y313 y316 iv_ko_1 iv_ko_3 j6 j7 j8 hm12 c13 e314 c315 e317) (by decide) y316 e317.symm dX12_go_33 ?_
          refine lv_bipush (v := nI 10) hx hb dX12_go_34 (by decide) ?_
          refine lv_icmp_ne (tgt := 52) hx hb dX12_go_36 (by decide) (fun c318 => ?_) (fun c318 => ?_)
          · exact hJ14   _ _ _ hP hD hS (lv_sub hl [0] rfl)
          · refine lv_aload_n hx hb dX12_go_39 rfl (lv_at hl 0 rfl) ?_
            refine lv_dup hx hb dX12_go_40 rfl ?_
            refine va_get (D := (dC, dI)) (ci := 12) (v := .int (nI k5)) (C := RX12) (T := TX12) (N := 52) hx hb hts hin12 hown hK hP 0 rfl rfl 5 (by decide) (hts (.fieldLink RX12 21 "PorridgeSeaModel" "to" "I") (List.mem_of_getElem? (i := 1) rfl)) (fun _ h9 => h9) rfl dX12_go_41 ?_
            refine lv_iconst (v := nI 1) hx hb dX12_go_44 (by decide) ?_
            refine lv_iadd hx hb dX12_go_45 ?_
            refine r_ti (nI (k5 + 1)) (nI_add _ _) ?_
            refine va_put (D := (dC, dI)) (ci := 12) (v := .int (nI (k5 + 1))) (ty := .int) (C := RX12) (T := TX12) (N := 52) hx hb hts hin12 tyX12 tyX12_ok nmX12 hown hK hP hD hS 0 rfl rfl 5 (by decide) (hts (.fieldLink RX12 21 "PorridgeSeaModel" "to" "I") (List.mem_of_getElem? (i := 1) rfl)) (fun _ h9 => h9) rfl (by decide +kernel) rfl rfl (Nat.le_of_ble_eq_true rfl) dX12_go_46 (fun H locs hP hD hS => ?_)
            have hP : va_P (dC, dI) vwCl [(o, .inr (12, [.int kthrown, .ref ktape, .int (nI ktaped), .int (nI ksize), .int (nI klimit), .int (nI (k5 + 1)), .int (nI kfrom), .int kkind, .int knumber, .int ksign, .int kfault, .int kplace, .long kword, .int ktold, .ref know, .ref kread, .ref kkept, .ref ksnaps, .ref kaside, .ref kname, .ref kreadName, .ref kkeptName, .ref kisKept, .ref konces, .int (nI ksnapMany), .int khasCells, .ref kpoured, .ref kfar, .ref ksides, .int (nI ksideMany), .int kwayDays, .int khasWay, .ref klines, .ref kmet, .int (nI kmetMany), .ref ksunk, .ref ktrying, .int (nI ksunkMany), .int ksending, .int kfleets, .ref ktext, .int (nI ktexts), .int kseed, .ref kline, .ref kwritten, .int (nI klineMany), .int khasWritten, .ref knode, .int (nI knodes), .int (nI konesMany), .int (nI kwithin), .int (nI ktop)])), (ktape, .inl (ky 0, 940, .inl ktapeF))] H := hP
            have hD : va_D A [(o, .inr (12, [.int kthrown, .ref ktape, .int (nI ktaped), .int (nI ksize), .int (nI klimit), .int (nI (k5 + 1)), .int (nI kfrom), .int kkind, .int knumber, .int ksign, .int kfault, .int kplace, .long kword, .int ktold, .ref know, .ref kread, .ref kkept, .ref ksnaps, .ref kaside, .ref kname, .ref kreadName, .ref kkeptName, .ref kisKept, .ref konces, .int (nI ksnapMany), .int khasCells, .ref kpoured, .ref kfar, .ref ksides, .int (nI ksideMany), .int kwayDays, .int khasWay, .ref klines, .ref kmet, .int (nI kmetMany), .ref ksunk, .ref ktrying, .int (nI ksunkMany), .int ksending, .int kfleets, .ref ktext, .int (nI ktexts), .int kseed, .ref kline, .ref kwritten, .int (nI klineMany), .int khasWritten, .ref knode, .int (nI knodes), .int (nI konesMany), .int (nI kwithin), .int (nI ktop)])), (ktape, .inl (ky 0, 940, .inl ktapeF))] := hD
            refine lv_goto (tgt := 0) hx hb dX12_go_49 (by decide) ?_
            exact ih11 (k5 + 1) (lf_x_goP_211 ksize kto ktapeF k5 n10 y313 y316 iv_ko_1 iv_ko_3 j6 j7 j8 hm12 c13 e314 c315 e317 c318) (lf_x_goP_212 ksize kto ktapeF k5 n10 y313 y316 iv_ko_1 iv_ko_3 j6 j7 j8 hm12 c13 e314 c315 e317 c318) (lf_x_goP_213 ksize kto ktapeF k5 n10 y313 y316 iv_ko_1 iv_ko_3 j6 j7 j8 hm12 c13 e314 c315 e317 c318) (lf_x_goP_214 ksize kto ktapeF k5 n10 y313 y316 iv_ko_1 iv_ko_3 j6 j7 j8 hm12 c13 e314 c315 e317 c318) _ _ _ hP hD hS (lv_sub hl [0] rfl)
  exact hL9 ((940 - kto) + 1) kto (lf_x_goP_215 ksize kto iv_ko_1 iv_ko_3) iv_ko_3 (lf_x_goP_216 ksize kto iv_ko_1 iv_ko_3) (Nat.lt_succ_self _) _ _ _ hP hD hS (lv_sub hl [0] rfl)
set_option maxRecDepth 20000 in
theorem lf_x_isSignE_1 (kkind : Int32) (c1 : kkind ≠ nI 4) : ((nI 0) = nI 1 ∧ (kkind = nI 4)) ∨ ((nI 0) = nI 0 ∧ (True)) := by
  have b_kkind := ia_b kkind
  try have k_0 := ia_n 4 (by first | decide | omega)
  try have k_1 := ia_n 0 (by first | decide | omega)
  try have k_2 := ia_n 1 (by first | decide | omega)
  try simp only [ia_lt, ia_le, ia_eq, ia_m1, ia_0, ia_1, ne_eq, true_and, and_true, false_and, and_false, or_false, false_or, or_true, true_or, not_true_eq_false, not_false_eq_true] at *
  all_goals omega
set_option maxRecDepth 20000 in
theorem lf_x_isSignE_2 (kkind : Int32) (c1 : kkind = nI 4) : ((nI 0) = nI 1 ∧ (kkind = nI 4)) ∨ ((nI 0) = nI 0 ∧ (True)) := by
  have b_kkind := ia_b kkind
  try have k_0 := ia_n 4 (by first | decide | omega)
  try have k_1 := ia_n 0 (by first | decide | omega)
  try have k_2 := ia_n 1 (by first | decide | omega)
  try simp only [ia_lt, ia_le, ia_eq, ia_m1, ia_0, ia_1, ne_eq, true_and, and_true, false_and, and_false, or_false, false_or, or_true, true_or, not_true_eq_false, not_false_eq_true] at *
  all_goals omega
set_option maxRecDepth 20000 in
theorem lf_x_isSignE_3 (kkind : Int32) (c1 : kkind = nI 4) : ((nI 1) = nI 1 ∧ (kkind = nI 4)) ∨ ((nI 1) = nI 0 ∧ (True)) := by
  have b_kkind := ia_b kkind
  try have k_0 := ia_n 4 (by first | decide | omega)
  try have k_1 := ia_n 1 (by first | decide | omega)
  try have k_2 := ia_n 0 (by first | decide | omega)
  try simp only [ia_lt, ia_le, ia_eq, ia_m1, ia_0, ia_1, ne_eq, true_and, and_true, false_and, and_false, or_false, false_or, or_true, true_or, not_true_eq_false, not_false_eq_true] at *
  all_goals omega
set_option maxHeartbeats 4000000 in
set_option maxRecDepth 100000 in
theorem c_x_isSignE (l : Launch) (dC : Nat → ClassId) (dI : Nat → Nat → Nat) (ky : Nat → ClassId) (o : Nat) (kthrown : Int32) (ktape : Nat) (ktaped : Nat) (ksize : Nat) (klimit : Nat) (kto : Nat) (kfrom : Nat) (kkind : Int32) (knumber : Int32) (ksign : Int32) (kfault : Int32) (kplace : Int32) (kword : Int64) (ktold : Int32) (know : Nat) (kread : Nat) (kkept : Nat) (ksnaps : Nat) (kaside : Nat) (kname : Nat) (kreadName : Nat) (kkeptName : Nat) (kisKept : Nat) (konces : Nat) (ksnapMany : Nat) (khasCells : Int32) (kpoured : Nat) (kfar : Nat) (ksides : Nat) (ksideMany : Nat) (kwayDays : Int32) (khasWay : Int32) (klines : Nat) (kmet : Nat) (kmetMany : Nat) (ksunk : Nat) (ktrying : Nat) (ksunkMany : Nat) (ksending : Int32) (kfleets : Int32) (ktext : Nat) (ktexts : Nat) (kseed : Int32) (kline : Nat) (kwritten : Nat) (klineMany : Nat) (khasWritten : Int32) (knode : Nat) (knodes : Nat) (konesMany : Nat) (kwithin : Nat) (ktop : Nat) (x : Int32) (iv_ko_0 : ktaped ≤ 940) (iv_ko_1 : ksize ≤ 940) (iv_ko_2 : klimit ≤ 900) (iv_ko_3 : kto ≤ ksize) (iv_ko_4 : kfrom ≤ 940) (iv_ko_5 : ksnapMany ≤ 8) (iv_ko_6 : ksideMany ≤ 36) (iv_ko_7 : kmetMany ≤ 3) (iv_ko_8 : ksunkMany ≤ 36) (iv_ko_9 : ktexts ≤ 64) (iv_ko_10 : klineMany ≤ 40) (iv_ko_11 : knodes ≤ 60) (iv_ko_12 : konesMany ≤ 20) (iv_ko_13 : kwithin ≤ 8) (iv_ko_14 : ktop ≤ 59) : Met l yX12_isSign wsX12_isSign ({ frames := 0, cells := 0, slots := 0, locals := 0 }) (PcP dC dI ky [.ref o, .int x] [(o, .inr (12, [.int kthrown, .ref ktape, .int (nI ktaped), .int (nI ksize), .int (nI klimit), .int (nI kto), .int (nI kfrom), .int kkind, .int knumber, .int ksign, .int kfault, .int kplace, .long kword, .int ktold, .ref know, .ref kread, .ref kkept, .ref ksnaps, .ref kaside, .ref kname, .ref kreadName, .ref kkeptName, .ref kisKept, .ref konces, .int (nI ksnapMany), .int khasCells, .ref kpoured, .ref kfar, .ref ksides, .int (nI ksideMany), .int kwayDays, .int khasWay, .ref klines, .ref kmet, .int (nI kmetMany), .ref ksunk, .ref ktrying, .int (nI ksunkMany), .int ksending, .int kfleets, .ref ktext, .int (nI ktexts), .int kseed, .ref kline, .ref kwritten, .int (nI klineMany), .int khasWritten, .ref knode, .int (nI knodes), .int (nI konesMany), .int (nI kwithin), .int (nI ktop)]))]) (vp_Si (fun r : Int32 => (r = nI 1 ∧ (kkind = nI 4)) ∨ (r = nI 0 ∧ (True)))) 0 0 (fun _ => False) := by
  refine Met.ofW (cc := cX12_isSign) (maxL := 2) (ret := (some .boolean)) (by decide) rfl ?_
  intro p e s m args below meth c s₁ B hml hv
  obtain ⟨rfl, hP, hK⟩ := hv
  have hx := B.exec
  have hb := B.bytes
  have hr := B.returns
  have hts := atoms_spec (ws := wsX12_isSign) B.pre
  have hown : s.vm.findClass RX12 = some m.cls := findClass_of_methodNamed B.named
  have hlocks := B.notSynchronized
  have hin12 : ∀ w ∈ u_ws RX12 TX12 52, w ∈ wsX12_isSign := by decide +kernel
  have hl := lv_entry ([.ref o, .int x]) (n := 2) (Nat.le_of_ble_eq_true rfl)
  rw [lg_entry_eq]
  generalize (lg_sl ([.ref o, .int x]) ++ List.replicate (2 - (lg_sl ([.ref o, .int x])).length) Slot.unset).toArray = ls at hl ⊢
  have hl : lv_has ls 2 [(0, .ref o), (1, .int x)] := hl
  refine q_name (fun Q hQ => ?_)
  generalize ([.ref o, .int x] : List Value).toArray = args at hts hQ ⊢
  refine lv_aload_n hx hb dX12_isSign_0 rfl (lv_at hl 0 rfl) ?_
  refine va_get (D := (dC, dI)) (ci := 12) (v := .int kkind) (C := RX12) (T := TX12) (N := 52) hx hb hts hin12 hown hK hP 0 rfl rfl 7 (by decide) (hts (.fieldLink RX12 30 "PorridgeSeaModel" "kind" "I") (List.mem_of_getElem? (i := 1) rfl)) (fun _ h9 => h9) rfl dX12_isSign_1 ?_
  refine lv_iconst (v := nI 4) hx hb dX12_isSign_4 (by decide) ?_
  refine lv_icmp_ne (tgt := 20) hx hb dX12_isSign_5 (by decide) (fun c1 => ?_) (fun c1 => ?_)
  · refine lv_iconst (v := nI 0) hx hb dX12_isSign_20 (by decide) ?_
    rw [hQ]
    exact W.zret (v := nI 0) hx hb hr (by decide) (fun t9 ht9 hW9 => ⟨nI 0, rfl, (lf_x_isSignE_1 kkind c1), ht9⟩) (fun _ h => absurd h List.not_mem_nil) dX12_isSign_21
  · refine lv_aload_n hx hb dX12_isSign_8 rfl (lv_at hl 0 rfl) ?_
    refine va_get (D := (dC, dI)) (ci := 12) (v := .int ksign) (C := RX12) (T := TX12) (N := 52) hx hb hts hin12 hown hK hP 0 rfl rfl 9 (by decide) (hts (.fieldLink RX12 40 "PorridgeSeaModel" "sign" "I") (List.mem_of_getElem? (i := 2) rfl)) (fun _ h9 => h9) rfl dX12_isSign_9 ?_
    refine lv_iload_n hx hb dX12_isSign_12 rfl (lv_at hl 1 rfl) ?_
    refine lv_icmp_ne (tgt := 20) hx hb dX12_isSign_13 (by decide) (fun c2 => ?_) (fun c2 => ?_)
    · refine lv_iconst (v := nI 0) hx hb dX12_isSign_20 (by decide) ?_
      rw [hQ]
      exact W.zret (v := nI 0) hx hb hr (by decide) (fun t9 ht9 hW9 => ⟨nI 0, rfl, (lf_x_isSignE_2 kkind c1), ht9⟩) (fun _ h => absurd h List.not_mem_nil) dX12_isSign_21
    · refine lv_iconst (v := nI 1) hx hb dX12_isSign_16 (by decide) ?_
      refine lv_goto (tgt := 21) hx hb dX12_isSign_17 (by decide) ?_
      rw [hQ]
      exact W.zret (v := nI 1) hx hb hr (by decide) (fun t9 ht9 hW9 => ⟨nI 1, rfl, (lf_x_isSignE_3 kkind c1), ht9⟩) (fun _ h => absurd h List.not_mem_nil) dX12_isSign_21
set_option maxRecDepth 20000 in
theorem lf_x_readNumberP_1 (ksize : Nat) (kto : Nat) (knumber : Int32) (a : Int32) (b : Int32) (ktoG_10 : Nat) (kkindG_12 : Int32) (knumberG_13 : Int32) (iv_ko_1 : ksize ≤ 940) (iv_ko_3 : kto ≤ ksize) (t4 : a.toInt ≤ knumber.toInt) (t5 : knumber.toInt ≤ b.toInt) (p16 : ktoG_10 ≤ ksize) (p18 : kto ≤ ktoG_10) (p19 : ¬ kkindG_12 = nI 4 ∨ kto < ktoG_10) (p20 : ¬ kkindG_12 = nI 3 ∨ 0 ≤ knumberG_13.toInt) : ((nI 1) = nI 1 ∧ (a.toInt ≤ knumber.toInt ∧ knumber.toInt ≤ b.toInt ∧ kto ≤ ktoG_10 ∧ (¬ kkindG_12 = nI 4 ∨ kto < ktoG_10) ∧ (¬ kkindG_12 = nI 3 ∨ 0 ≤ knumberG_13.toInt))) ∨ ((nI 1) = nI 0 ∧ (True)) := by
  have b_knumber := ia_b knumber
  have b_a := ia_b a
  have b_b := ia_b b
  have b_kkindG_12 := ia_b kkindG_12
  have b_knumberG_13 := ia_b knumberG_13
  try have k_0 := ia_n 4 (by first | decide | omega)
  try have k_1 := ia_n 3 (by first | decide | omega)
  try have k_2 := ia_n 1 (by first | decide | omega)
  try have k_3 := ia_n 0 (by first | decide | omega)
  try simp only [ia_lt, ia_le, ia_eq, ia_m1, ia_0, ia_1, ne_eq, true_and, and_true, false_and, and_false, or_false, false_or, or_true, true_or, not_true_eq_false, not_false_eq_true] at *
  all_goals omega
set_option maxRecDepth 20000 in
theorem lf_x_readNumberP_2 (ksize : Nat) (kto : Nat) (kkind : Int32) (knumber : Int32) (ktold : Int32) (a : Int32) (b : Int32) (iv_ko_1 : ksize ≤ 940) (iv_ko_3 : kto ≤ ksize) (c1 : kkind = nI 3) (t6 : ¬ (a.toInt ≤ knumber.toInt ∧ knumber.toInt ≤ b.toInt)) : ((nI 0) = nI 1 ∧ (a.toInt ≤ ktold.toInt ∧ ktold.toInt ≤ b.toInt ∧ kto ≤ kto ∧ (¬ kkind = nI 4 ∨ kto < kto) ∧ (¬ kkind = nI 3 ∨ 0 ≤ knumber.toInt))) ∨ ((nI 0) = nI 0 ∧ (True)) := by
  have b_kkind := ia_b kkind
  have b_knumber := ia_b knumber
  have b_ktold := ia_b ktold
  have b_a := ia_b a
  have b_b := ia_b b
  try have k_0 := ia_n 3 (by first | decide | omega)
  try have k_1 := ia_n 0 (by first | decide | omega)
  try have k_2 := ia_n 1 (by first | decide | omega)
  try have k_3 := ia_n 4 (by first | decide | omega)
  try simp only [ia_lt, ia_le, ia_eq, ia_m1, ia_0, ia_1, ne_eq, true_and, and_true, false_and, and_false, or_false, false_or, or_true, true_or, not_true_eq_false, not_false_eq_true] at *
  all_goals omega
set_option maxRecDepth 20000 in
theorem lf_x_readNumberP_3 (ksize : Nat) (kto : Nat) (kkind : Int32) (knumber : Int32) (ktold : Int32) (a : Int32) (b : Int32) (iv_ko_1 : ksize ≤ 940) (iv_ko_3 : kto ≤ ksize) (c1 : ¬ kkind = nI 3) : ((nI 0) = nI 1 ∧ (a.toInt ≤ ktold.toInt ∧ ktold.toInt ≤ b.toInt ∧ kto ≤ kto ∧ (¬ kkind = nI 4 ∨ kto < kto) ∧ (¬ kkind = nI 3 ∨ 0 ≤ knumber.toInt))) ∨ ((nI 0) = nI 0 ∧ (True)) := by
  have b_kkind := ia_b kkind
  have b_knumber := ia_b knumber
  have b_ktold := ia_b ktold
  have b_a := ia_b a
  have b_b := ia_b b
  try have k_0 := ia_n 3 (by first | decide | omega)
  try have k_1 := ia_n 0 (by first | decide | omega)
  try have k_2 := ia_n 1 (by first | decide | omega)
  try have k_3 := ia_n 4 (by first | decide | omega)
  try simp only [ia_lt, ia_le, ia_eq, ia_m1, ia_0, ia_1, ne_eq, true_and, and_true, false_and, and_false, or_false, false_or, or_true, true_or, not_true_eq_false, not_false_eq_true] at *
  all_goals omega
set_option maxHeartbeats 4000000 in
set_option maxRecDepth 100000 in
theorem c_x_readNumberP (l : Launch) (dC : Nat → ClassId) (dI : Nat → Nat → Nat) (ky : Nat → ClassId) (sz : Nat) (o : Nat) (kthrown : Int32) (ktape : Nat) (ktaped : Nat) (ksize : Nat) (klimit : Nat) (kto : Nat) (kfrom : Nat) (kkind : Int32) (knumber : Int32) (ksign : Int32) (kfault : Int32) (kplace : Int32) (kword : Int64) (ktold : Int32) (know : Nat) (kread : Nat) (kkept : Nat) (ksnaps : Nat) (kaside : Nat) (kname : Nat) (kreadName : Nat) (kkeptName : Nat) (kisKept : Nat) (konces : Nat) (ksnapMany : Nat) (khasCells : Int32) (kpoured : Nat) (kfar : Nat) (ksides : Nat) (ksideMany : Nat) (kwayDays : Int32) (khasWay : Int32) (klines : Nat) (kmet : Nat) (kmetMany : Nat) (ksunk : Nat) (ktrying : Nat) (ksunkMany : Nat) (ksending : Int32) (kfleets : Int32) (ktext : Nat) (ktexts : Nat) (kseed : Int32) (kline : Nat) (kwritten : Nat) (klineMany : Nat) (khasWritten : Int32) (knode : Nat) (knodes : Nat) (konesMany : Nat) (kwithin : Nat) (ktop : Nat) (ktapeF : Nat → Int32) (a : Int32) (b : Int32) (iv_ko_0 : ktaped ≤ 940) (iv_ko_1 : ksize ≤ 940) (iv_ko_2 : klimit ≤ 900) (iv_ko_3 : kto ≤ ksize) (iv_ko_4 : kfrom ≤ 940) (iv_ko_5 : ksnapMany ≤ 8) (iv_ko_6 : ksideMany ≤ 36) (iv_ko_7 : kmetMany ≤ 3) (iv_ko_8 : ksunkMany ≤ 36) (iv_ko_9 : ktexts ≤ 64) (iv_ko_10 : klineMany ≤ 40) (iv_ko_11 : knodes ≤ 60) (iv_ko_12 : konesMany ≤ 20) (iv_ko_13 : kwithin ≤ 8) (iv_ko_14 : ktop ≤ 59) : Met l yX12_readNumber wsX12_readNumber ({ frames := 2, cells := 0, slots := 0, locals := 45 }) (PcU dC dI ky [.ref o, .int a, .int b] [(o, .inr (12, [.int kthrown, .ref ktape, .int (nI ktaped), .int (nI ksize), .int (nI klimit), .int (nI kto), .int (nI kfrom), .int kkind, .int knumber, .int ksign, .int kfault, .int kplace, .long kword, .int ktold, .ref know, .ref kread, .ref kkept, .ref ksnaps, .ref kaside, .ref kname, .ref kreadName, .ref kkeptName, .ref kisKept, .ref konces, .int (nI ksnapMany), .int khasCells, .ref kpoured, .ref kfar, .ref ksides, .int (nI ksideMany), .int kwayDays, .int khasWay, .ref klines, .ref kmet, .int (nI kmetMany), .ref ksunk, .ref ktrying, .int (nI ksunkMany), .int ksending, .int kfleets, .ref ktext, .int (nI ktexts), .int kseed, .ref kline, .ref kwritten, .int (nI klineMany), .int khasWritten, .ref knode, .int (nI knodes), .int (nI konesMany), .int (nI kwithin), .int (nI ktop)])), (ktape, .inl (ky 0, 940, .inl ktapeF))] sz) (va_Qi (fun (r : Int32) (u : Nat × Nat × Int32 × Int32 × Int32 × Int32 × Int32 × Int64 × Int32) => match u with | (ktoG, kfromG, kkindG, knumberG, ksignG, kfaultG, kplaceG, kwordG, ktoldG) => ((r = nI 1 ∧ (a.toInt ≤ ktoldG.toInt ∧ ktoldG.toInt ≤ b.toInt ∧ kto ≤ ktoG ∧ (¬ kkindG = nI 4 ∨ kto < ktoG) ∧ (¬ kkindG = nI 3 ∨ 0 ≤ knumberG.toInt))) ∨ (r = nI 0 ∧ (True))) ∧ (ktoG ≤ ksize) ∧ (kfromG ≤ 940)) (BU dC dI ky (fun (u : Nat × Nat × Int32 × Int32 × Int32 × Int32 × Int32 × Int64 × Int32) => match u with | (ktoG, kfromG, kkindG, knumberG, ksignG, kfaultG, kplaceG, kwordG, ktoldG) => [(o, .inr (12, [.int kthrown, .ref ktape, .int (nI ktaped), .int (nI ksize), .int (nI klimit), .int (nI ktoG), .int (nI kfromG), .int kkindG, .int knumberG, .int ksignG, .int kfaultG, .int kplaceG, .long kwordG, .int ktoldG, .ref know, .ref kread, .ref kkept, .ref ksnaps, .ref kaside, .ref kname, .ref kreadName, .ref kkeptName, .ref kisKept, .ref konces, .int (nI ksnapMany), .int khasCells, .ref kpoured, .ref kfar, .ref ksides, .int (nI ksideMany), .int kwayDays, .int khasWay, .ref klines, .ref kmet, .int (nI kmetMany), .ref ksunk, .ref ktrying, .int (nI ksunkMany), .int ksending, .int kfleets, .ref ktext, .int (nI ktexts), .int kseed, .ref kline, .ref kwritten, .int (nI klineMany), .int khasWritten, .ref knode, .int (nI knodes), .int (nI konesMany), .int (nI kwithin), .int (nI ktop)])), (ktape, .inl (ky 0, 940, .inl ktapeF))]) (va_A [(o, .inr (12, [.int kthrown, .ref ktape, .int (nI ktaped), .int (nI ksize), .int (nI klimit), .int (nI kto), .int (nI kfrom), .int kkind, .int knumber, .int ksign, .int kfault, .int kplace, .long kword, .int ktold, .ref know, .ref kread, .ref kkept, .ref ksnaps, .ref kaside, .ref kname, .ref kreadName, .ref kkeptName, .ref kisKept, .ref konces, .int (nI ksnapMany), .int khasCells, .ref kpoured, .ref kfar, .ref ksides, .int (nI ksideMany), .int kwayDays, .int khasWay, .ref klines, .ref kmet, .int (nI kmetMany), .ref ksunk, .ref ktrying, .int (nI ksunkMany), .int ksending, .int kfleets, .ref ktext, .int (nI ktexts), .int kseed, .ref kline, .ref kwritten, .int (nI klineMany), .int khasWritten, .ref knode, .int (nI knodes), .int (nI konesMany), .int (nI kwithin), .int (nI ktop)])), (ktape, .inl (ky 0, 940, .inl ktapeF))] sz)) (va_A [(o, .inr (12, [.int kthrown, .ref ktape, .int (nI ktaped), .int (nI ksize), .int (nI klimit), .int (nI kto), .int (nI kfrom), .int kkind, .int knumber, .int ksign, .int kfault, .int kplace, .long kword, .int ktold, .ref know, .ref kread, .ref kkept, .ref ksnaps, .ref kaside, .ref kname, .ref kreadName, .ref kkeptName, .ref kisKept, .ref konces, .int (nI ksnapMany), .int khasCells, .ref kpoured, .ref kfar, .ref ksides, .int (nI ksideMany), .int kwayDays, .int khasWay, .ref klines, .ref kmet, .int (nI kmetMany), .ref ksunk, .ref ktrying, .int (nI ksunkMany), .int ksending, .int kfleets, .ref ktext, .int (nI ktexts), .int kseed, .ref kline, .ref kwritten, .int (nI klineMany), .int khasWritten, .ref knode, .int (nI knodes), .int (nI konesMany), .int (nI kwithin), .int (nI ktop)])), (ktape, .inl (ky 0, 940, .inl ktapeF))] sz)) 0 0 (va_A [(o, .inr (12, [.int kthrown, .ref ktape, .int (nI ktaped), .int (nI ksize), .int (nI klimit), .int (nI kto), .int (nI kfrom), .int kkind, .int knumber, .int ksign, .int kfault, .int kplace, .long kword, .int ktold, .ref know, .ref kread, .ref kkept, .ref ksnaps, .ref kaside, .ref kname, .ref kreadName, .ref kkeptName, .ref kisKept, .ref konces, .int (nI ksnapMany), .int khasCells, .ref kpoured, .ref kfar, .ref ksides, .int (nI ksideMany), .int kwayDays, .int khasWay, .ref klines, .ref kmet, .int (nI kmetMany), .ref ksunk, .ref ktrying, .int (nI ksunkMany), .int ksending, .int kfleets, .ref ktext, .int (nI ktexts), .int kseed, .ref kline, .ref kwritten, .int (nI klineMany), .int khasWritten, .ref knode, .int (nI knodes), .int (nI konesMany), .int (nI kwithin), .int (nI ktop)])), (ktape, .inl (ky 0, 940, .inl ktapeF))] sz) := by
  refine Met.ofW (cc := cX12_readNumber) (maxL := 3) (ret := (some .boolean)) (by decide) rfl ?_
  intro p e s m args below meth c s₁ B hml hv
  obtain ⟨rfl, hsz, hP, hK, hD0⟩ := hv
  have hx := B.exec
  have hb := B.bytes
  have hr := B.returns
  have hts := atoms_spec (ws := wsX12_readNumber) B.pre
  have hown : s.vm.findClass RX12 = some m.cls := findClass_of_methodNamed B.named
  have hlocks := B.notSynchronized
  have hin12 : ∀ w ∈ u_ws RX12 TX12 52, w ∈ wsX12_readNumber := by decide +kernel
  subst hsz
  have hD := hD0.self (sz := s.heap.size)
  generalize hAe : va_A [(o, .inr (12, [.int kthrown, .ref ktape, .int (nI ktaped), .int (nI ksize), .int (nI klimit), .int (nI kto), .int (nI kfrom), .int kkind, .int knumber, .int ksign, .int kfault, .int kplace, .long kword, .int ktold, .ref know, .ref kread, .ref kkept, .ref ksnaps, .ref kaside, .ref kname, .ref kreadName, .ref kkeptName, .ref kisKept, .ref konces, .int (nI ksnapMany), .int khasCells, .ref kpoured, .ref kfar, .ref ksides, .int (nI ksideMany), .int kwayDays, .int khasWay, .ref klines, .ref kmet, .int (nI kmetMany), .ref ksunk, .ref ktrying, .int (nI ksunkMany), .int ksending, .int kfleets, .ref ktext, .int (nI ktexts), .int kseed, .ref kline, .ref kwritten, .int (nI klineMany), .int khasWritten, .ref knode, .int (nI knodes), .int (nI konesMany), .int (nI kwithin), .int (nI ktop)])), (ktape, .inl (ky 0, 940, .inl ktapeF))] s.heap.size = A at hD ⊢
  have hA : ∀ q : Nat, s.heap.size ≤ q → A q := fun q h => by rw [← hAe]; exact Or.inr h
  have hS : va_S A s.heap s.heap [] := va_S.rf
  have hl := lv_entry ([.ref o, .int a, .int b]) (n := 3) (Nat.le_of_ble_eq_true rfl)
  rw [lg_entry_eq]
  generalize (lg_sl ([.ref o, .int a, .int b]) ++ List.replicate (3 - (lg_sl ([.ref o, .int a, .int b])).length) Slot.unset).toArray = ls at hl ⊢
  have hl : lv_has ls 3 [(0, .ref o), (1, .int a), (2, .int b)] := hl
  refine q_name (fun Q hQ => ?_)
  generalize ([.ref o, .int a, .int b] : List Value).toArray = args at hts hQ ⊢
  refine lv_aload_n hx hb dX12_readNumber_0 rfl (lv_at hl 0 rfl) ?_
  refine va_get (D := (dC, dI)) (ci := 12) (v := .int kkind) (C := RX12) (T := TX12) (N := 52) hx hb hts hin12 hown hK hP 0 rfl rfl 7 (by decide) (hts (.fieldLink RX12 30 "PorridgeSeaModel" "kind" "I") (List.mem_of_getElem? (i := 1) rfl)) (fun _ h9 => h9) rfl dX12_readNumber_1 ?_
  refine lv_iconst (v := nI 3) hx hb dX12_readNumber_4 (by decide) ?_
  refine lv_icmp_eq (tgt := 14) hx hb dX12_readNumber_5 (by decide) (fun c1 => ?_) (fun c1 => ?_)
  · refine lv_aload_n hx hb dX12_readNumber_14 rfl (lv_at hl 0 rfl) ?_
    refine va_get (D := (dC, dI)) (ci := 12) (v := .int knumber) (C := RX12) (T := TX12) (N := 52) hx hb hts hin12 hown hK hP 0 rfl rfl 8 (by decide) (hts (.fieldLink RX12 47 "PorridgeSeaModel" "number" "I") (List.mem_of_getElem? (i := 2) rfl)) (fun _ h9 => h9) rfl dX12_readNumber_15 ?_
    refine lv_iload_n hx hb dX12_readNumber_18 rfl (lv_at hl 1 rfl) ?_
    refine lv_iload_n hx hb dX12_readNumber_19 rfl (lv_at hl 2 rfl) ?_
    refine vp_callSi (W.runS (As := [.int knumber, .int a, .int b]) (rest := []) ⟨hx, hb, hml, hown, hts⟩ (c_x_isIn l dC dI ky knumber a b) (va_cwS 3 hts gX12_readNumber_X12_isIn rfl rfl rfl (by decide +kernel) ⟨(Nat.le_of_ble_eq_true rfl), (Nat.le_of_ble_eq_true rfl)⟩) (pre_PS hK hP [] rfl) rfl rfl hl.1 rfl (lv_room (Nat.le_of_ble_eq_true rfl)) dX12_readNumber_20 ⟨(Nat.le_of_ble_eq_true rfl), (Nat.le_of_ble_eq_true rfl)⟩) (fun r2 p3 => ?_)
    rcases p3 with ⟨rfl, t4, t5⟩ | ⟨rfl, t6⟩
    · refine lv_if_ne (tgt := 32) hx hb dX12_readNumber_23 (by decide) (fun c7 => ?_) (fun c7 => absurd c7 (by decide))
      refine lv_aload_n hx hb dX12_readNumber_32 rfl (lv_at hl 0 rfl) ?_
      refine lv_aload_n hx hb dX12_readNumber_33 rfl (lv_at hl 0 rfl) ?_
      refine va_get (D := (dC, dI)) (ci := 12) (v := .int knumber) (C := RX12) (T := TX12) (N := 52) hx hb hts hin12 hown hK hP 0 rfl rfl 8 (by decide) (hts (.fieldLink RX12 47 "PorridgeSeaModel" "number" "I") (List.mem_of_getElem? (i := 2) rfl)) (fun _ h9 => h9) rfl dX12_readNumber_34 ?_
      refine va_put (D := (dC, dI)) (ci := 12) (v := .int knumber) (ty := .int) (C := RX12) (T := TX12) (N := 52) hx hb hts hin12 tyX12 tyX12_ok nmX12 hown hK hP hD hS 0 rfl rfl 13 (by decide) (hts (.fieldLink RX12 79 "PorridgeSeaModel" "told" "I") (List.mem_of_getElem? (i := 3) rfl)) (fun _ h9 => h9) rfl (by decide +kernel) rfl rfl (Nat.le_of_ble_eq_true rfl) dX12_readNumber_37 (fun H locs hP hD hS => ?_)
      have hP : va_P (dC, dI) vwCl [(o, .inr (12, [.int kthrown, .ref ktape, .int (nI ktaped), .int (nI ksize), .int (nI klimit), .int (nI kto), .int (nI kfrom), .int kkind, .int knumber, .int ksign, .int kfault, .int kplace, .long kword, .int knumber, .ref know, .ref kread, .ref kkept, .ref ksnaps, .ref kaside, .ref kname, .ref kreadName, .ref kkeptName, .ref kisKept, .ref konces, .int (nI ksnapMany), .int khasCells, .ref kpoured, .ref kfar, .ref ksides, .int (nI ksideMany), .int kwayDays, .int khasWay, .ref klines, .ref kmet, .int (nI kmetMany), .ref ksunk, .ref ktrying, .int (nI ksunkMany), .int ksending, .int kfleets, .ref ktext, .int (nI ktexts), .int kseed, .ref kline, .ref kwritten, .int (nI klineMany), .int khasWritten, .ref knode, .int (nI knodes), .int (nI konesMany), .int (nI kwithin), .int (nI ktop)])), (ktape, .inl (ky 0, 940, .inl ktapeF))] H := hP
      have hD : va_D A [(o, .inr (12, [.int kthrown, .ref ktape, .int (nI ktaped), .int (nI ksize), .int (nI klimit), .int (nI kto), .int (nI kfrom), .int kkind, .int knumber, .int ksign, .int kfault, .int kplace, .long kword, .int knumber, .ref know, .ref kread, .ref kkept, .ref ksnaps, .ref kaside, .ref kname, .ref kreadName, .ref kkeptName, .ref kisKept, .ref konces, .int (nI ksnapMany), .int khasCells, .ref kpoured, .ref kfar, .ref ksides, .int (nI ksideMany), .int kwayDays, .int khasWay, .ref klines, .ref kmet, .int (nI kmetMany), .ref ksunk, .ref ktrying, .int (nI ksunkMany), .int ksending, .int kfleets, .ref ktext, .int (nI ktexts), .int kseed, .ref kline, .ref kwritten, .int (nI klineMany), .int khasWritten, .ref knode, .int (nI knodes), .int (nI konesMany), .int (nI kwithin), .int (nI ktop)])), (ktape, .inl (ky 0, 940, .inl ktapeF))] := hD
      refine lv_aload_n hx hb dX12_readNumber_40 rfl (lv_at hl 0 rfl) ?_
      refine r_call_v (wr := []) (va_runV (As := []) (rest := []) ⟨hx, hb, hml, hown, hts⟩ (c_x_goP l dC dI ky H.size o kthrown ktape ktaped ksize klimit kto kfrom kkind knumber ksign kfault kplace kword knumber know kread kkept ksnaps kaside kname kreadName kkeptName kisKept konces ksnapMany khasCells kpoured kfar ksides ksideMany kwayDays khasWay klines kmet kmetMany ksunk ktrying ksunkMany ksending kfleets ktext ktexts kseed kline kwritten klineMany khasWritten knode knodes konesMany kwithin ktop ktapeF iv_ko_0 iv_ko_1 iv_ko_2 iv_ko_3 iv_ko_4 iv_ko_5 iv_ko_6 iv_ko_7 iv_ko_8 iv_ko_9 iv_ko_10 iv_ko_11 iv_ko_12 iv_ko_13 iv_ko_14) (cwV 0 hts gX12_readNumber_X12_go rfl rfl rfl (by decide +kernel) ⟨(Nat.le_of_ble_eq_true rfl), (Nat.le_of_ble_eq_true rfl)⟩) (pre_UV hK hP hD [0, 1] (by decide) rfl (ci := 12) (q0 := 0) rfl rfl) rfl rfl hl.1 rfl (lv_room (Nat.le_of_ble_eq_true rfl)) dX12_readNumber_41 ⟨(Nat.le_of_ble_eq_true rfl), (Nat.le_of_ble_eq_true rfl)⟩) hP hD hS hA [0, 1] [] rfl rfl (by decide) (by decide) (fun  u8 H locs p9 hP hD hS => ?_)
      obtain ⟨ktoG_10, kfromG_11, kkindG_12, knumberG_13, ksignG_14, kwordG_15⟩ := u8
      try dsimp only at p9
      obtain ⟨p16, p17, p18, p19, p20⟩ := p9
      refine W.widen (k := 0) (n := 0) (Nat.le_of_ble_eq_true rfl) (Nat.le_of_ble_eq_true rfl) ?_
      have hP : va_P (dC, dI) vwCl [(o, .inr (12, [.int kthrown, .ref ktape, .int (nI ktaped), .int (nI ksize), .int (nI klimit), .int (nI ktoG_10), .int (nI kfromG_11), .int kkindG_12, .int knumberG_13, .int ksignG_14, .int kfault, .int kplace, .long kwordG_15, .int knumber, .ref know, .ref kread, .ref kkept, .ref ksnaps, .ref kaside, .ref kname, .ref kreadName, .ref kkeptName, .ref kisKept, .ref konces, .int (nI ksnapMany), .int khasCells, .ref kpoured, .ref kfar, .ref ksides, .int (nI ksideMany), .int kwayDays, .int khasWay, .ref klines, .ref kmet, .int (nI kmetMany), .ref ksunk, .ref ktrying, .int (nI ksunkMany), .int ksending, .int kfleets, .ref ktext, .int (nI ktexts), .int kseed, .ref kline, .ref kwritten, .int (nI klineMany), .int khasWritten, .ref knode, .int (nI knodes), .int (nI konesMany), .int (nI kwithin), .int (nI ktop)])), (ktape, .inl (ky 0, 940, .inl ktapeF))] H := hP
      have hD : va_D A [(o, .inr (12, [.int kthrown, .ref ktape, .int (nI ktaped), .int (nI ksize), .int (nI klimit), .int (nI ktoG_10), .int (nI kfromG_11), .int kkindG_12, .int knumberG_13, .int ksignG_14, .int kfault, .int kplace, .long kwordG_15, .int knumber, .ref know, .ref kread, .ref kkept, .ref ksnaps, .ref kaside, .ref kname, .ref kreadName, .ref kkeptName, .ref kisKept, .ref konces, .int (nI ksnapMany), .int khasCells, .ref kpoured, .ref kfar, .ref ksides, .int (nI ksideMany), .int kwayDays, .int khasWay, .ref klines, .ref kmet, .int (nI kmetMany), .ref ksunk, .ref ktrying, .int (nI ksunkMany), .int ksending, .int kfleets, .ref ktext, .int (nI ktexts), .int kseed, .ref kline, .ref kwritten, .int (nI klineMany), .int khasWritten, .ref knode, .int (nI knodes), .int (nI konesMany), .int (nI kwithin), .int (nI ktop)])), (ktape, .inl (ky 0, 940, .inl ktapeF))] := hD
      refine lv_iconst (v := nI 1) hx hb dX12_readNumber_44 (by decide) ?_
      rw [hQ]
      exact W.zret (v := nI 1) hx hb hr (by decide) (fun t9 ht9 hW9 => ⟨⟨nI 1, (ktoG_10, kfromG_11, kkindG_12, knumberG_13, ksignG_14, kfault, kplace, kwordG_15, knumber), rfl, ⟨(lf_x_readNumberP_1 ksize kto knumber a b ktoG_10 kkindG_12 knumberG_13 iv_ko_1 iv_ko_3 t4 t5 p16 p18 p19 p20), p16, p17⟩, by rw [ht9]; exact hP, va_K.moved hW9.alike hK, hD⟩, hS.F ht9⟩) hS.2.2 dX12_readNumber_45
    · refine lv_if_ne (tgt := 32) hx hb dX12_readNumber_23 (by decide) (fun c21 => absurd c21 (by decide)) (fun c21 => ?_)
      refine lv_aload_n hx hb dX12_readNumber_26 rfl (lv_at hl 0 rfl) ?_
      refine lv_iconst (v := nI 2) hx hb dX12_readNumber_27 (by decide) ?_
      refine r_call_i (wr := [(ktape, .inl (ky 0, 940, .inl ktapeF))]) (va_runV (As := [.int (nI 2)]) (rest := []) ⟨hx, hb, hml, hown, hts⟩ (c_x_bad l dC dI ky s.heap.size o kthrown ktape ktaped ksize klimit kto kfrom kkind knumber ksign kfault kplace kword ktold know kread kkept ksnaps kaside kname kreadName kkeptName kisKept konces ksnapMany khasCells kpoured kfar ksides ksideMany kwayDays khasWay klines kmet kmetMany ksunk ktrying ksunkMany ksending kfleets ktext ktexts kseed kline kwritten klineMany khasWritten knode knodes konesMany kwithin ktop (nI 2) iv_ko_0 iv_ko_1 iv_ko_2 iv_ko_3 iv_ko_4 iv_ko_5 iv_ko_6 iv_ko_7 iv_ko_8 iv_ko_9 iv_ko_10 iv_ko_11 iv_ko_12 iv_ko_13 iv_ko_14) (cwV 1 hts gX12_readNumber_X12_bad rfl rfl rfl (by decide +kernel) ⟨(Nat.le_of_ble_eq_true rfl), (Nat.le_of_ble_eq_true rfl)⟩) (pre_UV hK hP hD [0] (by decide) rfl (ci := 12) (q0 := 0) rfl rfl) rfl rfl hl.1 rfl (lv_room (Nat.le_of_ble_eq_true rfl)) dX12_readNumber_28 ⟨(Nat.le_of_ble_eq_true rfl), (Nat.le_of_ble_eq_true rfl)⟩) hP hD hS hA [0] [1] rfl rfl (by decide) (by decide) (fun r24 u22 H locs p23 hP hD hS => ?_)
      obtain ⟨kfaultG_25, kplaceG_26⟩ := u22
      try dsimp only at p23
      have p27 := p23
      refine W.widen (k := 0) (n := 0) (Nat.le_of_ble_eq_true rfl) (Nat.le_of_ble_eq_true rfl) ?_
      have hP : va_P (dC, dI) vwCl [(ktape, .inl (ky 0, 940, .inl ktapeF)), (o, .inr (12, [.int kthrown, .ref ktape, .int (nI ktaped), .int (nI ksize), .int (nI klimit), .int (nI kto), .int (nI kfrom), .int kkind, .int knumber, .int ksign, .int kfaultG_25, .int kplaceG_26, .long kword, .int ktold, .ref know, .ref kread, .ref kkept, .ref ksnaps, .ref kaside, .ref kname, .ref kreadName, .ref kkeptName, .ref kisKept, .ref konces, .int (nI ksnapMany), .int khasCells, .ref kpoured, .ref kfar, .ref ksides, .int (nI ksideMany), .int kwayDays, .int khasWay, .ref klines, .ref kmet, .int (nI kmetMany), .ref ksunk, .ref ktrying, .int (nI ksunkMany), .int ksending, .int kfleets, .ref ktext, .int (nI ktexts), .int kseed, .ref kline, .ref kwritten, .int (nI klineMany), .int khasWritten, .ref knode, .int (nI knodes), .int (nI konesMany), .int (nI kwithin), .int (nI ktop)]))] H := hP
      have hD : va_D A [(ktape, .inl (ky 0, 940, .inl ktapeF)), (o, .inr (12, [.int kthrown, .ref ktape, .int (nI ktaped), .int (nI ksize), .int (nI klimit), .int (nI kto), .int (nI kfrom), .int kkind, .int knumber, .int ksign, .int kfaultG_25, .int kplaceG_26, .long kword, .int ktold, .ref know, .ref kread, .ref kkept, .ref ksnaps, .ref kaside, .ref kname, .ref kreadName, .ref kkeptName, .ref kisKept, .ref konces, .int (nI ksnapMany), .int khasCells, .ref kpoured, .ref kfar, .ref ksides, .int (nI ksideMany), .int kwayDays, .int khasWay, .ref klines, .ref kmet, .int (nI kmetMany), .ref ksunk, .ref ktrying, .int (nI ksunkMany), .int ksending, .int kfleets, .ref ktext, .int (nI ktexts), .int kseed, .ref kline, .ref kwritten, .int (nI klineMany), .int khasWritten, .ref knode, .int (nI knodes), .int (nI konesMany), .int (nI kwithin), .int (nI ktop)]))] := hD
      subst p27
      rw [hQ]
      have hP9 := hP.sub (ws' := [(o, .inr (12, [.int kthrown, .ref ktape, .int (nI ktaped), .int (nI ksize), .int (nI klimit), .int (nI kto), .int (nI kfrom), .int kkind, .int knumber, .int ksign, .int kfaultG_25, .int kplaceG_26, .long kword, .int ktold, .ref know, .ref kread, .ref kkept, .ref ksnaps, .ref kaside, .ref kname, .ref kreadName, .ref kkeptName, .ref kisKept, .ref konces, .int (nI ksnapMany), .int khasCells, .ref kpoured, .ref kfar, .ref ksides, .int (nI ksideMany), .int kwayDays, .int khasWay, .ref klines, .ref kmet, .int (nI kmetMany), .ref ksunk, .ref ktrying, .int (nI ksunkMany), .int ksending, .int kfleets, .ref ktext, .int (nI ktexts), .int kseed, .ref kline, .ref kwritten, .int (nI klineMany), .int khasWritten, .ref knode, .int (nI knodes), .int (nI konesMany), .int (nI kwithin), .int (nI ktop)])), (ktape, .inl (ky 0, 940, .inl ktapeF))]) [1, 0] rfl
      have hD9 := hD.sub (ws' := [(o, .inr (12, [.int kthrown, .ref ktape, .int (nI ktaped), .int (nI ksize), .int (nI klimit), .int (nI kto), .int (nI kfrom), .int kkind, .int knumber, .int ksign, .int kfaultG_25, .int kplaceG_26, .long kword, .int ktold, .ref know, .ref kread, .ref kkept, .ref ksnaps, .ref kaside, .ref kname, .ref kreadName, .ref kkeptName, .ref kisKept, .ref konces, .int (nI ksnapMany), .int khasCells, .ref kpoured, .ref kfar, .ref ksides, .int (nI ksideMany), .int kwayDays, .int khasWay, .ref klines, .ref kmet, .int (nI kmetMany), .ref ksunk, .ref ktrying, .int (nI ksunkMany), .int ksending, .int kfleets, .ref ktext, .int (nI ktexts), .int kseed, .ref kline, .ref kwritten, .int (nI klineMany), .int khasWritten, .ref knode, .int (nI knodes), .int (nI konesMany), .int (nI kwithin), .int (nI ktop)])), (ktape, .inl (ky 0, 940, .inl ktapeF))]) [1, 0] (by decide) rfl
      exact W.zret (v := nI 0) hx hb hr (by decide) (fun t9 ht9 hW9 => ⟨⟨nI 0, (kto, kfrom, kkind, knumber, ksign, kfaultG_25, kplaceG_26, kword, ktold), rfl, ⟨(lf_x_readNumberP_2 ksize kto kkind knumber ktold a b iv_ko_1 iv_ko_3 c1 t6), iv_ko_3, iv_ko_4⟩, by rw [ht9]; exact hP9, va_K.moved hW9.alike hK, hD9⟩, hS.F ht9⟩) hS.2.2 dX12_readNumber_31
  · refine lv_aload_n hx hb dX12_readNumber_8 rfl (lv_at hl 0 rfl) ?_
    refine lv_iconst (v := nI 1) hx hb dX12_readNumber_9 (by decide) ?_
    refine r_call_i (wr := [(ktape, .inl (ky 0, 940, .inl ktapeF))]) (va_runV (As := [.int (nI 1)]) (rest := []) ⟨hx, hb, hml, hown, hts⟩ (c_x_bad l dC dI ky s.heap.size o kthrown ktape ktaped ksize klimit kto kfrom kkind knumber ksign kfault kplace kword ktold know kread kkept ksnaps kaside kname kreadName kkeptName kisKept konces ksnapMany khasCells kpoured kfar ksides ksideMany kwayDays khasWay klines kmet kmetMany ksunk ktrying ksunkMany ksending kfleets ktext ktexts kseed kline kwritten klineMany khasWritten knode knodes konesMany kwithin ktop (nI 1) iv_ko_0 iv_ko_1 iv_ko_2 iv_ko_3 iv_ko_4 iv_ko_5 iv_ko_6 iv_ko_7 iv_ko_8 iv_ko_9 iv_ko_10 iv_ko_11 iv_ko_12 iv_ko_13 iv_ko_14) (cwV 1 hts gX12_readNumber_X12_bad rfl rfl rfl (by decide +kernel) ⟨(Nat.le_of_ble_eq_true rfl), (Nat.le_of_ble_eq_true rfl)⟩) (pre_UV hK hP hD [0] (by decide) rfl (ci := 12) (q0 := 0) rfl rfl) rfl rfl hl.1 rfl (lv_room (Nat.le_of_ble_eq_true rfl)) dX12_readNumber_10 ⟨(Nat.le_of_ble_eq_true rfl), (Nat.le_of_ble_eq_true rfl)⟩) hP hD hS hA [0] [1] rfl rfl (by decide) (by decide) (fun r30 u28 H locs p29 hP hD hS => ?_)
    obtain ⟨kfaultG_31, kplaceG_32⟩ := u28
    try dsimp only at p29
    have p33 := p29
    refine W.widen (k := 0) (n := 0) (Nat.le_of_ble_eq_true rfl) (Nat.le_of_ble_eq_true rfl) ?_
    have hP : va_P (dC, dI) vwCl [(ktape, .inl (ky 0, 940, .inl ktapeF)), (o, .inr (12, [.int kthrown, .ref ktape, .int (nI ktaped), .int (nI ksize), .int (nI klimit), .int (nI kto), .int (nI kfrom), .int kkind, .int knumber, .int ksign, .int kfaultG_31, .int kplaceG_32, .long kword, .int ktold, .ref know, .ref kread, .ref kkept, .ref ksnaps, .ref kaside, .ref kname, .ref kreadName, .ref kkeptName, .ref kisKept, .ref konces, .int (nI ksnapMany), .int khasCells, .ref kpoured, .ref kfar, .ref ksides, .int (nI ksideMany), .int kwayDays, .int khasWay, .ref klines, .ref kmet, .int (nI kmetMany), .ref ksunk, .ref ktrying, .int (nI ksunkMany), .int ksending, .int kfleets, .ref ktext, .int (nI ktexts), .int kseed, .ref kline, .ref kwritten, .int (nI klineMany), .int khasWritten, .ref knode, .int (nI knodes), .int (nI konesMany), .int (nI kwithin), .int (nI ktop)]))] H := hP
    have hD : va_D A [(ktape, .inl (ky 0, 940, .inl ktapeF)), (o, .inr (12, [.int kthrown, .ref ktape, .int (nI ktaped), .int (nI ksize), .int (nI klimit), .int (nI kto), .int (nI kfrom), .int kkind, .int knumber, .int ksign, .int kfaultG_31, .int kplaceG_32, .long kword, .int ktold, .ref know, .ref kread, .ref kkept, .ref ksnaps, .ref kaside, .ref kname, .ref kreadName, .ref kkeptName, .ref kisKept, .ref konces, .int (nI ksnapMany), .int khasCells, .ref kpoured, .ref kfar, .ref ksides, .int (nI ksideMany), .int kwayDays, .int khasWay, .ref klines, .ref kmet, .int (nI kmetMany), .ref ksunk, .ref ktrying, .int (nI ksunkMany), .int ksending, .int kfleets, .ref ktext, .int (nI ktexts), .int kseed, .ref kline, .ref kwritten, .int (nI klineMany), .int khasWritten, .ref knode, .int (nI knodes), .int (nI konesMany), .int (nI kwithin), .int (nI ktop)]))] := hD
    subst p33
    rw [hQ]
    have hP9 := hP.sub (ws' := [(o, .inr (12, [.int kthrown, .ref ktape, .int (nI ktaped), .int (nI ksize), .int (nI klimit), .int (nI kto), .int (nI kfrom), .int kkind, .int knumber, .int ksign, .int kfaultG_31, .int kplaceG_32, .long kword, .int ktold, .ref know, .ref kread, .ref kkept, .ref ksnaps, .ref kaside, .ref kname, .ref kreadName, .ref kkeptName, .ref kisKept, .ref konces, .int (nI ksnapMany), .int khasCells, .ref kpoured, .ref kfar, .ref ksides, .int (nI ksideMany), .int kwayDays, .int khasWay, .ref klines, .ref kmet, .int (nI kmetMany), .ref ksunk, .ref ktrying, .int (nI ksunkMany), .int ksending, .int kfleets, .ref ktext, .int (nI ktexts), .int kseed, .ref kline, .ref kwritten, .int (nI klineMany), .int khasWritten, .ref knode, .int (nI knodes), .int (nI konesMany), .int (nI kwithin), .int (nI ktop)])), (ktape, .inl (ky 0, 940, .inl ktapeF))]) [1, 0] rfl
    have hD9 := hD.sub (ws' := [(o, .inr (12, [.int kthrown, .ref ktape, .int (nI ktaped), .int (nI ksize), .int (nI klimit), .int (nI kto), .int (nI kfrom), .int kkind, .int knumber, .int ksign, .int kfaultG_31, .int kplaceG_32, .long kword, .int ktold, .ref know, .ref kread, .ref kkept, .ref ksnaps, .ref kaside, .ref kname, .ref kreadName, .ref kkeptName, .ref kisKept, .ref konces, .int (nI ksnapMany), .int khasCells, .ref kpoured, .ref kfar, .ref ksides, .int (nI ksideMany), .int kwayDays, .int khasWay, .ref klines, .ref kmet, .int (nI kmetMany), .ref ksunk, .ref ktrying, .int (nI ksunkMany), .int ksending, .int kfleets, .ref ktext, .int (nI ktexts), .int kseed, .ref kline, .ref kwritten, .int (nI klineMany), .int khasWritten, .ref knode, .int (nI knodes), .int (nI konesMany), .int (nI kwithin), .int (nI ktop)])), (ktape, .inl (ky 0, 940, .inl ktapeF))]) [1, 0] (by decide) rfl
    exact W.zret (v := nI 0) hx hb hr (by decide) (fun t9 ht9 hW9 => ⟨⟨nI 0, (kto, kfrom, kkind, knumber, ksign, kfaultG_31, kplaceG_32, kword, ktold), rfl, ⟨(lf_x_readNumberP_3 ksize kto kkind knumber ktold a b iv_ko_1 iv_ko_3 c1), iv_ko_3, iv_ko_4⟩, by rw [ht9]; exact hP9, va_K.moved hW9.alike hK, hD9⟩, hS.F ht9⟩) hS.2.2 dX12_readNumber_13
set_option maxRecDepth 20000 in
theorem lf_x_readEndP_1 (ksize : Nat) (kto : Nat) (kkind : Int32) (ktoG_8 : Nat) (kkindG_10 : Int32) (knumberG_11 : Int32) (iv_ko_1 : ksize ≤ 940) (iv_ko_3 : kto ≤ ksize) (t3 : kkind = nI 4) (p14 : ktoG_8 ≤ ksize) (p16 : kto ≤ ktoG_8) (p17 : ¬ kkindG_10 = nI 4 ∨ kto < ktoG_8) (p18 : ¬ kkindG_10 = nI 3 ∨ 0 ≤ knumberG_11.toInt) : ((nI 1) = nI 1 ∧ (kkind = nI 4 ∧ kto ≤ ktoG_8)) ∨ ((nI 1) = nI 0 ∧ (True)) := by
  have b_kkind := ia_b kkind
  have b_kkindG_10 := ia_b kkindG_10
  have b_knumberG_11 := ia_b knumberG_11
  try have k_0 := ia_n 4 (by first | decide | omega)
  try have k_1 := ia_n 3 (by first | decide | omega)
  try have k_2 := ia_n 1 (by first | decide | omega)
  try have k_3 := ia_n 0 (by first | decide | omega)
  try simp only [ia_lt, ia_le, ia_eq, ia_m1, ia_0, ia_1, ne_eq, true_and, and_true, false_and, and_false, or_false, false_or, or_true, true_or, not_true_eq_false, not_false_eq_true] at *
  all_goals omega
set_option maxRecDepth 20000 in
theorem lf_x_readEndP_2 (ksize : Nat) (kto : Nat) (kkind : Int32) (iv_ko_1 : ksize ≤ 940) (iv_ko_3 : kto ≤ ksize) (t4 : True) : ((nI 0) = nI 1 ∧ (kkind = nI 4 ∧ kto ≤ kto)) ∨ ((nI 0) = nI 0 ∧ (True)) := by
  have b_kkind := ia_b kkind
  try have k_0 := ia_n 0 (by first | decide | omega)
  try have k_1 := ia_n 1 (by first | decide | omega)
  try have k_2 := ia_n 4 (by first | decide | omega)
  try simp only [ia_lt, ia_le, ia_eq, ia_m1, ia_0, ia_1, ne_eq, true_and, and_true, false_and, and_false, or_false, false_or, or_true, true_or, not_true_eq_false, not_false_eq_true] at *
  all_goals omega
set_option maxHeartbeats 4000000 in
set_option maxRecDepth 100000 in
theorem c_x_readEndP (l : Launch) (dC : Nat → ClassId) (dI : Nat → Nat → Nat) (ky : Nat → ClassId) (sz : Nat) (o : Nat) (kthrown : Int32) (ktape : Nat) (ktaped : Nat) (ksize : Nat) (klimit : Nat) (kto : Nat) (kfrom : Nat) (kkind : Int32) (knumber : Int32) (ksign : Int32) (kfault : Int32) (kplace : Int32) (kword : Int64) (ktold : Int32) (know : Nat) (kread : Nat) (kkept : Nat) (ksnaps : Nat) (kaside : Nat) (kname : Nat) (kreadName : Nat) (kkeptName : Nat) (kisKept : Nat) (konces : Nat) (ksnapMany : Nat) (khasCells : Int32) (kpoured : Nat) (kfar : Nat) (ksides : Nat) (ksideMany : Nat) (kwayDays : Int32) (khasWay : Int32) (klines : Nat) (kmet : Nat) (kmetMany : Nat) (ksunk : Nat) (ktrying : Nat) (ksunkMany : Nat) (ksending : Int32) (kfleets : Int32) (ktext : Nat) (ktexts : Nat) (kseed : Int32) (kline : Nat) (kwritten : Nat) (klineMany : Nat) (khasWritten : Int32) (knode : Nat) (knodes : Nat) (konesMany : Nat) (kwithin : Nat) (ktop : Nat) (ktapeF : Nat → Int32) (iv_ko_0 : ktaped ≤ 940) (iv_ko_1 : ksize ≤ 940) (iv_ko_2 : klimit ≤ 900) (iv_ko_3 : kto ≤ ksize) (iv_ko_4 : kfrom ≤ 940) (iv_ko_5 : ksnapMany ≤ 8) (iv_ko_6 : ksideMany ≤ 36) (iv_ko_7 : kmetMany ≤ 3) (iv_ko_8 : ksunkMany ≤ 36) (iv_ko_9 : ktexts ≤ 64) (iv_ko_10 : klineMany ≤ 40) (iv_ko_11 : knodes ≤ 60) (iv_ko_12 : konesMany ≤ 20) (iv_ko_13 : kwithin ≤ 8) (iv_ko_14 : ktop ≤ 59) : Met l yX12_readEnd wsX12_readEnd ({ frames := 2, cells := 0, slots := 0, locals := 45 }) (PcU dC dI ky [.ref o] [(o, .inr (12, [.int kthrown, .ref ktape, .int (nI ktaped), .int (nI ksize), .int (nI klimit), .int (nI kto), .int (nI kfrom), .int kkind, .int knumber, .int ksign, .int kfault, .int kplace, .long kword, .int ktold, .ref know, .ref kread, .ref kkept, .ref ksnaps, .ref kaside, .ref kname, .ref kreadName, .ref kkeptName, .ref kisKept, .ref konces, .int (nI ksnapMany), .int khasCells, .ref kpoured, .ref kfar, .ref ksides, .int (nI ksideMany), .int kwayDays, .int khasWay, .ref klines, .ref kmet, .int (nI kmetMany), .ref ksunk, .ref ktrying, .int (nI ksunkMany), .int ksending, .int kfleets, .ref ktext, .int (nI ktexts), .int kseed, .ref kline, .ref kwritten, .int (nI klineMany), .int khasWritten, .ref knode, .int (nI knodes), .int (nI konesMany), .int (nI kwithin), .int (nI ktop)])), (ktape, .inl (ky 0, 940, .inl ktapeF))] sz) (va_Qi (fun (r : Int32) (u : Nat × Nat × Int32 × Int32 × Int32 × Int32 × Int32 × Int64) => match u with | (ktoG, kfromG, kkindG, knumberG, ksignG, kfaultG, kplaceG, kwordG) => ((r = nI 1 ∧ (kkind = nI 4 ∧ kto ≤ ktoG)) ∨ (r = nI 0 ∧ (True))) ∧ (ktoG ≤ ksize) ∧ (kfromG ≤ 940)) (BU dC dI ky (fun (u : Nat × Nat × Int32 × Int32 × Int32 × Int32 × Int32 × Int64) => match u with | (ktoG, kfromG, kkindG, knumberG, ksignG, kfaultG, kplaceG, kwordG) => [(o, .inr (12, [.int kthrown, .ref ktape, .int (nI ktaped), .int (nI ksize), .int (nI klimit), .int (nI ktoG), .int (nI kfromG), .int kkindG, .int knumberG, .int ksignG, .int kfaultG, .int kplaceG, .long kwordG, .int ktold, .ref know, .ref kread, .ref kkept, .ref ksnaps, .ref kaside, .ref kname, .ref kreadName, .ref kkeptName, .ref kisKept, .ref konces, .int (nI ksnapMany), .int khasCells, .ref kpoured, .ref kfar, .ref ksides, .int (nI ksideMany), .int kwayDays, .int khasWay, .ref klines, .ref kmet, .int (nI kmetMany), .ref ksunk, .ref ktrying, .int (nI ksunkMany), .int ksending, .int kfleets, .ref ktext, .int (nI ktexts), .int kseed, .ref kline, .ref kwritten, .int (nI klineMany), .int khasWritten, .ref knode, .int (nI knodes), .int (nI konesMany), .int (nI kwithin), .int (nI ktop)])), (ktape, .inl (ky 0, 940, .inl ktapeF))]) (va_A [(o, .inr (12, [.int kthrown, .ref ktape, .int (nI ktaped), .int (nI ksize), .int (nI klimit), .int (nI kto), .int (nI kfrom), .int kkind, .int knumber, .int ksign, .int kfault, .int kplace, .long kword, .int ktold, .ref know, .ref kread, .ref kkept, .ref ksnaps, .ref kaside, .ref kname, .ref kreadName, .ref kkeptName, .ref kisKept, .ref konces, .int (nI ksnapMany), .int khasCells, .ref kpoured, .ref kfar, .ref ksides, .int (nI ksideMany), .int kwayDays, .int khasWay, .ref klines, .ref kmet, .int (nI kmetMany), .ref ksunk, .ref ktrying, .int (nI ksunkMany), .int ksending, .int kfleets, .ref ktext, .int (nI ktexts), .int kseed, .ref kline, .ref kwritten, .int (nI klineMany), .int khasWritten, .ref knode, .int (nI knodes), .int (nI konesMany), .int (nI kwithin), .int (nI ktop)])), (ktape, .inl (ky 0, 940, .inl ktapeF))] sz)) (va_A [(o, .inr (12, [.int kthrown, .ref ktape, .int (nI ktaped), .int (nI ksize), .int (nI klimit), .int (nI kto), .int (nI kfrom), .int kkind, .int knumber, .int ksign, .int kfault, .int kplace, .long kword, .int ktold, .ref know, .ref kread, .ref kkept, .ref ksnaps, .ref kaside, .ref kname, .ref kreadName, .ref kkeptName, .ref kisKept, .ref konces, .int (nI ksnapMany), .int khasCells, .ref kpoured, .ref kfar, .ref ksides, .int (nI ksideMany), .int kwayDays, .int khasWay, .ref klines, .ref kmet, .int (nI kmetMany), .ref ksunk, .ref ktrying, .int (nI ksunkMany), .int ksending, .int kfleets, .ref ktext, .int (nI ktexts), .int kseed, .ref kline, .ref kwritten, .int (nI klineMany), .int khasWritten, .ref knode, .int (nI knodes), .int (nI konesMany), .int (nI kwithin), .int (nI ktop)])), (ktape, .inl (ky 0, 940, .inl ktapeF))] sz)) 0 0 (va_A [(o, .inr (12, [.int kthrown, .ref ktape, .int (nI ktaped), .int (nI ksize), .int (nI klimit), .int (nI kto), .int (nI kfrom), .int kkind, .int knumber, .int ksign, .int kfault, .int kplace, .long kword, .int ktold, .ref know, .ref kread, .ref kkept, .ref ksnaps, .ref kaside, .ref kname, .ref kreadName, .ref kkeptName, .ref kisKept, .ref konces, .int (nI ksnapMany), .int khasCells, .ref kpoured, .ref kfar, .ref ksides, .int (nI ksideMany), .int kwayDays, .int khasWay, .ref klines, .ref kmet, .int (nI kmetMany), .ref ksunk, .ref ktrying, .int (nI ksunkMany), .int ksending, .int kfleets, .ref ktext, .int (nI ktexts), .int kseed, .ref kline, .ref kwritten, .int (nI klineMany), .int khasWritten, .ref knode, .int (nI knodes), .int (nI konesMany), .int (nI kwithin), .int (nI ktop)])), (ktape, .inl (ky 0, 940, .inl ktapeF))] sz) := by
  refine Met.ofW (cc := cX12_readEnd) (maxL := 1) (ret := (some .boolean)) (by decide) rfl ?_
  intro p e s m args below meth c s₁ B hml hv
  obtain ⟨rfl, hsz, hP, hK, hD0⟩ := hv
  have hx := B.exec
  have hb := B.bytes
  have hr := B.returns
  have hts := atoms_spec (ws := wsX12_readEnd) B.pre
  have hown : s.vm.findClass RX12 = some m.cls := findClass_of_methodNamed B.named
  have hlocks := B.notSynchronized
  subst hsz
  have hD := hD0.self (sz := s.heap.size)
  generalize hAe : va_A [(o, .inr (12, [.int kthrown, .ref ktape, .int (nI ktaped), .int (nI ksize), .int (nI klimit), .int (nI kto), .int (nI kfrom), .int kkind, .int knumber, .int ksign, .int kfault, .int kplace, .long kword, .int ktold, .ref know, .ref kread, .ref kkept, .ref ksnaps, .ref kaside, .ref kname, .ref kreadName, .ref kkeptName, .ref kisKept, .ref konces, .int (nI ksnapMany), .int khasCells, .ref kpoured, .ref kfar, .ref ksides, .int (nI ksideMany), .int kwayDays, .int khasWay, .ref klines, .ref kmet, .int (nI kmetMany), .ref ksunk, .ref ktrying, .int (nI ksunkMany), .int ksending, .int kfleets, .ref ktext, .int (nI ktexts), .int kseed, .ref kline, .ref kwritten, .int (nI klineMany), .int khasWritten, .ref knode, .int (nI knodes), .int (nI konesMany), .int (nI kwithin), .int (nI ktop)])), (ktape, .inl (ky 0, 940, .inl ktapeF))] s.heap.size = A at hD ⊢
  have hA : ∀ q : Nat, s.heap.size ≤ q → A q := fun q h => by rw [← hAe]; exact Or.inr h
  have hS : va_S A s.heap s.heap [] := va_S.rf
  have hl := lv_entry ([.ref o]) (n := 1) (Nat.le_of_ble_eq_true rfl)
  rw [lg_entry_eq]
  generalize (lg_sl ([.ref o]) ++ List.replicate (1 - (lg_sl ([.ref o])).length) Slot.unset).toArray = ls at hl ⊢
  have hl : lv_has ls 1 [(0, .ref o)] := hl
  refine q_name (fun Q hQ => ?_)
  generalize ([.ref o] : List Value).toArray = args at hts hQ ⊢
  refine lv_aload_n hx hb dX12_readEnd_0 rfl (lv_at hl 0 rfl) ?_
  refine lv_bipush (v := nI 59) hx hb dX12_readEnd_1 (by decide) ?_
  refine vp_callSi (W.runV (As := [.int (nI 59)]) (rest := []) ⟨hx, hb, hml, hown, hts⟩ (c_x_isSignE l dC dI ky o kthrown ktape ktaped ksize klimit kto kfrom kkind knumber ksign kfault kplace kword ktold know kread kkept ksnaps kaside kname kreadName kkeptName kisKept konces ksnapMany khasCells kpoured kfar ksides ksideMany kwayDays khasWay klines kmet kmetMany ksunk ktrying ksunkMany ksending kfleets ktext ktexts kseed kline kwritten klineMany khasWritten knode knodes konesMany kwithin ktop (nI 59) iv_ko_0 iv_ko_1 iv_ko_2 iv_ko_3 iv_ko_4 iv_ko_5 iv_ko_6 iv_ko_7 iv_ko_8 iv_ko_9 iv_ko_10 iv_ko_11 iv_ko_12 iv_ko_13 iv_ko_14) (cwV 1 hts gX12_readEnd_X12_isSign rfl rfl rfl (by decide +kernel) ⟨(Nat.le_of_ble_eq_true rfl), (Nat.le_of_ble_eq_true rfl)⟩) (pre_PV hK hP [0] rfl (ci := 12) (q0 := 0) rfl rfl) rfl rfl hl.1 rfl (lv_room (Nat.le_of_ble_eq_true rfl)) dX12_readEnd_3 ⟨(Nat.le_of_ble_eq_true rfl), (Nat.le_of_ble_eq_true rfl)⟩) (fun r1 p2 => ?_)
  rcases p2 with ⟨rfl, t3⟩ | ⟨rfl, t4⟩
  · refine lv_if_ne (tgt := 15) hx hb dX12_readEnd_6 (by decide) (fun c5 => ?_) (fun c5 => absurd c5 (by decide))
    refine lv_aload_n hx hb dX12_readEnd_15 rfl (lv_at hl 0 rfl) ?_
    refine r_call_v (wr := []) (va_runV (As := []) (rest := []) ⟨hx, hb, hml, hown, hts⟩ (c_x_goP l dC dI ky s.heap.size o kthrown ktape ktaped ksize klimit kto kfrom kkind knumber ksign kfault kplace kword ktold know kread kkept ksnaps kaside kname kreadName kkeptName kisKept konces ksnapMany khasCells kpoured kfar ksides ksideMany kwayDays khasWay klines kmet kmetMany ksunk ktrying ksunkMany ksending kfleets ktext ktexts kseed kline kwritten klineMany khasWritten knode knodes konesMany kwithin ktop ktapeF iv_ko_0 iv_ko_1 iv_ko_2 iv_ko_3 iv_ko_4 iv_ko_5 iv_ko_6 iv_ko_7 iv_ko_8 iv_ko_9 iv_ko_10 iv_ko_11 iv_ko_12 iv_ko_13 iv_ko_14) (cwV 0 hts gX12_readEnd_X12_go rfl rfl rfl (by decide +kernel) ⟨(Nat.le_of_ble_eq_true rfl), (Nat.le_of_ble_eq_true rfl)⟩) (pre_UV hK hP hD [0, 1] (by decide) rfl (ci := 12) (q0 := 0) rfl rfl) rfl rfl hl.1 rfl (lv_room (Nat.le_of_ble_eq_true rfl)) dX12_readEnd_16 ⟨(Nat.le_of_ble_eq_true rfl), (Nat.le_of_ble_eq_true rfl)⟩) hP hD hS hA [0, 1] [] rfl rfl (by decide) (by decide) (fun  u6 H locs p7 hP hD hS => ?_)
    obtain ⟨ktoG_8, kfromG_9, kkindG_10, knumberG_11, ksignG_12, kwordG_13⟩ := u6
    try dsimp only at p7
    obtain ⟨p14, p15, p16, p17, p18⟩ := p7
    refine W.widen (k := 0) (n := 0) (Nat.le_of_ble_eq_true rfl) (Nat.le_of_ble_eq_true rfl) ?_
    have hP : va_P (dC, dI) vwCl [(o, .inr (12, [.int kthrown, .ref ktape, .int (nI ktaped), .int (nI ksize), .int (nI klimit), .int (nI ktoG_8), .int (nI kfromG_9), .int kkindG_10, .int knumberG_11, .int ksignG_12, .int kfault, .int kplace, .long kwordG_13, .int ktold, .ref know, .ref kread, .ref kkept, .ref ksnaps, .ref kaside, .ref kname, .ref kreadName, .ref kkeptName, .ref kisKept, .ref konces, .int (nI ksnapMany), .int khasCells, .ref kpoured, .ref kfar, .ref ksides, .int (nI ksideMany), .int kwayDays, .int khasWay, .ref klines, .ref kmet, .int (nI kmetMany), .ref ksunk, .ref ktrying, .int (nI ksunkMany), .int ksending, .int kfleets, .ref ktext, .int (nI ktexts), .int kseed, .ref kline, .ref kwritten, .int (nI klineMany), .int khasWritten, .ref knode, .int (nI knodes), .int (nI konesMany), .int (nI kwithin), .int (nI ktop)])), (ktape, .inl (ky 0, 940, .inl ktapeF))] H := hP
    have hD : va_D A [(o, .inr (12, [.int kthrown, .ref ktape, .int (nI ktaped), .int (nI ksize), .int (nI klimit), .int (nI ktoG_8), .int (nI kfromG_9), .int kkindG_10, .int knumberG_11, .int ksignG_12, .int kfault, .int kplace, .long kwordG_13, .int ktold, .ref know, .ref kread, .ref kkept, .ref ksnaps, .ref kaside, .ref kname, .ref kreadName, .ref kkeptName, .ref kisKept, .ref konces, .int (nI ksnapMany), .int khasCells, .ref kpoured, .ref kfar, .ref ksides, .int (nI ksideMany), .int kwayDays, .int khasWay, .ref klines, .ref kmet, .int (nI kmetMany), .ref ksunk, .ref ktrying, .int (nI ksunkMany), .int ksending, .int kfleets, .ref ktext, .int (nI ktexts), .int kseed, .ref kline, .ref kwritten, .int (nI klineMany), .int khasWritten, .ref knode, .int (nI knodes), .int (nI konesMany), .int (nI kwithin), .int (nI ktop)])), (ktape, .inl (ky 0, 940, .inl ktapeF))] := hD
    refine lv_iconst (v := nI 1) hx hb dX12_readEnd_19 (by decide) ?_
    rw [hQ]
    exact W.zret (v := nI 1) hx hb hr (by decide) (fun t9 ht9 hW9 => ⟨⟨nI 1, (ktoG_8, kfromG_9, kkindG_10, knumberG_11, ksignG_12, kfault, kplace, kwordG_13), rfl, ⟨(lf_x_readEndP_1 ksize kto kkind ktoG_8 kkindG_10 knumberG_11 iv_ko_1 iv_ko_3 t3 p14 p16 p17 p18), p14, p15⟩, by rw [ht9]; exact hP, va_K.moved hW9.alike hK, hD⟩, hS.F ht9⟩) hS.2.2 dX12_readEnd_20
  · refine lv_if_ne (tgt := 15) hx hb dX12_readEnd_6 (by decide) (fun c19 => absurd c19 (by decide)) (fun c19 => ?_)
    refine lv_aload_n hx hb dX12_readEnd_9 rfl (lv_at hl 0 rfl) ?_
    refine lv_iconst (v := nI 1) hx hb dX12_readEnd_10 (by decide) ?_
    refine r_call_i (wr := [(ktape, .inl (ky 0, 940, .inl ktapeF))]) (va_runV (As := [.int (nI 1)]) (rest := []) ⟨hx, hb, hml, hown, hts⟩ (c_x_bad l dC dI ky s.heap.size o kthrown ktape ktaped ksize klimit kto kfrom kkind knumber ksign kfault kplace kword ktold know kread kkept ksnaps kaside kname kreadName kkeptName kisKept konces ksnapMany khasCells kpoured kfar ksides ksideMany kwayDays khasWay klines kmet kmetMany ksunk ktrying ksunkMany ksending kfleets ktext ktexts kseed kline kwritten klineMany khasWritten knode knodes konesMany kwithin ktop (nI 1) iv_ko_0 iv_ko_1 iv_ko_2 iv_ko_3 iv_ko_4 iv_ko_5 iv_ko_6 iv_ko_7 iv_ko_8 iv_ko_9 iv_ko_10 iv_ko_11 iv_ko_12 iv_ko_13 iv_ko_14) (cwV 1 hts gX12_readEnd_X12_bad rfl rfl rfl (by decide +kernel) ⟨(Nat.le_of_ble_eq_true rfl), (Nat.le_of_ble_eq_true rfl)⟩) (pre_UV hK hP hD [0] (by decide) rfl (ci := 12) (q0 := 0) rfl rfl) rfl rfl hl.1 rfl (lv_room (Nat.le_of_ble_eq_true rfl)) dX12_readEnd_11 ⟨(Nat.le_of_ble_eq_true rfl), (Nat.le_of_ble_eq_true rfl)⟩) hP hD hS hA [0] [1] rfl rfl (by decide) (by decide) (fun r22 u20 H locs p21 hP hD hS => ?_)
    obtain ⟨kfaultG_23, kplaceG_24⟩ := u20
    try dsimp only at p21
    have p25 := p21
    refine W.widen (k := 0) (n := 0) (Nat.le_of_ble_eq_true rfl) (Nat.le_of_ble_eq_true rfl) ?_
    have hP : va_P (dC, dI) vwCl [(ktape, .inl (ky 0, 940, .inl ktapeF)), (o, .inr (12, [.int kthrown, .ref ktape, .int (nI ktaped), .int (nI ksize), .int (nI klimit), .int (nI kto), .int (nI kfrom), .int kkind, .int knumber, .int ksign, .int kfaultG_23, .int kplaceG_24, .long kword, .int ktold, .ref know, .ref kread, .ref kkept, .ref ksnaps, .ref kaside, .ref kname, .ref kreadName, .ref kkeptName, .ref kisKept, .ref konces, .int (nI ksnapMany), .int khasCells, .ref kpoured, .ref kfar, .ref ksides, .int (nI ksideMany), .int kwayDays, .int khasWay, .ref klines, .ref kmet, .int (nI kmetMany), .ref ksunk, .ref ktrying, .int (nI ksunkMany), .int ksending, .int kfleets, .ref ktext, .int (nI ktexts), .int kseed, .ref kline, .ref kwritten, .int (nI klineMany), .int khasWritten, .ref knode, .int (nI knodes), .int (nI konesMany), .int (nI kwithin), .int (nI ktop)]))] H := hP
    have hD : va_D A [(ktape, .inl (ky 0, 940, .inl ktapeF)), (o, .inr (12, [.int kthrown, .ref ktape, .int (nI ktaped), .int (nI ksize), .int (nI klimit), .int (nI kto), .int (nI kfrom), .int kkind, .int knumber, .int ksign, .int kfaultG_23, .int kplaceG_24, .long kword, .int ktold, .ref know, .ref kread, .ref kkept, .ref ksnaps, .ref kaside, .ref kname, .ref kreadName, .ref kkeptName, .ref kisKept, .ref konces, .int (nI ksnapMany), .int khasCells, .ref kpoured, .ref kfar, .ref ksides, .int (nI ksideMany), .int kwayDays, .int khasWay, .ref klines, .ref kmet, .int (nI kmetMany), .ref ksunk, .ref ktrying, .int (nI ksunkMany), .int ksending, .int kfleets, .ref ktext, .int (nI ktexts), .int kseed, .ref kline, .ref kwritten, .int (nI klineMany), .int khasWritten, .ref knode, .int (nI knodes), .int (nI konesMany), .int (nI kwithin), .int (nI ktop)]))] := hD
    subst p25
    rw [hQ]
    have hP9 := hP.sub (ws' := [(o, .inr (12, [.int kthrown, .ref ktape, .int (nI ktaped), .int (nI ksize), .int (nI klimit), .int (nI kto), .int (nI kfrom), .int kkind, .int knumber, .int ksign, .int kfaultG_23, .int kplaceG_24, .long kword, .int ktold, .ref know, .ref kread, .ref kkept, .ref ksnaps, .ref kaside, .ref kname, .ref kreadName, .ref kkeptName, .ref kisKept, .ref konces, .int (nI ksnapMany), .int khasCells, .ref kpoured, .ref kfar, .ref ksides, .int (nI ksideMany), .int kwayDays, .int khasWay, .ref klines, .ref kmet, .int (nI kmetMany), .ref ksunk, .ref ktrying, .int (nI ksunkMany), .int ksending, .int kfleets, .ref ktext, .int (nI ktexts), .int kseed, .ref kline, .ref kwritten, .int (nI klineMany), .int khasWritten, .ref knode, .int (nI knodes), .int (nI konesMany), .int (nI kwithin), .int (nI ktop)])), (ktape, .inl (ky 0, 940, .inl ktapeF))]) [1, 0] rfl
    have hD9 := hD.sub (ws' := [(o, .inr (12, [.int kthrown, .ref ktape, .int (nI ktaped), .int (nI ksize), .int (nI klimit), .int (nI kto), .int (nI kfrom), .int kkind, .int knumber, .int ksign, .int kfaultG_23, .int kplaceG_24, .long kword, .int ktold, .ref know, .ref kread, .ref kkept, .ref ksnaps, .ref kaside, .ref kname, .ref kreadName, .ref kkeptName, .ref kisKept, .ref konces, .int (nI ksnapMany), .int khasCells, .ref kpoured, .ref kfar, .ref ksides, .int (nI ksideMany), .int kwayDays, .int khasWay, .ref klines, .ref kmet, .int (nI kmetMany), .ref ksunk, .ref ktrying, .int (nI ksunkMany), .int ksending, .int kfleets, .ref ktext, .int (nI ktexts), .int kseed, .ref kline, .ref kwritten, .int (nI klineMany), .int khasWritten, .ref knode, .int (nI knodes), .int (nI konesMany), .int (nI kwithin), .int (nI ktop)])), (ktape, .inl (ky 0, 940, .inl ktapeF))]) [1, 0] (by decide) rfl
    exact W.zret (v := nI 0) hx hb hr (by decide) (fun t9 ht9 hW9 => ⟨⟨nI 0, (kto, kfrom, kkind, knumber, ksign, kfaultG_23, kplaceG_24, kword), rfl, ⟨(lf_x_readEndP_2 ksize kto kkind iv_ko_1 iv_ko_3 t4), iv_ko_3, iv_ko_4⟩, by rw [ht9]; exact hP9, va_K.moved hW9.alike hK, hD9⟩, hS.F ht9⟩) hS.2.2 dX12_readEnd_14
