theorem MSr_0 {f : Nat → Int32} (h : ∀ j, j < 67 → f j = nI 0) : MSr s0 (upd (upd (upd (upd (upd f 0 (nI 4)) 1 (nI 4)) 4 (nI 10)) 5 (nI 1)) 6 (nI 3)) := by
  intro k hk
  unfold upd
  by_cases q6 : k = 6
  · rw [if_pos q6, q6]; rfl
  rw [if_neg q6]
  by_cases q5 : k = 5
  · rw [if_pos q5, q5]; rfl
  rw [if_neg q5]
  by_cases q4 : k = 4
  · rw [if_pos q4, q4]; rfl
  rw [if_neg q4]
  by_cases q1 : k = 1
  · rw [if_pos q1, q1]; rfl
  rw [if_neg q1]
  by_cases q0 : k = 0
  · rw [if_pos q0, q0]; rfl
  rw [if_neg q0, h k hk]
  unfold s0
  rw [if_neg (by omega), if_neg q4, if_neg q5, if_neg q6]
theorem RB_0 {f : Nat → Int32} (h : MSr s0 f) : RB f := by
  intro j hj
  have h1 : ∀ j, j < 67 → lo_RB j ≤ ((s0 j : Nat) : Int) ∧ ((s0 j : Nat) : Int) ≤ hi_RB j ∧ s0 j < 100 := by decide +kernel
  obtain ⟨a, b, c⟩ := h1 j hj
  rw [h j hj, ia_n _ (by omega)]
  exact ⟨a, b⟩
theorem MSn_0 (f : Nat → Int64) : MSn s0 (fun _ => 0) f := ⟨fun k hk => absurd hk (Nat.not_lt_zero k), fun k hk => absurd hk (Nat.not_lt_zero k)⟩
theorem MSf_0 {f : Nat → Int32} (h : ∀ j, j < 4 → f j = 0) : MSf s0 f (nI 0) := by
  refine ⟨?_, ?_, ?_, ?_, ?_⟩
  · exact ⟨fun _ => by decide, fun _ => h 0 (by decide)⟩
  · exact ⟨fun _ => by decide, fun _ => h 1 (by decide)⟩
  · exact ⟨fun _ => by decide, fun _ => h 2 (by decide)⟩
  · exact ⟨fun _ => by decide, fun _ => h 3 (by decide)⟩
  · exact ⟨fun _ => by decide, fun _ => by decide⟩
theorem seaA_e (a b : Nat) : seaA (.error (a, b)) = (-1 : Int32) - nI b := seaA_f (x := .error (a, b)) rfl ▸ rfl
theorem seaA_o (k : Nat) (σ ν : Nat → Nat) : seaA (.ok (k, σ, ν)) = nI k := (seaA_t (x := .ok (k, σ, ν)) rfl rfl).symm
set_option maxRecDepth 20000 in
theorem lf_g_startRead_1 (k7 : Nat) (f8 : Nat → Int32) (n11 : Nat) (g29 : Nat → Int32) (g31 : Nat → Int32) (g33 : Nat → Int32) (g35 : Nat → Int32) (g37 : Nat → Int32) (j9 : k7 ≤ 67) (jR : ∀ j, j < k7 → f8 j = nI 0) (hm13 : 67 - k7 < n11 + 1) (c14 : 67 ≤ k7) (e30 : g29 = upd f8 0 (nI 4)) (e32 : g31 = upd g29 1 (nI 4)) (e34 : g33 = upd g31 4 (nI 10)) (e36 : g35 = upd g33 5 (nI 1)) (e38 : g37 = upd g35 6 (nI 3)) : RB g37 := by
  have q := MSr_0 (f := f8) (fun j hj => jR j (by omega))
  subst_vars
  exact RB_0 q
set_option maxRecDepth 20000 in
theorem lf_g_startRead_2 (k7 : Nat) (f8 : Nat → Int32) (n11 : Nat) (g29 : Nat → Int32) (g31 : Nat → Int32) (g33 : Nat → Int32) (g35 : Nat → Int32) (g37 : Nat → Int32) (j9 : k7 ≤ 67) (jR : ∀ j, j < k7 → f8 j = nI 0) (hm13 : 67 - k7 < n11 + 1) (c14 : 67 ≤ k7) (e30 : g29 = upd f8 0 (nI 4)) (e32 : g31 = upd g29 1 (nI 4)) (e34 : g33 = upd g31 4 (nI 10)) (e36 : g35 = upd g33 5 (nI 1)) (e38 : g37 = upd g35 6 (nI 3)) : MSr s0 g37 := by
  have q := MSr_0 (f := f8) (fun j hj => jR j (by omega))
  subst_vars
  exact q
set_option maxRecDepth 20000 in
theorem lf_g_startRead_3 (k21 : Nat) (f22 : Nat → Int32) (n25 : Nat) (j23 : k21 ≤ 4) (jZ : ∀ j, j < k21 → f22 j = 0) (hm27 : 4 - k21 < n25 + 1) (c28 : 4 ≤ k21) : ∀ j, j < 4 → f22 j = 0 := by
  intro j hj
  exact jZ j (by omega)
set_option maxRecDepth 20000 in
theorem lf_g_startRead_4 (k21 : Nat) (f22 : Nat → Int32) (n25 : Nat) (j23 : k21 ≤ 4) (jZ : ∀ j, j < k21 → f22 j = 0) (hm27 : 4 - k21 < n25 + 1) (c28 : k21 < 4) : k21 < 4 := by
  try simp only [ia_lt, ia_le, ia_eq, ia_m1, ia_0, ia_1, ne_eq, true_and, and_true, false_and, and_false, or_false, false_or, or_true, true_or, not_true_eq_false, not_false_eq_true] at *
  all_goals omega
set_option maxRecDepth 20000 in
theorem lf_g_startRead_5 (k21 : Nat) (f22 : Nat → Int32) (n25 : Nat) (g39 : Nat → Int32) (j23 : k21 ≤ 4) (jZ : ∀ j, j < k21 → f22 j = 0) (hm27 : 4 - k21 < n25 + 1) (c28 : k21 < 4) (e40 : g39 = upd f22 k21 (vp_nar .boolean (nI 0))) : (k21 + 1) ≤ 4 := by
  try have k_0 := ia_n 0 (by first | decide | omega)
  try simp only [ia_lt, ia_le, ia_eq, ia_m1, ia_0, ia_1, ne_eq, true_and, and_true, false_and, and_false, or_false, false_or, or_true, true_or, not_true_eq_false, not_false_eq_true] at *
  all_goals omega
set_option maxRecDepth 20000 in
theorem lf_g_startRead_6 (k21 : Nat) (f22 : Nat → Int32) (n25 : Nat) (g39 : Nat → Int32) (j23 : k21 ≤ 4) (jZ : ∀ j, j < k21 → f22 j = 0) (hm27 : 4 - k21 < n25 + 1) (c28 : k21 < 4) (e40 : g39 = upd f22 k21 (vp_nar .boolean (nI 0))) : ∀ j, j < (k21 + 1) → g39 j = 0 := by
  intro j hj
  subst_vars
  unfold upd
  by_cases q : j = k21
  · rw [if_pos q]; decide
  · rw [if_neg q]; exact jZ j (by omega)
set_option maxRecDepth 20000 in
theorem lf_g_startRead_7 (k21 : Nat) (f22 : Nat → Int32) (n25 : Nat) (g39 : Nat → Int32) (j23 : k21 ≤ 4) (jZ : ∀ j, j < k21 → f22 j = 0) (hm27 : 4 - k21 < n25 + 1) (c28 : k21 < 4) (e40 : g39 = upd f22 k21 (vp_nar .boolean (nI 0))) : 4 - (k21 + 1) < n25 := by
  try have k_0 := ia_n 0 (by first | decide | omega)
  try simp only [ia_lt, ia_le, ia_eq, ia_m1, ia_0, ia_1, ne_eq, true_and, and_true, false_and, and_false, or_false, false_or, or_true, true_or, not_true_eq_false, not_false_eq_true] at *
  all_goals omega
set_option maxRecDepth 20000 in
theorem lf_g_startRead_8   : 0 ≤ 4 := by
  try simp only [ia_lt, ia_le, ia_eq, ia_m1, ia_0, ia_1, ne_eq, true_and, and_true, false_and, and_false, or_false, false_or, or_true, true_or, not_true_eq_false, not_false_eq_true] at *
  all_goals omega
set_option maxRecDepth 20000 in
theorem lf_g_startRead_9 (koncesF : Nat → Int32)  : ∀ j, j < 0 → koncesF j = 0 := by
  intro j hj; exact absurd hj (Nat.not_lt_zero j)
set_option maxRecDepth 20000 in
theorem lf_g_startRead_10 (k7 : Nat) (f8 : Nat → Int32) (n11 : Nat) (j9 : k7 ≤ 67) (jR : ∀ j, j < k7 → f8 j = nI 0) (hm13 : 67 - k7 < n11 + 1) (c14 : k7 < 67) : k7 < 67 := by
  try have k_0 := ia_n 0 (by first | decide | omega)
  try simp only [ia_lt, ia_le, ia_eq, ia_m1, ia_0, ia_1, ne_eq, true_and, and_true, false_and, and_false, or_false, false_or, or_true, true_or, not_true_eq_false, not_false_eq_true] at *
  all_goals omega
set_option maxRecDepth 20000 in
theorem lf_g_startRead_11 (k7 : Nat) (f8 : Nat → Int32) (n11 : Nat) (g41 : Nat → Int32) (j9 : k7 ≤ 67) (jR : ∀ j, j < k7 → f8 j = nI 0) (hm13 : 67 - k7 < n11 + 1) (c14 : k7 < 67) (e42 : g41 = upd f8 k7 (nI 0)) : (k7 + 1) ≤ 67 := by
  try have k_0 := ia_n 0 (by first | decide | omega)
  try simp only [ia_lt, ia_le, ia_eq, ia_m1, ia_0, ia_1, ne_eq, true_and, and_true, false_and, and_false, or_false, false_or, or_true, true_or, not_true_eq_false, not_false_eq_true] at *
  all_goals omega
set_option maxRecDepth 20000 in
theorem lf_g_startRead_12 (k7 : Nat) (f8 : Nat → Int32) (n11 : Nat) (g41 : Nat → Int32) (j9 : k7 ≤ 67) (jR : ∀ j, j < k7 → f8 j = nI 0) (hm13 : 67 - k7 < n11 + 1) (c14 : k7 < 67) (e42 : g41 = upd f8 k7 (nI 0)) : ∀ j, j < (k7 + 1) → g41 j = nI 0 := by
  intro j hj
  subst_vars
  unfold upd
  by_cases q : j = k7
  · rw [if_pos q]
  · rw [if_neg q]; exact jR j (by omega)
set_option maxRecDepth 20000 in
theorem lf_g_startRead_13 (k7 : Nat) (f8 : Nat → Int32) (n11 : Nat) (g41 : Nat → Int32) (j9 : k7 ≤ 67) (jR : ∀ j, j < k7 → f8 j = nI 0) (hm13 : 67 - k7 < n11 + 1) (c14 : k7 < 67) (e42 : g41 = upd f8 k7 (nI 0)) : 67 - (k7 + 1) < n11 := by
  try have k_0 := ia_n 0 (by first | decide | omega)
  try simp only [ia_lt, ia_le, ia_eq, ia_m1, ia_0, ia_1, ne_eq, true_and, and_true, false_and, and_false, or_false, false_or, or_true, true_or, not_true_eq_false, not_false_eq_true] at *
  all_goals omega
set_option maxRecDepth 20000 in
theorem lf_g_startRead_14   : 0 ≤ 67 := by
  try simp only [ia_lt, ia_le, ia_eq, ia_m1, ia_0, ia_1, ne_eq, true_and, and_true, false_and, and_false, or_false, false_or, or_true, true_or, not_true_eq_false, not_false_eq_true] at *
  all_goals omega
set_option maxRecDepth 20000 in
theorem lf_g_startRead_15 (kreadF : Nat → Int32)  : ∀ j, j < 0 → kreadF j = nI 0 := by
  intro j hj; exact absurd hj (Nat.not_lt_zero j)
set_option maxHeartbeats 4000000 in
set_option maxRecDepth 100000 in
theorem c_g_startRead (l : Launch) (dC : Nat → ClassId) (dI : Nat → Nat → Nat) (ky : Nat → ClassId) (sz : Nat) (o : Nat) (kthrown : Int32) (ktape : Nat) (ktaped : Nat) (ksize : Nat) (klimit : Nat) (kto : Nat) (kfrom : Nat) (kkind : Int32) (knumber : Int32) (ksign : Int32) (kfault : Int32) (kplace : Int32) (kword : Int64) (ktold : Int32) (know : Nat) (kread : Nat) (kkept : Nat) (ksnaps : Nat) (kaside : Nat) (kname : Nat) (kreadName : Nat) (kkeptName : Nat) (kisKept : Nat) (konces : Nat) (ksnapMany : Nat) (khasCells : Int32) (kpoured : Nat) (kfar : Nat) (ksides : Nat) (ksideMany : Nat) (kwayDays : Int32) (khasWay : Int32) (klines : Nat) (kmet : Nat) (kmetMany : Nat) (ksunk : Nat) (ktrying : Nat) (ksunkMany : Nat) (ksending : Int32) (kfleets : Int32) (ktext : Nat) (ktexts : Nat) (kseed : Int32) (kline : Nat) (kwritten : Nat) (klineMany : Nat) (khasWritten : Int32) (knode : Nat) (knodes : Nat) (konesMany : Nat) (kwithin : Nat) (ktop : Nat) (kreadF : Nat → Int32) (koncesF : Nat → Int32) (iv_ko_0 : ktaped ≤ 940) (iv_ko_1 : ksize ≤ 940) (iv_ko_2 : klimit ≤ 900) (iv_ko_3 : kto ≤ ksize) (iv_ko_4 : kfrom ≤ 940) (iv_ko_5 : ksnapMany ≤ 8) (iv_ko_6 : ksideMany ≤ 36) (iv_ko_7 : kmetMany ≤ 3) (iv_ko_8 : ksunkMany ≤ 36) (iv_ko_9 : ktexts ≤ 64) (iv_ko_10 : klineMany ≤ 40) (iv_ko_11 : knodes ≤ 60) (iv_ko_12 : konesMany ≤ 20) (iv_ko_13 : kwithin ≤ 8) (iv_ko_14 : ktop ≤ 59) : Met l yX12_startRead wsX12_startRead ({ frames := 0, cells := 0, slots := 0, locals := 0 }) (PcU dC dI ky [.ref o] [(o, .inr (12, [.int kthrown, .ref ktape, .int (nI ktaped), .int (nI ksize), .int (nI klimit), .int (nI kto), .int (nI kfrom), .int kkind, .int knumber, .int ksign, .int kfault, .int kplace, .long kword, .int ktold, .ref know, .ref kread, .ref kkept, .ref ksnaps, .ref kaside, .ref kname, .ref kreadName, .ref kkeptName, .ref kisKept, .ref konces, .int (nI ksnapMany), .int khasCells, .ref kpoured, .ref kfar, .ref ksides, .int (nI ksideMany), .int kwayDays, .int khasWay, .ref klines, .ref kmet, .int (nI kmetMany), .ref ksunk, .ref ktrying, .int (nI ksunkMany), .int ksending, .int kfleets, .ref ktext, .int (nI ktexts), .int kseed, .ref kline, .ref kwritten, .int (nI klineMany), .int khasWritten, .ref knode, .int (nI knodes), .int (nI konesMany), .int (nI kwithin), .int (nI ktop)])), (kread, .inl (ky 0, 67, .inl kreadF)), (konces, .inl (ky 3, 4, .inl koncesF))] sz) (va_Qv (fun (u : (Nat → Int32) × (Nat → Int32)) => match u with | (kreadG, koncesG) => (RB kreadG) ∧ (MSr s0 kreadG) ∧ (∀ j, j < 4 → koncesG j = 0)) (BU dC dI ky (fun (u : (Nat → Int32) × (Nat → Int32)) => match u with | (kreadG, koncesG) => [(o, .inr (12, [.int kthrown, .ref ktape, .int (nI ktaped), .int (nI ksize), .int (nI klimit), .int (nI kto), .int (nI kfrom), .int kkind, .int knumber, .int ksign, .int kfault, .int kplace, .long kword, .int ktold, .ref know, .ref kread, .ref kkept, .ref ksnaps, .ref kaside, .ref kname, .ref kreadName, .ref kkeptName, .ref kisKept, .ref konces, .int (nI ksnapMany), .int khasCells, .ref kpoured, .ref kfar, .ref ksides, .int (nI ksideMany), .int kwayDays, .int khasWay, .ref klines, .ref kmet, .int (nI kmetMany), .ref ksunk, .ref ktrying, .int (nI ksunkMany), .int ksending, .int kfleets, .ref ktext, .int (nI ktexts), .int kseed, .ref kline, .ref kwritten, .int (nI klineMany), .int khasWritten, .ref knode, .int (nI knodes), .int (nI konesMany), .int (nI kwithin), .int (nI ktop)])), (kread, .inl (ky 0, 67, .inl kreadG)), (konces, .inl (ky 3, 4, .inl koncesG))]) (va_A [(o, .inr (12, [.int kthrown, .ref ktape, .int (nI ktaped), .int (nI ksize), .int (nI klimit), .int (nI kto), .int (nI kfrom), .int kkind, .int knumber, .int ksign, .int kfault, .int kplace, .long kword, .int ktold, .ref know, .ref kread, .ref kkept, .ref ksnaps, .ref kaside, .ref kname, .ref kreadName, .ref kkeptName, .ref kisKept, .ref konces, .int (nI ksnapMany), .int khasCells, .ref kpoured, .ref kfar, .ref ksides, .int (nI ksideMany), .int kwayDays, .int khasWay, .ref klines, .ref kmet, .int (nI kmetMany), .ref ksunk, .ref ktrying, .int (nI ksunkMany), .int ksending, .int kfleets, .ref ktext, .int (nI ktexts), .int kseed, .ref kline, .ref kwritten, .int (nI klineMany), .int khasWritten, .ref knode, .int (nI knodes), .int (nI konesMany), .int (nI kwithin), .int (nI ktop)])), (kread, .inl (ky 0, 67, .inl kreadF)), (konces, .inl (ky 3, 4, .inl koncesF))] sz)) (va_A [(o, .inr (12, [.int kthrown, .ref ktape, .int (nI ktaped), .int (nI ksize), .int (nI klimit), .int (nI kto), .int (nI kfrom), .int kkind, .int knumber, .int ksign, .int kfault, .int kplace, .long kword, .int ktold, .ref know, .ref kread, .ref kkept, .ref ksnaps, .ref kaside, .ref kname, .ref kreadName, .ref kkeptName, .ref kisKept, .ref konces, .int (nI ksnapMany), .int khasCells, .ref kpoured, .ref kfar, .ref ksides, .int (nI ksideMany), .int kwayDays, .int khasWay, .ref klines, .ref kmet, .int (nI kmetMany), .ref ksunk, .ref ktrying, .int (nI ksunkMany), .int ksending, .int kfleets, .ref ktext, .int (nI ktexts), .int kseed, .ref kline, .ref kwritten, .int (nI klineMany), .int khasWritten, .ref knode, .int (nI knodes), .int (nI konesMany), .int (nI kwithin), .int (nI ktop)])), (kread, .inl (ky 0, 67, .inl kreadF)), (konces, .inl (ky 3, 4, .inl koncesF))] sz)) 0 0 (va_A [(o, .inr (12, [.int kthrown, .ref ktape, .int (nI ktaped), .int (nI ksize), .int (nI klimit), .int (nI kto), .int (nI kfrom), .int kkind, .int knumber, .int ksign, .int kfault, .int kplace, .long kword, .int ktold, .ref know, .ref kread, .ref kkept, .ref ksnaps, .ref kaside, .ref kname, .ref kreadName, .ref kkeptName, .ref kisKept, .ref konces, .int (nI ksnapMany), .int khasCells, .ref kpoured, .ref kfar, .ref ksides, .int (nI ksideMany), .int kwayDays, .int khasWay, .ref klines, .ref kmet, .int (nI kmetMany), .ref ksunk, .ref ktrying, .int (nI ksunkMany), .int ksending, .int kfleets, .ref ktext, .int (nI ktexts), .int kseed, .ref kline, .ref kwritten, .int (nI klineMany), .int khasWritten, .ref knode, .int (nI knodes), .int (nI konesMany), .int (nI kwithin), .int (nI ktop)])), (kread, .inl (ky 0, 67, .inl kreadF)), (konces, .inl (ky 3, 4, .inl koncesF))] sz) := by
  refine Met.ofW (cc := cX12_startRead) (maxL := 2) (ret := none) (by decide) rfl ?_
  intro p e s m args below meth c s₁ B hml hv
  obtain ⟨rfl, hsz, hP, hK, hD0⟩ := hv
  have hx := B.exec
  have hb := B.bytes
  have hr := B.returns
  have hts := atoms_spec (ws := wsX12_startRead) B.pre
  have hown : s.vm.findClass RX12 = some m.cls := findClass_of_methodNamed B.named
  have hlocks := B.notSynchronized
  have hin12 : ∀ w ∈ u_ws RX12 TX12 52, w ∈ wsX12_startRead := by decide +kernel
  subst hsz
  have hD := hD0.self (sz := s.heap.size)
  generalize hAe : va_A [(o, .inr (12, [.int kthrown, .ref ktape, .int (nI ktaped), .int (nI ksize), .int (nI klimit), .int (nI kto), .int (nI kfrom), .int kkind, .int knumber, .int ksign, .int kfault, .int kplace, .long kword, .int ktold, .ref know, .ref kread, .ref kkept, .ref ksnaps, .ref kaside, .ref kname, .ref kreadName, .ref kkeptName, .ref kisKept, .ref konces, .int (nI ksnapMany), .int khasCells, .ref kpoured, .ref kfar, .ref ksides, .int (nI ksideMany), .int kwayDays, .int khasWay, .ref klines, .ref kmet, .int (nI kmetMany), .ref ksunk, .ref ktrying, .int (nI ksunkMany), .int ksending, .int kfleets, .ref ktext, .int (nI ktexts), .int kseed, .ref kline, .ref kwritten, .int (nI klineMany), .int khasWritten, .ref knode, .int (nI knodes), .int (nI konesMany), .int (nI kwithin), .int (nI ktop)])), (kread, .inl (ky 0, 67, .inl kreadF)), (konces, .inl (ky 3, 4, .inl koncesF))] s.heap.size = A at hD ⊢
  have hA : ∀ q : Nat, s.heap.size ≤ q → A q := fun q h => by rw [← hAe]; exact Or.inr h
  have hS : va_S A s.heap s.heap [] := va_S.rf
  have hl := lv_entry ([.ref o]) (n := 2) (Nat.le_of_ble_eq_true rfl)
  rw [lg_entry_eq]
  generalize (lg_sl ([.ref o]) ++ List.replicate (2 - (lg_sl ([.ref o])).length) Slot.unset).toArray = ls at hl ⊢
  have hl : lv_has ls 2 [(0, .ref o)] := hl
  refine q_name (fun Q hQ => ?_)
  generalize ([.ref o] : List Value).toArray = args at hts hQ ⊢
  refine lv_iconst (v := nI 0) hx hb dX12_startRead_0 (by decide) ?_
  refine lv_istore_n (lv' := [(1, .int (nI 0)), (0, .ref o)]) hx hb dX12_startRead_1 rfl hl (by decide) rfl (fun ls hl => ?_)
  have hL10 : ∀ (n11 : Nat) (k7 : Nat) (f8 : Nat → Int32), (k7 ≤ 67) → (∀ j, j < k7 → f8 j = nI 0) → 67 - k7 < n11 → ∀ (H : Heap) (locs : List Loc) (ls : Array Slot), va_P (dC, dI) vwCl [(o, .inr (12, [.int kthrown, .ref ktape, .int (nI ktaped), .int (nI ksize), .int (nI klimit), .int (nI kto), .int (nI kfrom), .int kkind, .int knumber, .int ksign, .int kfault, .int kplace, .long kword, .int ktold, .ref know, .ref kread, .ref kkept, .ref ksnaps, .ref kaside, .ref kname, .ref kreadName, .ref kkeptName, .ref kisKept, .ref konces, .int (nI ksnapMany), .int khasCells, .ref kpoured, .ref kfar, .ref ksides, .int (nI ksideMany), .int kwayDays, .int khasWay, .ref klines, .ref kmet, .int (nI kmetMany), .ref ksunk, .ref ktrying, .int (nI ksunkMany), .int ksending, .int kfleets, .ref ktext, .int (nI ktexts), .int kseed, .ref kline, .ref kwritten, .int (nI klineMany), .int khasWritten, .ref knode, .int (nI knodes), .int (nI konesMany), .int (nI kwithin), .int (nI ktop)])), (kread, .inl (ky 0, 67, .inl f8)), (konces, .inl (ky 3, 4, .inl koncesF))] H → va_D A [(o, .inr (12, [.int kthrown, .ref ktape, .int (nI ktaped), .int (nI ksize), .int (nI klimit), .int (nI kto), .int (nI kfrom), .int kkind, .int knumber, .int ksign, .int kfault, .int kplace, .long kword, .int ktold, .ref know, .ref kread, .ref kkept, .ref ksnaps, .ref kaside, .ref kname, .ref kreadName, .ref kkeptName, .ref kisKept, .ref konces, .int (nI ksnapMany), .int khasCells, .ref kpoured, .ref kfar, .ref ksides, .int (nI ksideMany), .int kwayDays, .int khasWay, .ref klines, .ref kmet, .int (nI kmetMany), .ref ksunk, .ref ktrying, .int (nI ksunkMany), .int ksending, .int kfleets, .ref ktext, .int (nI ktexts), .int kseed, .ref kline, .ref kwritten, .int (nI klineMany), .int khasWritten, .ref knode, .int (nI knodes), .int (nI konesMany), .int (nI kwithin), .int (nI ktop)])), (kread, .inl (ky 0, 67, .inl f8)), (konces, .inl (ky 3, 4, .inl koncesF))] → va_S A s.heap H locs → lv_has ls 2 [(1, .int (nI k7)), (0, .ref o)] → W p l e (headSpec wsX12_startRead ({ frames := 0, cells := 0, slots := 0, locals := 0 })).room s m args below meth c H locs 0 0 Q (F0 m 2 ls []) := by
    intro n11
    induction n11 with
    | zero => intro k7 f8 _ _ h9; exact absurd h9 (Nat.not_lt_zero _)
    | succ n11 ih12 =>
      intro k7 f8 j9 jR hm13 H locs ls hP hD hS hl
      refine lv_iload_n hx hb dX12_startRead_2 rfl (lv_at hl 0 rfl) ?_
      refine lv_bipush (v := nI 67) hx hb dX12_startRead_3 (by decide) ?_
      refine n_icmp_ge (x := k7) (y := 67) (tgt := 21) hx hb (by omega) (by omega) dX12_startRead_5 (by decide) (fun c14 => ?_) (fun c14 => ?_)
      · refine lv_iconst (v := nI 0) hx hb dX12_startRead_21 (by decide) ?_
        refine lv_istore_n (lv' := [(1, .int (nI 0)), (0, .ref o)]) hx hb dX12_startRead_22 rfl hl (by decide) rfl (fun ls hl => ?_)
        have hL24 : ∀ (n25 : Nat) (k21 : Nat) (f22 : Nat → Int32), (k21 ≤ 4) → (∀ j, j < k21 → f22 j = 0) → 4 - k21 < n25 → ∀ (H : Heap) (locs : List Loc) (ls : Array Slot), va_P (dC, dI) vwCl [(o, .inr (12, [.int kthrown, .ref ktape, .int (nI ktaped), .int (nI ksize), .int (nI klimit), .int (nI kto), .int (nI kfrom), .int kkind, .int knumber, .int ksign, .int kfault, .int kplace, .long kword, .int ktold, .ref know, .ref kread, .ref kkept, .ref ksnaps, .ref kaside, .ref kname, .ref kreadName, .ref kkeptName, .ref kisKept, .ref konces, .int (nI ksnapMany), .int khasCells, .ref kpoured, .ref kfar, .ref ksides, .int (nI ksideMany), .int kwayDays, .int khasWay, .ref klines, .ref kmet, .int (nI kmetMany), .ref ksunk, .ref ktrying, .int (nI ksunkMany), .int ksending, .int kfleets, .ref ktext, .int (nI ktexts), .int kseed, .ref kline, .ref kwritten, .int (nI klineMany), .int khasWritten, .ref knode, .int (nI knodes), .int (nI konesMany), .int (nI kwithin), .int (nI ktop)])), (kread, .inl (ky 0, 67, .inl f8)), (konces, .inl (ky 3, 4, .inl f22))] H → va_D A [(o, .inr (12, [.int kthrown, .ref ktape, .int (nI ktaped), .int (nI ksize), .int (nI klimit), .int (nI kto), .int (nI kfrom), .int kkind, .int knumber, .int ksign, .int kfault, .int kplace, .long kword, .int ktold, .ref know, .ref kread, .ref kkept, .ref ksnaps, .ref kaside, .ref kname, .ref kreadName, .ref kkeptName, .ref kisKept, .ref konces, .int (nI ksnapMany), .int khasCells, .ref kpoured, .ref kfar, .ref ksides, .int (nI ksideMany), .int kwayDays, .int khasWay, .ref klines, .ref kmet, .int (nI kmetMany), .ref ksunk, .ref ktrying, .int (nI ksunkMany), .int ksending, .int kfleets, .ref ktext, .int (nI ktexts), .int kseed, .ref kline, .ref kwritten, .int (nI klineMany), .int khasWritten, .ref knode, .int (nI knodes), .int (nI konesMany), .int (nI kwithin), .int (nI ktop)])), (kread, .inl (ky 0, 67, .inl f8)), (konces, .inl (ky 3, 4, .inl f22))] → va_S A s.heap H locs → lv_has ls 2 [(1, .int (nI k21)), (0, .ref o)] → W p l e (headSpec wsX12_startRead ({ frames := 0, cells := 0, slots := 0, locals := 0 })).room s m args below meth c H locs 0 0 Q (F0 m 23 ls []) := by
          intro n25
          induction n25 with
          | zero => intro k21 f22 _ _ h9; exact absurd h9 (Nat.not_lt_zero _)
          | succ n25 ih26 =>
            intro k21 f22 j23 jZ hm27 H locs ls hP hD hS hl
            refine lv_iload_n hx hb dX12_startRead_23 rfl (lv_at hl 0 rfl) ?_
            refine lv_iconst (v := nI 4) hx hb dX12_startRead_24 (by decide) ?_
            refine n_icmp_ge (x := k21) (y := 4) (tgt := 41) hx hb (by omega) (by omega) dX12_startRead_25 (by decide) (fun c28 => ?_) (fun c28 => ?_)
            · refine lv_aload_n hx hb dX12_startRead_41 rfl (lv_at hl 1 rfl) ?_
              refine va_get (D := (dC, dI)) (ci := 12) (v := .ref kread) (C := RX12) (T := TX12) (N := 52) hx hb hts hin12 hown hK hP 0 rfl rfl 15 (by decide) (hts (.fieldLink RX12 101 "PorridgeSeaModel" "read" "[I") (List.mem_of_getElem? (i := 1) rfl)) (fun _ h9 => h9) rfl dX12_startRead_42 ?_
              refine lv_iconst (v := nI 0) hx hb dX12_startRead_45 (by decide) ?_
              refine lv_iconst (v := nI 4) hx hb dX12_startRead_46 (by decide) ?_
              refine r_iast (x := (nI 4)) hx hb hK hP hD hS 1 rfl 0 (by decide) (by decide) dX12_startRead_47 (fun H locs hP hD hS => ?_)
              obtain ⟨g29, e30⟩ : ∃ z9, z9 = upd f8 0 (nI 4) := ⟨_, rfl⟩
              rw [← e30] at hP hD
              have hP : va_P (dC, dI) vwCl [(o, .inr (12, [.int kthrown, .ref ktape, .int (nI ktaped), .int (nI ksize), .int (nI klimit), .int (nI kto), .int (nI kfrom), .int kkind, .int knumber, .int ksign, .int kfault, .int kplace, .long kword, .int ktold, .ref know, .ref kread, .ref kkept, .ref ksnaps, .ref kaside, .ref kname, .ref kreadName, .ref kkeptName, .ref kisKept, .ref konces, .int (nI ksnapMany), .int khasCells, .ref kpoured, .ref kfar, .ref ksides, .int (nI ksideMany), .int kwayDays, .int khasWay, .ref klines, .ref kmet, .int (nI kmetMany), .ref ksunk, .ref ktrying, .int (nI ksunkMany), .int ksending, .int kfleets, .ref ktext, .int (nI ktexts), .int kseed, .ref kline, .ref kwritten, .int (nI klineMany), .int khasWritten, .ref knode, .int (nI knodes), .int (nI konesMany), .int (nI kwithin), .int (nI ktop)])), (kread, .inl (ky 0, 67, .inl g29)), (konces, .inl (ky 3, 4, .inl f22))] H := hP
              have hD : va_D A [(o, .inr (12, [.int kthrown, .ref ktape, .int (nI ktaped), .int (nI ksize), .int (nI klimit), .int (nI kto), .int (nI kfrom), .int kkind, .int knumber, .int ksign, .int kfault, .int kplace, .long kword, .int ktold, .ref know, .ref kread, .ref kkept, .ref ksnaps, .ref kaside, .ref kname, .ref kreadName, .ref kkeptName, .ref kisKept, .ref konces, .int (nI ksnapMany), .int khasCells, .ref kpoured, .ref kfar, .ref ksides, .int (nI ksideMany), .int kwayDays, .int khasWay, .ref klines, .ref kmet, .int (nI kmetMany), .ref ksunk, .ref ktrying, .int (nI ksunkMany), .int ksending, .int kfleets, .ref ktext, .int (nI ktexts), .int kseed, .ref kline, .ref kwritten, .int (nI klineMany), .int khasWritten, .ref knode, .int (nI knodes), .int (nI konesMany), .int (nI kwithin), .int (nI ktop)])), (kread, .inl (ky 0, 67, .inl g29)), (konces, .inl (ky 3, 4, .inl f22))] := hD
              refine lv_aload_n hx hb dX12_startRead_48 rfl (lv_at hl 1 rfl) ?_
              refine va_get (D := (dC, dI)) (ci := 12) (v := .ref kread) (C := RX12) (T := TX12) (N := 52) hx hb hts hin12 hown hK hP 0 rfl rfl 15 (by decide) (hts (.fieldLink RX12 101 "PorridgeSeaModel" "read" "[I") (List.mem_of_getElem? (i := 1) rfl)) (fun _ h9 => h9) rfl dX12_startRead_49 ?_
              refine lv_iconst (v := nI 1) hx hb dX12_startRead_52 (by decide) ?_
              refine lv_iconst (v := nI 4) hx hb dX12_startRead_53 (by decide) ?_
              refine r_iast (x := (nI 4)) hx hb hK hP hD hS 1 rfl 1 (by decide) (by decide) dX12_startRead_54 (fun H locs hP hD hS => ?_)
              obtain ⟨g31, e32⟩ : ∃ z9, z9 = upd g29 1 (nI 4) := ⟨_, rfl⟩
              rw [← e32] at hP hD
              have hP : va_P (dC, dI) vwCl [(o, .inr (12, [.int kthrown, .ref ktape, .int (nI ktaped), .int (nI ksize), .int (nI klimit), .int (nI kto), .int (nI kfrom), .int kkind, .int knumber, .int ksign, .int kfault, .int kplace, .long kword, .int ktold, .ref know, .ref kread, .ref kkept, .ref ksnaps, .ref kaside, .ref kname, .ref kreadName, .ref kkeptName, .ref kisKept, .ref konces, .int (nI ksnapMany), .int khasCells, .ref kpoured, .ref kfar, .ref ksides, .int (nI ksideMany), .int kwayDays, .int khasWay, .ref klines, .ref kmet, .int (nI kmetMany), .ref ksunk, .ref ktrying, .int (nI ksunkMany), .int ksending, .int kfleets, .ref ktext, .int (nI ktexts), .int kseed, .ref kline, .ref kwritten, .int (nI klineMany), .int khasWritten, .ref knode, .int (nI knodes), .int (nI konesMany), .int (nI kwithin), .int (nI ktop)])), (kread, .inl (ky 0, 67, .inl g31)), (konces, .inl (ky 3, 4, .inl f22))] H := hP
              have hD : va_D A [(o, .inr (12, [.int kthrown, .ref ktape, .int (nI ktaped), .int (nI ksize), .int (nI klimit), .int (nI kto), .int (nI kfrom), .int kkind, .int knumber, .int ksign, .int kfault, .int kplace, .long kword, .int ktold, .ref know, .ref kread, .ref kkept, .ref ksnaps, .ref kaside, .ref kname, .ref kreadName, .ref kkeptName, .ref kisKept, .ref konces, .int (nI ksnapMany), .int khasCells, .ref kpoured, .ref kfar, .ref ksides, .int (nI ksideMany), .int kwayDays, .int khasWay, .ref klines, .ref kmet, .int (nI kmetMany), .ref ksunk, .ref ktrying, .int (nI ksunkMany), .int ksending, .int kfleets, .ref ktext, .int (nI ktexts), .int kseed, .ref kline, .ref kwritten, .int (nI klineMany), .int khasWritten, .ref knode, .int (nI knodes), .int (nI konesMany), .int (nI kwithin), .int (nI ktop)])), (kread, .inl (ky 0, 67, .inl g31)), (konces, .inl (ky 3, 4, .inl f22))] := hD
              refine lv_aload_n hx hb dX12_startRead_55 rfl (lv_at hl 1 rfl) ?_
              refine va_get (D := (dC, dI)) (ci := 12) (v := .ref kread) (C := RX12) (T := TX12) (N := 52) hx hb hts hin12 hown hK hP 0 rfl rfl 15 (by decide) (hts (.fieldLink RX12 101 "PorridgeSeaModel" "read" "[I") (List.mem_of_getElem? (i := 1) rfl)) (fun _ h9 => h9) rfl dX12_startRead_56 ?_
              refine lv_iconst (v := nI 4) hx hb dX12_startRead_59 (by decide) ?_
              refine lv_bipush (v := nI 10) hx hb dX12_startRead_60 (by decide) ?_
              refine r_iast (x := (nI 10)) hx hb hK hP hD hS 1 rfl 4 (by decide) (by decide) dX12_startRead_62 (fun H locs hP hD hS => ?_)
              obtain ⟨g33, e34⟩ : ∃ z9, z9 = upd g31 4 (nI 10) := ⟨_, rfl⟩
              rw [← e34] at hP hD
              have hP : va_P (dC, dI) vwCl [(o, .inr (12, [.int kthrown, .ref ktape, .int (nI ktaped), .int (nI ksize), .int (nI klimit), .int (nI kto), .int (nI kfrom), .int kkind, .int knumber, .int ksign, .int kfault, .int kplace, .long kword, .int ktold, .ref know, .ref kread, .ref kkept, .ref ksnaps, .ref kaside, .ref kname, .ref kreadName, .ref kkeptName, .ref kisKept, .ref konces, .int (nI ksnapMany), .int khasCells, .ref kpoured, .ref kfar, .ref ksides, .int (nI ksideMany), .int kwayDays, .int khasWay, .ref klines, .ref kmet, .int (nI kmetMany), .ref ksunk, .ref ktrying, .int (nI ksunkMany), .int ksending, .int kfleets, .ref ktext, .int (nI ktexts), .int kseed, .ref kline, .ref kwritten, .int (nI klineMany), .int khasWritten, .ref knode, .int (nI knodes), .int (nI konesMany), .int (nI kwithin), .int (nI ktop)])), (kread, .inl (ky 0, 67, .inl g33)), (konces, .inl (ky 3, 4, .inl f22))] H := hP
              have hD : va_D A [(o, .inr (12, [.int kthrown, .ref ktape, .int (nI ktaped), .int (nI ksize), .int (nI klimit), .int (nI kto), .int (nI kfrom), .int kkind, .int knumber, .int ksign, .int kfault, .int kplace, .long kword, .int ktold, .ref know, .ref kread, .ref kkept, .ref ksnaps, .ref kaside, .ref kname, .ref kreadName, .ref kkeptName, .ref kisKept, .ref konces, .int (nI ksnapMany), .int khasCells, .ref kpoured, .ref kfar, .ref ksides, .int (nI ksideMany), .int kwayDays, .int khasWay, .ref klines, .ref kmet, .int (nI kmetMany), .ref ksunk, .ref ktrying, .int (nI ksunkMany), .int ksending, .int kfleets, .ref ktext, .int (nI ktexts), .int kseed, .ref kline, .ref kwritten, .int (nI klineMany), .int khasWritten, .ref knode, .int (nI knodes), .int (nI konesMany), .int (nI kwithin), .int (nI ktop)])), (kread, .inl (ky 0, 67, .inl g33)), (konces, .inl (ky 3, 4, .inl f22))] := hD
              refine lv_aload_n hx hb dX12_startRead_63 rfl (lv_at hl 1 rfl) ?_
              refine va_get (D := (dC, dI)) (ci := 12) (v := .ref kread) (C := RX12) (T := TX12) (N := 52) hx hb hts hin12 hown hK hP 0 rfl rfl 15 (by decide) (hts (.fieldLink RX12 101 "PorridgeSeaModel" "read" "[I") (List.mem_of_getElem? (i := 1) rfl)) (fun _ h9 => h9) rfl dX12_startRead_64 ?_
              refine lv_iconst (v := nI 5) hx hb dX12_startRead_67 (by decide) ?_
              refine lv_iconst (v := nI 1) hx hb dX12_startRead_68 (by decide) ?_
              refine r_iast (x := (nI 1)) hx hb hK hP hD hS 1 rfl 5 (by decide) (by decide) dX12_startRead_69 (fun H locs hP hD hS => ?_)
              obtain ⟨g35, e36⟩ : ∃ z9, z9 = upd g33 5 (nI 1) := ⟨_, rfl⟩
              rw [← e36] at hP hD
              have hP : va_P (dC, dI) vwCl [(o, .inr (12, [.int kthrown, .ref ktape, .int (nI ktaped), .int (nI ksize), .int (nI klimit), .int (nI kto), .int (nI kfrom), .int kkind, .int knumber, .int ksign, .int kfault, .int kplace, .long kword, .int ktold, .ref know, .ref kread, .ref kkept, .ref ksnaps, .ref kaside, .ref kname, .ref kreadName, .ref kkeptName, .ref kisKept, .ref konces, .int (nI ksnapMany), .int khasCells, .ref kpoured, .ref kfar, .ref ksides, .int (nI ksideMany), .int kwayDays, .int khasWay, .ref klines, .ref kmet, .int (nI kmetMany), .ref ksunk, .ref ktrying, .int (nI ksunkMany), .int ksending, .int kfleets, .ref ktext, .int (nI ktexts), .int kseed, .ref kline, .ref kwritten, .int (nI klineMany), .int khasWritten, .ref knode, .int (nI knodes), .int (nI konesMany), .int (nI kwithin), .int (nI ktop)])), (kread, .inl (ky 0, 67, .inl g35)), (konces, .inl (ky 3, 4, .inl f22))] H := hP
              have hD : va_D A [(o, .inr (12, [.int kthrown, .ref ktape, .int (nI ktaped), .int (nI ksize), .int (nI klimit), .int (nI kto), .int (nI kfrom), .int kkind, .int knumber, .int ksign, .int kfault, .int kplace, .long kword, .int ktold, .ref know, .ref kread, .ref kkept, .ref ksnaps, .ref kaside, .ref kname, .ref kreadName, .ref kkeptName, .ref kisKept, .ref konces, .int (nI ksnapMany), .int khasCells, .ref kpoured, .ref kfar, .ref ksides, .int (nI ksideMany), .int kwayDays, .int khasWay, .ref klines, .ref kmet, .int (nI kmetMany), .ref ksunk, .ref ktrying, .int (nI ksunkMany), .int ksending, .int kfleets, .ref ktext, .int (nI ktexts), .int kseed, .ref kline, .ref kwritten, .int (nI klineMany), .int khasWritten, .ref knode, .int (nI knodes), .int (nI konesMany), .int (nI kwithin), .int (nI ktop)])), (kread, .inl (ky 0, 67, .inl g35)), (konces, .inl (ky 3, 4, .inl f22))] := hD
              refine lv_aload_n hx hb dX12_startRead_70 rfl (lv_at hl 1 rfl) ?_
              refine va_get (D := (dC, dI)) (ci := 12) (v := .ref kread) (C := RX12) (T := TX12) (N := 52) hx hb hts hin12 hown hK hP 0 rfl rfl 15 (by decide) (hts (.fieldLink RX12 101 "PorridgeSeaModel" "read" "[I") (List.mem_of_getElem? (i := 1) rfl)) (fun _ h9 => h9) rfl dX12_startRead_71 ?_
              refine lv_bipush (v := nI 6) hx hb dX12_startRead_74 (by decide) ?_
              refine lv_iconst (v := nI 3) hx hb dX12_startRead_76 (by decide) ?_
              refine r_iast (x := (nI 3)) hx hb hK hP hD hS 1 rfl 6 (by decide) (by decide) dX12_startRead_77 (fun H locs hP hD hS => ?_)
              obtain ⟨g37, e38⟩ : ∃ z9, z9 = upd g35 6 (nI 3) := ⟨_, rfl⟩
              rw [← e38] at hP hD
              have hP : va_P (dC, dI) vwCl [(o, .inr (12, [.int kthrown, .ref ktape, .int (nI ktaped), .int (nI ksize), .int (nI klimit), .int (nI kto), .int (nI kfrom), .int kkind, .int knumber, .int ksign, .int kfault, .int kplace, .long kword, .int ktold, .ref know, .ref kread, .ref kkept, .ref ksnaps, .ref kaside, .ref kname, .ref kreadName, .ref kkeptName, .ref kisKept, .ref konces, .int (nI ksnapMany), .int khasCells, .ref kpoured, .ref kfar, .ref ksides, .int (nI ksideMany), .int kwayDays, .int khasWay, .ref klines, .ref kmet, .int (nI kmetMany), .ref ksunk, .ref ktrying, .int (nI ksunkMany), .int ksending, .int kfleets, .ref ktext, .int (nI ktexts), .int kseed, .ref kline, .ref kwritten, .int (nI klineMany), .int khasWritten, .ref knode, .int (nI knodes), .int (nI konesMany), .int (nI kwithin), .int (nI ktop)])), (kread, .inl (ky 0, 67, .inl g37)), (konces, .inl (ky 3, 4, .inl f22))] H := hP
              have hD : va_D A [(o, .inr (12, [.int kthrown, .ref ktape, .int (nI ktaped), .int (nI ksize), .int (nI klimit), .int (nI kto), .int (nI kfrom), .int kkind, .int knumber, .int ksign, .int kfault, .int kplace, .long kword, .int ktold, .ref know, .ref kread, .ref kkept, .ref ksnaps, .ref kaside, .ref kname, .ref kreadName, .ref kkeptName, .ref kisKept, .ref konces, .int (nI ksnapMany), .int khasCells, .ref kpoured, .ref kfar, .ref ksides, .int (nI ksideMany), .int kwayDays, .int khasWay, .ref klines, .ref kmet, .int (nI kmetMany), .ref ksunk, .ref ktrying, .int (nI ksunkMany), .int ksending, .int kfleets, .ref ktext, .int (nI ktexts), .int kseed, .ref kline, .ref kwritten, .int (nI klineMany), .int khasWritten, .ref knode, .int (nI knodes), .int (nI konesMany), .int (nI kwithin), .int (nI ktop)])), (kread, .inl (ky 0, 67, .inl g37)), (konces, .inl (ky 3, 4, .inl f22))] := hD
              rw [hQ]
              exact W.vret hx hb hr (fun t9 ht9 hW9 => ⟨⟨(g37, f22), rfl, ⟨(lf_g_startRead_1 k7 f8 n11 g29 g31 g33 g35 g37 j9 jR hm13 c14 e30 e32 e34 e36 e38), (lf_g_startRead_2 k7 f8 n11 g29 g31 g33 g35 g37 j9 jR hm13 c14 e30 e32 e34 e36 e38), (lf_g_startRead_3 k21 f22 n25 j23 jZ hm27 c28)⟩, by rw [ht9]; exact hP, va_K.moved hW9.alike hK, hD⟩, hS.F ht9⟩) hS.2.2 dX12_startRead_78
            · refine lv_aload_n hx hb dX12_startRead_28 rfl (lv_at hl 1 rfl) ?_
              refine va_get (D := (dC, dI)) (ci := 12) (v := .ref konces) (C := RX12) (T := TX12) (N := 52) hx hb hts hin12 hown hK hP 0 rfl rfl 23 (by decide) (hts (.fieldLink RX12 127 "PorridgeSeaModel" "onces" "[Z") (List.mem_of_getElem? (i := 2) rfl)) (fun _ h9 => h9) rfl dX12_startRead_29 ?_
              refine lv_iload_n hx hb dX12_startRead_32 rfl (lv_at hl 0 rfl) ?_
              refine lv_iconst (v := nI 0) hx hb dX12_startRead_33 (by decide) ?_
              refine r_zast (x := (nI 0)) hx hb hK hP hD hS 2 rfl k21 (lf_g_startRead_4 k21 f22 n25 j23 jZ hm27 c28) (by decide) dX12_startRead_34 (fun H locs hP hD hS => ?_)
              obtain ⟨g39, e40⟩ : ∃ z9, z9 = upd f22 k21 (vp_nar .boolean (nI 0)) := ⟨_, rfl⟩
              rw [← e40] at hP hD
              have hP : va_P (dC, dI) vwCl [(o, .inr (12, [.int kthrown, .ref ktape, .int (nI ktaped), .int (nI ksize), .int (nI klimit), .int (nI kto), .int (nI kfrom), .int kkind, .int knumber, .int ksign, .int kfault, .int kplace, .long kword, .int ktold, .ref know, .ref kread, .ref kkept, .ref ksnaps, .ref kaside, .ref kname, .ref kreadName, .ref kkeptName, .ref kisKept, .ref konces, .int (nI ksnapMany), .int khasCells, .ref kpoured, .ref kfar, .ref ksides, .int (nI ksideMany), .int kwayDays, .int khasWay, .ref klines, .ref kmet, .int (nI kmetMany), .ref ksunk, .ref ktrying, .int (nI ksunkMany), .int ksending, .int kfleets, .ref ktext, .int (nI ktexts), .int kseed, .ref kline, .ref kwritten, .int (nI klineMany), .int khasWritten, .ref knode, .int (nI knodes), .int (nI konesMany), .int (nI kwithin), .int (nI ktop)])), (kread, .inl (ky 0, 67, .inl f8)), (konces, .inl (ky 3, 4, .inl g39))] H := hP
              have hD : va_D A [(o, .inr (12, [.int kthrown, .ref ktape, .int (nI ktaped), .int (nI ksize), .int (nI klimit), .int (nI kto), .int (nI kfrom), .int kkind, .int knumber, .int ksign, .int kfault, .int kplace, .long kword, .int ktold, .ref know, .ref kread, .ref kkept, .ref ksnaps, .ref kaside, .ref kname, .ref kreadName, .ref kkeptName, .ref kisKept, .ref konces, .int (nI ksnapMany), .int khasCells, .ref kpoured, .ref kfar, .ref ksides, .int (nI ksideMany), .int kwayDays, .int khasWay, .ref klines, .ref kmet, .int (nI kmetMany), .ref ksunk, .ref ktrying, .int (nI ksunkMany), .int ksending, .int kfleets, .ref ktext, .int (nI ktexts), .int kseed, .ref kline, .ref kwritten, .int (nI klineMany), .int khasWritten, .ref knode, .int (nI knodes), .int (nI konesMany), .int (nI kwithin), .int (nI ktop)])), (kread, .inl (ky 0, 67, .inl f8)), (konces, .inl (ky 3, 4, .inl g39))] := hD
              refine lv_iinc (v := nI (k21 + 1)) (lv' := [(1, .int (nI (k21 + 1))), (0, .ref o)]) hx hb dX12_startRead_35 hl (k := 0) rfl (show nI k21 + nI 1 = nI (k21 + 1) from nI_add _ _) (by decide) rfl (fun ls hl => ?_)
              refine lv_goto (tgt := 23) hx hb dX12_startRead_38 (by decide) ?_
              exact ih26 (k21 + 1) g39 (lf_g_startRead_5 k21 f22 n25 g39 j23 jZ hm27 c28 e40) (lf_g_startRead_6 k21 f22 n25 g39 j23 jZ hm27 c28 e40) (lf_g_startRead_7 k21 f22 n25 g39 j23 jZ hm27 c28 e40) _ _ _ hP hD hS (lv_sub hl [0, 1] rfl)
        exact hL24 ((4 - 0) + 1) 0 koncesF (lf_g_startRead_8) (lf_g_startRead_9 koncesF) (Nat.lt_succ_self _) _ _ _ hP hD hS (lv_sub hl [0, 1] rfl)
      · refine lv_aload_n hx hb dX12_startRead_8 rfl (lv_at hl 1 rfl) ?_
        refine va_get (D := (dC, dI)) (ci := 12) (v := .ref kread) (C := RX12) (T := TX12) (N := 52) hx hb hts hin12 hown hK hP 0 rfl rfl 15 (by decide) (hts (.fieldLink RX12 101 "PorridgeSeaModel" "read" "[I") (List.mem_of_getElem? (i := 1) rfl)) (fun _ h9 => h9) rfl dX12_startRead_9 ?_
        refine lv_iload_n hx hb dX12_startRead_12 rfl (lv_at hl 0 rfl) ?_
        refine lv_iconst (v := nI 0) hx hb dX12_startRead_13 (by decide) ?_
        refine r_iast (x := (nI 0)) hx hb hK hP hD hS 1 rfl k7 (lf_g_startRead_10 k7 f8 n11 j9 jR hm13 c14) (by decide) dX12_startRead_14 (fun H locs hP hD hS => ?_)
        obtain ⟨g41, e42⟩ : ∃ z9, z9 = upd f8 k7 (nI 0) := ⟨_, rfl⟩
        rw [← e42] at hP hD
        have hP : va_P (dC, dI) vwCl [(o, .inr (12, [.int kthrown, .ref ktape, .int (nI ktaped), .int (nI ksize), .int (nI klimit), .int (nI kto), .int (nI kfrom), .int kkind, .int knumber, .int ksign, .int kfault, .int kplace, .long kword, .int ktold, .ref know, .ref kread, .ref kkept, .ref ksnaps, .ref kaside, .ref kname, .ref kreadName, .ref kkeptName, .ref kisKept, .ref konces, .int (nI ksnapMany), .int khasCells, .ref kpoured, .ref kfar, .ref ksides, .int (nI ksideMany), .int kwayDays, .int khasWay, .ref klines, .ref kmet, .int (nI kmetMany), .ref ksunk, .ref ktrying, .int (nI ksunkMany), .int ksending, .int kfleets, .ref ktext, .int (nI ktexts), .int kseed, .ref kline, .ref kwritten, .int (nI klineMany), .int khasWritten, .ref knode, .int (nI knodes), .int (nI konesMany), .int (nI kwithin), .int (nI ktop)])), (kread, .inl (ky 0, 67, .inl g41)), (konces, .inl (ky 3, 4, .inl koncesF))] H := hP
        have hD : va_D A [(o, .inr (12, [.int kthrown, .ref ktape, .int (nI ktaped), .int (nI ksize), .int (nI klimit), .int (nI kto), .int (nI kfrom), .int kkind, .int knumber, .int ksign, .int kfault, .int kplace, .long kword, .int ktold, .ref know, .ref kread, .ref kkept, .ref ksnaps, .ref kaside, .ref kname, .ref kreadName, .ref kkeptName, .ref kisKept, .ref konces, .int (nI ksnapMany), .int khasCells, .ref kpoured, .ref kfar, .ref ksides, .int (nI ksideMany), .int kwayDays, .int khasWay, .ref klines, .ref kmet, .int (nI kmetMany), .ref ksunk, .ref ktrying, .int (nI ksunkMany), .int ksending, .int kfleets, .ref ktext, .int (nI ktexts), .int kseed, .ref kline, .ref kwritten, .int (nI klineMany), .int khasWritten, .ref knode, .int (nI knodes), .int (nI konesMany), .int (nI kwithin), .int (nI ktop)])), (kread, .inl (ky 0, 67, .inl g41)), (konces, .inl (ky 3, 4, .inl koncesF))] := hD
        refine lv_iinc (v := nI (k7 + 1)) (lv' := [(1, .int (nI (k7 + 1))), (0, .ref o)]) hx hb dX12_startRead_15 hl (k := 0) rfl (show nI k7 + nI 1 = nI (k7 + 1) from nI_add _ _) (by decide) rfl (fun ls hl => ?_)
        refine lv_goto (tgt := 2) hx hb dX12_startRead_18 (by decide) ?_
        exact ih12 (k7 + 1) g41 (lf_g_startRead_11 k7 f8 n11 g41 j9 jR hm13 c14 e42) (lf_g_startRead_12 k7 f8 n11 g41 j9 jR hm13 c14 e42) (lf_g_startRead_13 k7 f8 n11 g41 j9 jR hm13 c14 e42) _ _ _ hP hD hS (lv_sub hl [0, 1] rfl)
  exact hL10 ((67 - 0) + 1) 0 kreadF (lf_g_startRead_14) (lf_g_startRead_15 kreadF) (Nat.lt_succ_self _) _ _ _ hP hD hS (lv_sub hl [0, 1] rfl)
