theorem tx_lt0 (i : Nat) : tx0.getD i 0 < 128 := by
  by_cases h : i < 49
  · exact (by decide : ∀ i, i < 49 → tx0.getD i 0 < 128) i h
  · rw [List.getD_eq_getElem?_getD, List.getElem?_eq_none (Nat.le_of_not_lt h)]; decide
theorem tx_lt1 (i : Nat) : tx1.getD i 0 < 128 := by
  by_cases h : i < 91
  · exact (by decide : ∀ i, i < 91 → tx1.getD i 0 < 128) i h
  · rw [List.getD_eq_getElem?_getD, List.getElem?_eq_none (Nat.le_of_not_lt h)]; decide
theorem tx_lt2 (i : Nat) : tx2.getD i 0 < 128 := by
  by_cases h : i < 77
  · exact (by decide : ∀ i, i < 77 → tx2.getD i 0 < 128) i h
  · rw [List.getD_eq_getElem?_getD, List.getElem?_eq_none (Nat.le_of_not_lt h)]; decide
theorem chv_0 : ∀ k, k < 49 → ((((bytS.getD 0 []).getD k 0) &&& nI 255).toUInt32 % 65536).toInt32 = nI (tx0.getD k 0) := by decide +kernel
theorem chv_1 : ∀ k, k < 91 → ((((bytS.getD 1 []).getD k 0) &&& nI 255).toUInt32 % 65536).toInt32 = nI (tx1.getD k 0) := by decide +kernel
theorem chv_2 : ∀ k, k < 77 → ((((bytS.getD 2 []).getD k 0) &&& nI 255).toUInt32 % 65536).toInt32 = nI (tx2.getD k 0) := by decide +kernel
set_option maxRecDepth 20000 in
theorem lf_f_chL0_1   : 49 < 1000 := by
  try simp only [ia_lt, ia_le, ia_eq, ia_m1, ia_0, ia_1, ne_eq, true_and, and_true, false_and, and_false, or_false, false_or, or_true, true_or, not_true_eq_false, not_false_eq_true] at *
  all_goals omega
set_option maxRecDepth 20000 in
theorem lf_f_chL0_2 (k : Nat) (hk : k < 49) : k < 49 := by
  try simp only [ia_lt, ia_le, ia_eq, ia_m1, ia_0, ia_1, ne_eq, true_and, and_true, false_and, and_false, or_false, false_or, or_true, true_or, not_true_eq_false, not_false_eq_true] at *
  all_goals omega
set_option maxRecDepth 20000 in
theorem lf_f_chL0_3 (adK : Nat → Nat) (adV : Nat → Nat) (k : Nat) (y3 : Int32) (y5 : Int32) (y7 : Int32) (hk : k < 49) (e4 : y3 = (bytS.getD 0 []).getD k 0) (e6 : y5 = y3 &&& (nI 255)) (e8 : y7 = ((y5).toUInt32 % 65536).toInt32) : y7 = nI (tx0.getD k 0) := by
  subst_vars
  exact chv_0 _ hk
set_option maxHeartbeats 4000000 in
set_option maxRecDepth 100000 in
theorem c_f_chL0 (l : Launch) (dC : Nat → ClassId) (dI : Nat → Nat → Nat) (ky : Nat → ClassId) (sz : Nat) (adK : Nat → Nat) (adV : Nat → Nat) (k : Nat) (hk : k < 49) : Met l yJ1_charAt_3b067 wsJ1_charAt_3b067 ({ frames := 2, cells := 0, slots := 0, locals := 43 }) (PcUE dC dI ky adK adV [.ref (adV 0), .int (nI k)] [] sz) (va_Qi (fun (r : Int32) (_ : Unit) => (narrow .char (.int r) = .int r) ∧ (r = nI (tx0.getD k 0))) (BU dC dI ky (fun (_ : Unit) => []) (va_A [] sz)) (va_A [] sz)) 0 0 (va_A [] sz) := by
  refine Met.ofW (cc := cJ1_charAt_3b067) (maxL := 2) (ret := (some .char)) (by decide) rfl ?_
  intro p e s m args below meth c s₁ B hml hv
  obtain ⟨rfl, hsz, hP, hK, hD0, hE⟩ := hv
  have hx := B.exec
  have hb := B.bytes
  have hr := B.returns
  have hts := atoms_spec (ws := wsJ1_charAt_3b067) B.pre
  have hown : s.vm.findClass RJ1 = some m.cls := findClass_of_methodNamed B.named
  have hlocks := B.notSynchronized
  subst hsz
  have hD := hD0.self (sz := s.heap.size)
  generalize hAe : va_A [] s.heap.size = A at hD hE ⊢
  have hA : ∀ q : Nat, s.heap.size ≤ q → A q := fun q h => by rw [← hAe]; exact Or.inr h
  have hS : va_S A s.heap s.heap [] := va_S.rf
  have hl := lv_entry ([.ref (adV 0), .int (nI k)]) (n := 2) (Nat.le_of_ble_eq_true rfl)
  rw [lg_entry_eq]
  generalize (lg_sl ([.ref (adV 0), .int (nI k)]) ++ List.replicate (2 - (lg_sl ([.ref (adV 0), .int (nI k)])).length) Slot.unset).toArray = ls at hl ⊢
  have hl : lv_has ls 2 [(0, .ref (adV 0)), (1, .int (nI k))] := hl
  refine q_name (fun Q hQ => ?_)
  generalize ([.ref (adV 0), .int (nI k)] : List Value).toArray = args at hts hQ ⊢
  refine lv_iload_n hx hb dJ1_charAt_3b067_0 rfl (lv_at hl 1 rfl) ?_
  refine lv_aload_n hx hb dJ1_charAt_3b067_1 rfl (lv_at hl 0 rfl) ?_
  refine r_tlen hx hb (hE.1.1 0 (by decide)).2.2.2 hS dJ1_charAt_3b067_2 ?_
  refine r_ti (nI 49) (by decide) ?_
  refine r_call_v (wr := []) (va_runS (As := [.int (nI k), .int (nI 49)]) (rest := []) ⟨hx, hb, hml, hown, hts⟩ (c_j_x0 l dC dI ky s.heap.size adK adV k 49 hk (lf_f_chL0_1)) (va_cwS 2 hts gJ1_charAt_3b067_J0_checkIndex_df160 rfl rfl rfl (by decide +kernel) ⟨(Nat.le_of_ble_eq_true rfl), (Nat.le_of_ble_eq_true rfl)⟩) (pre_UES hE hS hA hK hP hD [] (by decide) rfl) rfl rfl hl.1 rfl (lv_room (Nat.le_of_ble_eq_true rfl)) dJ1_charAt_3b067_3 ⟨(Nat.le_of_ble_eq_true rfl), (Nat.le_of_ble_eq_true rfl)⟩) hP hD hS hA [] [] rfl rfl (by decide) (by decide) (fun  u1 H locs p2 hP hD hS => ?_)
  refine W.widen (k := 0) (n := 0) (Nat.le_of_ble_eq_true rfl) (Nat.le_of_ble_eq_true rfl) ?_
  have hP : va_P (dC, dI) vwCl [] H := hP
  have hD : va_D A [] := hD
  refine lv_aload_n hx hb dJ1_charAt_3b067_6 rfl (lv_at hl 0 rfl) ?_
  refine lv_iload_n hx hb dJ1_charAt_3b067_7 rfl (lv_at hl 1 rfl) ?_
  refine r_tb hx hb (hE.1.1 0 (by decide)).2.2.2 hS k (lf_f_chL0_2 k hk) (by decide) dJ1_charAt_3b067_8 ?_
  refine lv_topi (fun y3 e4 => ?_)
  refine lv_sipush (v := nI 255) hx hb dJ1_charAt_3b067_9 (by decide) ?_
  refine lv_iand hx hb dJ1_charAt_3b067_12 ?_
  refine lv_topi (fun y5 e6 => ?_)
  obtain ⟨y7, e8⟩ : ∃ z9 : Int32, z9 = ((y5).toUInt32 % 65536).toInt32 := ⟨_, rfl⟩
  refine lv_i2c (v := y7) hx hb dJ1_charAt_3b067_13 e8.symm ?_
  rw [hQ]
  exact W.zret (v := y7) hx hb hr (by rw [e8]; exact ch_nar _) (fun t9 ht9 hW9 => ⟨⟨y7, (), rfl, ⟨(by rw [e8]; exact ch_nar _), (lf_f_chL0_3 adK adV k y3 y5 y7 hk e4 e6 e8)⟩, by rw [ht9]; exact hP, va_K.moved hW9.alike hK, hD⟩, hS.F ht9⟩) hS.2.2 dJ1_charAt_3b067_14
set_option maxHeartbeats 4000000 in
set_option maxRecDepth 100000 in
theorem c_f_ch0 (l : Launch) (dC : Nat → ClassId) (dI : Nat → Nat → Nat) (ky : Nat → ClassId) (sz : Nat) (adK : Nat → Nat) (adV : Nat → Nat) (k : Nat) (hk : k < 49) : Met l yJ0_charAt_5068e wsJ0_charAt_5068e ({ frames := 3, cells := 0, slots := 0, locals := 64 }) (PcUE dC dI ky adK adV [.ref (adK 0), .int (nI k)] [] sz) (va_Qi (fun (r : Int32) (_ : Unit) => (narrow .char (.int r) = .int r) ∧ (r = nI (tx0.getD k 0))) (BU dC dI ky (fun (_ : Unit) => []) (va_A [] sz)) (va_A [] sz)) 0 0 (va_A [] sz) := by
  refine Met.ofW (cc := cJ0_charAt_5068e) (maxL := 2) (ret := (some .char)) (by decide) rfl ?_
  intro p e s m args below meth c s₁ B hml hv
  obtain ⟨rfl, hsz, hP, hK, hD0, hE⟩ := hv
  have hx := B.exec
  have hb := B.bytes
  have hr := B.returns
  have hts := atoms_spec (ws := wsJ0_charAt_5068e) B.pre
  have hown : s.vm.findClass RJ0 = some m.cls := findClass_of_methodNamed B.named
  have hlocks := B.notSynchronized
  subst hsz
  have hD := hD0.self (sz := s.heap.size)
  generalize hAe : va_A [] s.heap.size = A at hD hE ⊢
  have hA : ∀ q : Nat, s.heap.size ≤ q → A q := fun q h => by rw [← hAe]; exact Or.inr h
  have hS : va_S A s.heap s.heap [] := va_S.rf
  have hl := lv_entry ([.ref (adK 0), .int (nI k)]) (n := 2) (Nat.le_of_ble_eq_true rfl)
  rw [lg_entry_eq]
  generalize (lg_sl ([.ref (adK 0), .int (nI k)]) ++ List.replicate (2 - (lg_sl ([.ref (adK 0), .int (nI k)])).length) Slot.unset).toArray = ls at hl ⊢
  have hl : lv_has ls 2 [(0, .ref (adK 0)), (1, .int (nI k))] := hl
  refine q_name (fun Q hQ => ?_)
  generalize ([.ref (adK 0), .int (nI k)] : List Value).toArray = args at hts hQ ⊢
  refine lv_aload_n hx hb dJ0_charAt_5068e_0 rfl (lv_at hl 0 rfl) ?_
  refine vp_callSi (W.runV (As := []) (rest := []) ⟨hx, hb, hml, hown, hts⟩ (c_j_latin0 l dC dI ky adK adV) (cwV 0 hts gJ0_charAt_5068e_J0_isLatin1_aae02 rfl rfl rfl (by decide +kernel) ⟨(Nat.le_of_ble_eq_true rfl), (Nat.le_of_ble_eq_true rfl)⟩) (pre_PEV hE hS hK hP [] rfl (vk_recv hE.1 (i := 0) (by decide) hS)) rfl rfl hl.1 rfl (lv_room (Nat.le_of_ble_eq_true rfl)) dJ0_charAt_5068e_1 ⟨(Nat.le_of_ble_eq_true rfl), (Nat.le_of_ble_eq_true rfl)⟩) (fun r1 p2 => ?_)
  subst p2
  refine lv_if_eq (tgt := 16) hx hb dJ0_charAt_5068e_4 (by decide) (fun c3 => absurd c3 (by decide)) (fun c3 => ?_)
  refine lv_aload_n hx hb dJ0_charAt_5068e_7 rfl (lv_at hl 0 rfl) ?_
  refine vk_getf hx hb (hE.1.1 0 (by decide)).2.2.1 hS hown (hts (.fieldLink RJ0 9 "java/lang/String" "value" "[B") (List.mem_of_getElem? (i := 1) rfl)) (fun _ h9 => h9) dJ0_charAt_5068e_8 ?_
  refine lv_iload_n hx hb dJ0_charAt_5068e_11 rfl (lv_at hl 1 rfl) ?_
  refine r_call_i (wr := []) (va_runS (As := [.ref (adV 0), .int (nI k)]) (rest := []) ⟨hx, hb, hml, hown, hts⟩ (c_f_chL0 l dC dI ky s.heap.size adK adV k hk) (va_cwS 2 hts gJ0_charAt_5068e_J1_charAt_3b067 rfl rfl rfl (by decide +kernel) ⟨(Nat.le_of_ble_eq_true rfl), (Nat.le_of_ble_eq_true rfl)⟩) (pre_UES hE hS hA hK hP hD [] (by decide) rfl) rfl rfl hl.1 rfl (lv_room (Nat.le_of_ble_eq_true rfl)) dJ0_charAt_5068e_12 ⟨(Nat.le_of_ble_eq_true rfl), (Nat.le_of_ble_eq_true rfl)⟩) hP hD hS hA [] [] rfl rfl (by decide) (by decide) (fun r6 u4 H locs p5 hP hD hS => ?_)
  try dsimp only at p5
  obtain ⟨p7, p8⟩ := p5
  refine W.widen (k := 0) (n := 0) (Nat.le_of_ble_eq_true rfl) (Nat.le_of_ble_eq_true rfl) ?_
  have hP : va_P (dC, dI) vwCl [] H := hP
  have hD : va_D A [] := hD
  rw [hQ]
  exact W.zret (v := r6) hx hb hr p7 (fun t9 ht9 hW9 => ⟨⟨r6, (), rfl, ⟨p7, p8⟩, by rw [ht9]; exact hP, va_K.moved hW9.alike hK, hD⟩, hS.F ht9⟩) hS.2.2 dJ0_charAt_5068e_15
set_option maxRecDepth 20000 in
theorem lf_f_chL1_1   : 91 < 1000 := by
  try simp only [ia_lt, ia_le, ia_eq, ia_m1, ia_0, ia_1, ne_eq, true_and, and_true, false_and, and_false, or_false, false_or, or_true, true_or, not_true_eq_false, not_false_eq_true] at *
  all_goals omega
set_option maxRecDepth 20000 in
theorem lf_f_chL1_2 (k : Nat) (hk : k < 91) : k < 91 := by
  try simp only [ia_lt, ia_le, ia_eq, ia_m1, ia_0, ia_1, ne_eq, true_and, and_true, false_and, and_false, or_false, false_or, or_true, true_or, not_true_eq_false, not_false_eq_true] at *
  all_goals omega
set_option maxRecDepth 20000 in
theorem lf_f_chL1_3 (adK : Nat → Nat) (adV : Nat → Nat) (k : Nat) (y3 : Int32) (y5 : Int32) (y7 : Int32) (hk : k < 91) (e4 : y3 = (bytS.getD 1 []).getD k 0) (e6 : y5 = y3 &&& (nI 255)) (e8 : y7 = ((y5).toUInt32 % 65536).toInt32) : y7 = nI (tx1.getD k 0) := by
  subst_vars
  exact chv_1 _ hk
set_option maxHeartbeats 4000000 in
set_option maxRecDepth 100000 in
theorem c_f_chL1 (l : Launch) (dC : Nat → ClassId) (dI : Nat → Nat → Nat) (ky : Nat → ClassId) (sz : Nat) (adK : Nat → Nat) (adV : Nat → Nat) (k : Nat) (hk : k < 91) : Met l yJ1_charAt_3b067 wsJ1_charAt_3b067 ({ frames := 2, cells := 0, slots := 0, locals := 43 }) (PcUE dC dI ky adK adV [.ref (adV 1), .int (nI k)] [] sz) (va_Qi (fun (r : Int32) (_ : Unit) => (narrow .char (.int r) = .int r) ∧ (r = nI (tx1.getD k 0))) (BU dC dI ky (fun (_ : Unit) => []) (va_A [] sz)) (va_A [] sz)) 0 0 (va_A [] sz) := by
  refine Met.ofW (cc := cJ1_charAt_3b067) (maxL := 2) (ret := (some .char)) (by decide) rfl ?_
  intro p e s m args below meth c s₁ B hml hv
  obtain ⟨rfl, hsz, hP, hK, hD0, hE⟩ := hv
  have hx := B.exec
  have hb := B.bytes
  have hr := B.returns
  have hts := atoms_spec (ws := wsJ1_charAt_3b067) B.pre
  have hown : s.vm.findClass RJ1 = some m.cls := findClass_of_methodNamed B.named
  have hlocks := B.notSynchronized
  subst hsz
  have hD := hD0.self (sz := s.heap.size)
  generalize hAe : va_A [] s.heap.size = A at hD hE ⊢
  have hA : ∀ q : Nat, s.heap.size ≤ q → A q := fun q h => by rw [← hAe]; exact Or.inr h
  have hS : va_S A s.heap s.heap [] := va_S.rf
  have hl := lv_entry ([.ref (adV 1), .int (nI k)]) (n := 2) (Nat.le_of_ble_eq_true rfl)
  rw [lg_entry_eq]
  generalize (lg_sl ([.ref (adV 1), .int (nI k)]) ++ List.replicate (2 - (lg_sl ([.ref (adV 1), .int (nI k)])).length) Slot.unset).toArray = ls at hl ⊢
  have hl : lv_has ls 2 [(0, .ref (adV 1)), (1, .int (nI k))] := hl
  refine q_name (fun Q hQ => ?_)
  generalize ([.ref (adV 1), .int (nI k)] : List Value).toArray = args at hts hQ ⊢
  refine lv_iload_n hx hb dJ1_charAt_3b067_0 rfl (lv_at hl 1 rfl) ?_
  refine lv_aload_n hx hb dJ1_charAt_3b067_1 rfl (lv_at hl 0 rfl) ?_
  refine r_tlen hx hb (hE.1.1 1 (by decide)).2.2.2 hS dJ1_charAt_3b067_2 ?_
  refine r_ti (nI 91) (by decide) ?_
  refine r_call_v (wr := []) (va_runS (As := [.int (nI k), .int (nI 91)]) (rest := []) ⟨hx, hb, hml, hown, hts⟩ (c_j_x0 l dC dI ky s.heap.size adK adV k 91 hk (lf_f_chL1_1)) (va_cwS 2 hts gJ1_charAt_3b067_J0_checkIndex_df160 rfl rfl rfl (by decide +kernel) ⟨(Nat.le_of_ble_eq_true rfl), (Nat.le_of_ble_eq_true rfl)⟩) (pre_UES hE hS hA hK hP hD [] (by decide) rfl) rfl rfl hl.1 rfl (lv_room (Nat.le_of_ble_eq_true rfl)) dJ1_charAt_3b067_3 ⟨(Nat.le_of_ble_eq_true rfl), (Nat.le_of_ble_eq_true rfl)⟩) hP hD hS hA [] [] rfl rfl (by decide) (by decide) (fun  u1 H locs p2 hP hD hS => ?_)
  refine W.widen (k := 0) (n := 0) (Nat.le_of_ble_eq_true rfl) (Nat.le_of_ble_eq_true rfl) ?_
  have hP : va_P (dC, dI) vwCl [] H := hP
  have hD : va_D A [] := hD
  refine lv_aload_n hx hb dJ1_charAt_3b067_6 rfl (lv_at hl 0 rfl) ?_
  refine lv_iload_n hx hb dJ1_charAt_3b067_7 rfl (lv_at hl 1 rfl) ?_
  refine r_tb hx hb (hE.1.1 1 (by decide)).2.2.2 hS k (lf_f_chL1_2 k hk) (by decide) dJ1_charAt_3b067_8 ?_
  refine lv_topi (fun y3 e4 => ?_)
  refine lv_sipush (v := nI 255) hx hb dJ1_charAt_3b067_9 (by decide) ?_
  refine lv_iand hx hb dJ1_charAt_3b067_12 ?_
  refine lv_topi (fun y5 e6 => ?_)
  obtain ⟨y7, e8⟩ : ∃ z9 : Int32, z9 = ((y5).toUInt32 % 65536).toInt32 := ⟨_, rfl⟩
  refine lv_i2c (v := y7) hx hb dJ1_charAt_3b067_13 e8.symm ?_
  rw [hQ]
  exact W.zret (v := y7) hx hb hr (by rw [e8]; exact ch_nar _) (fun t9 ht9 hW9 => ⟨⟨y7, (), rfl, ⟨(by rw [e8]; exact ch_nar _), (lf_f_chL1_3 adK adV k y3 y5 y7 hk e4 e6 e8)⟩, by rw [ht9]; exact hP, va_K.moved hW9.alike hK, hD⟩, hS.F ht9⟩) hS.2.2 dJ1_charAt_3b067_14
set_option maxHeartbeats 4000000 in
set_option maxRecDepth 100000 in
theorem c_f_ch1 (l : Launch) (dC : Nat → ClassId) (dI : Nat → Nat → Nat) (ky : Nat → ClassId) (sz : Nat) (adK : Nat → Nat) (adV : Nat → Nat) (k : Nat) (hk : k < 91) : Met l yJ0_charAt_5068e wsJ0_charAt_5068e ({ frames := 3, cells := 0, slots := 0, locals := 64 }) (PcUE dC dI ky adK adV [.ref (adK 1), .int (nI k)] [] sz) (va_Qi (fun (r : Int32) (_ : Unit) => (narrow .char (.int r) = .int r) ∧ (r = nI (tx1.getD k 0))) (BU dC dI ky (fun (_ : Unit) => []) (va_A [] sz)) (va_A [] sz)) 0 0 (va_A [] sz) := by
  refine Met.ofW (cc := cJ0_charAt_5068e) (maxL := 2) (ret := (some .char)) (by decide) rfl ?_
  intro p e s m args below meth c s₁ B hml hv
  obtain ⟨rfl, hsz, hP, hK, hD0, hE⟩ := hv
  have hx := B.exec
  have hb := B.bytes
  have hr := B.returns
  have hts := atoms_spec (ws := wsJ0_charAt_5068e) B.pre
  have hown : s.vm.findClass RJ0 = some m.cls := findClass_of_methodNamed B.named
  have hlocks := B.notSynchronized
  subst hsz
  have hD := hD0.self (sz := s.heap.size)
  generalize hAe : va_A [] s.heap.size = A at hD hE ⊢
  have hA : ∀ q : Nat, s.heap.size ≤ q → A q := fun q h => by rw [← hAe]; exact Or.inr h
  have hS : va_S A s.heap s.heap [] := va_S.rf
  have hl := lv_entry ([.ref (adK 1), .int (nI k)]) (n := 2) (Nat.le_of_ble_eq_true rfl)
  rw [lg_entry_eq]
  generalize (lg_sl ([.ref (adK 1), .int (nI k)]) ++ List.replicate (2 - (lg_sl ([.ref (adK 1), .int (nI k)])).length) Slot.unset).toArray = ls at hl ⊢
  have hl : lv_has ls 2 [(0, .ref (adK 1)), (1, .int (nI k))] := hl
  refine q_name (fun Q hQ => ?_)
  generalize ([.ref (adK 1), .int (nI k)] : List Value).toArray = args at hts hQ ⊢
  refine lv_aload_n hx hb dJ0_charAt_5068e_0 rfl (lv_at hl 0 rfl) ?_
  refine vp_callSi (W.runV (As := []) (rest := []) ⟨hx, hb, hml, hown, hts⟩ (c_j_latin1 l dC dI ky adK adV) (cwV 0 hts gJ0_charAt_5068e_J0_isLatin1_aae02 rfl rfl rfl (by decide +kernel) ⟨(Nat.le_of_ble_eq_true rfl), (Nat.le_of_ble_eq_true rfl)⟩) (pre_PEV hE hS hK hP [] rfl (vk_recv hE.1 (i := 1) (by decide) hS)) rfl rfl hl.1 rfl (lv_room (Nat.le_of_ble_eq_true rfl)) dJ0_charAt_5068e_1 ⟨(Nat.le_of_ble_eq_true rfl), (Nat.le_of_ble_eq_true rfl)⟩) (fun r1 p2 => ?_)
  subst p2
  refine lv_if_eq (tgt := 16) hx hb dJ0_charAt_5068e_4 (by decide) (fun c3 => absurd c3 (by decide)) (fun c3 => ?_)
  refine lv_aload_n hx hb dJ0_charAt_5068e_7 rfl (lv_at hl 0 rfl) ?_
  refine vk_getf hx hb (hE.1.1 1 (by decide)).2.2.1 hS hown (hts (.fieldLink RJ0 9 "java/lang/String" "value" "[B") (List.mem_of_getElem? (i := 1) rfl)) (fun _ h9 => h9) dJ0_charAt_5068e_8 ?_
  refine lv_iload_n hx hb dJ0_charAt_5068e_11 rfl (lv_at hl 1 rfl) ?_
  refine r_call_i (wr := []) (va_runS (As := [.ref (adV 1), .int (nI k)]) (rest := []) ⟨hx, hb, hml, hown, hts⟩ (c_f_chL1 l dC dI ky s.heap.size adK adV k hk) (va_cwS 2 hts gJ0_charAt_5068e_J1_charAt_3b067 rfl rfl rfl (by decide +kernel) ⟨(Nat.le_of_ble_eq_true rfl), (Nat.le_of_ble_eq_true rfl)⟩) (pre_UES hE hS hA hK hP hD [] (by decide) rfl) rfl rfl hl.1 rfl (lv_room (Nat.le_of_ble_eq_true rfl)) dJ0_charAt_5068e_12 ⟨(Nat.le_of_ble_eq_true rfl), (Nat.le_of_ble_eq_true rfl)⟩) hP hD hS hA [] [] rfl rfl (by decide) (by decide) (fun r6 u4 H locs p5 hP hD hS => ?_)
  try dsimp only at p5
  obtain ⟨p7, p8⟩ := p5
  refine W.widen (k := 0) (n := 0) (Nat.le_of_ble_eq_true rfl) (Nat.le_of_ble_eq_true rfl) ?_
  have hP : va_P (dC, dI) vwCl [] H := hP
  have hD : va_D A [] := hD
  rw [hQ]
  exact W.zret (v := r6) hx hb hr p7 (fun t9 ht9 hW9 => ⟨⟨r6, (), rfl, ⟨p7, p8⟩, by rw [ht9]; exact hP, va_K.moved hW9.alike hK, hD⟩, hS.F ht9⟩) hS.2.2 dJ0_charAt_5068e_15
set_option maxRecDepth 20000 in
theorem lf_f_chL2_1   : 77 < 1000 := by
  try simp only [ia_lt, ia_le, ia_eq, ia_m1, ia_0, ia_1, ne_eq, true_and, and_true, false_and, and_false, or_false, false_or, or_true, true_or, not_true_eq_false, not_false_eq_true] at *
  all_goals omega
set_option maxRecDepth 20000 in
theorem lf_f_chL2_2 (k : Nat) (hk : k < 77) : k < 77 := by
  try simp only [ia_lt, ia_le, ia_eq, ia_m1, ia_0, ia_1, ne_eq, true_and, and_true, false_and, and_false, or_false, false_or, or_true, true_or, not_true_eq_false, not_false_eq_true] at *
  all_goals omega
set_option maxRecDepth 20000 in
theorem lf_f_chL2_3 (adK : Nat → Nat) (adV : Nat → Nat) (k : Nat) (y3 : Int32) (y5 : Int32) (y7 : Int32) (hk : k < 77) (e4 : y3 = (bytS.getD 2 []).getD k 0) (e6 : y5 = y3 &&& (nI 255)) (e8 : y7 = ((y5).toUInt32 % 65536).toInt32) : y7 = nI (tx2.getD k 0) := by
  subst_vars
  exact chv_2 _ hk
set_option maxHeartbeats 4000000 in
set_option maxRecDepth 100000 in
theorem c_f_chL2 (l : Launch) (dC : Nat → ClassId) (dI : Nat → Nat → Nat) (ky : Nat → ClassId) (sz : Nat) (adK : Nat → Nat) (adV : Nat → Nat) (k : Nat) (hk : k < 77) : Met l yJ1_charAt_3b067 wsJ1_charAt_3b067 ({ frames := 2, cells := 0, slots := 0, locals := 43 }) (PcUE dC dI ky adK adV [.ref (adV 2), .int (nI k)] [] sz) (va_Qi (fun (r : Int32) (_ : Unit) => (narrow .char (.int r) = .int r) ∧ (r = nI (tx2.getD k 0))) (BU dC dI ky (fun (_ : Unit) => []) (va_A [] sz)) (va_A [] sz)) 0 0 (va_A [] sz) := by
  refine Met.ofW (cc := cJ1_charAt_3b067) (maxL := 2) (ret := (some .char)) (by decide) rfl ?_
  intro p e s m args below meth c s₁ B hml hv
  obtain ⟨rfl, hsz, hP, hK, hD0, hE⟩ := hv
  have hx := B.exec
  have hb := B.bytes
  have hr := B.returns
  have hts := atoms_spec (ws := wsJ1_charAt_3b067) B.pre
  have hown : s.vm.findClass RJ1 = some m.cls := findClass_of_methodNamed B.named
  have hlocks := B.notSynchronized
  subst hsz
  have hD := hD0.self (sz := s.heap.size)
  generalize hAe : va_A [] s.heap.size = A at hD hE ⊢
  have hA : ∀ q : Nat, s.heap.size ≤ q → A q := fun q h => by rw [← hAe]; exact Or.inr h
  have hS : va_S A s.heap s.heap [] := va_S.rf
  have hl := lv_entry ([.ref (adV 2), .int (nI k)]) (n := 2) (Nat.le_of_ble_eq_true rfl)
  rw [lg_entry_eq]
  generalize (lg_sl ([.ref (adV 2), .int (nI k)]) ++ List.replicate (2 - (lg_sl ([.ref (adV 2), .int (nI k)])).length) Slot.unset).toArray = ls at hl ⊢
  have hl : lv_has ls 2 [(0, .ref (adV 2)), (1, .int (nI k))] := hl
  refine q_name (fun Q hQ => ?_)
  generalize ([.ref (adV 2), .int (nI k)] : List Value).toArray = args at hts hQ ⊢
  refine lv_iload_n hx hb dJ1_charAt_3b067_0 rfl (lv_at hl 1 rfl) ?_
  refine lv_aload_n hx hb dJ1_charAt_3b067_1 rfl (lv_at hl 0 rfl) ?_
  refine r_tlen hx hb (hE.1.1 2 (by decide)).2.2.2 hS dJ1_charAt_3b067_2 ?_
  refine r_ti (nI 77) (by decide) ?_
  refine r_call_v (wr := []) (va_runS (As := [.int (nI k), .int (nI 77)]) (rest := []) ⟨hx, hb, hml, hown, hts⟩ (c_j_x0 l dC dI ky s.heap.size adK adV k 77 hk (lf_f_chL2_1)) (va_cwS 2 hts gJ1_charAt_3b067_J0_checkIndex_df160 rfl rfl rfl (by decide +kernel) ⟨(Nat.le_of_ble_eq_true rfl), (Nat.le_of_ble_eq_true rfl)⟩) (pre_UES hE hS hA hK hP hD [] (by decide) rfl) rfl rfl hl.1 rfl (lv_room (Nat.le_of_ble_eq_true rfl)) dJ1_charAt_3b067_3 ⟨(Nat.le_of_ble_eq_true rfl), (Nat.le_of_ble_eq_true rfl)⟩) hP hD hS hA [] [] rfl rfl (by decide) (by decide) (fun  u1 H locs p2 hP hD hS => ?_)
  refine W.widen (k := 0) (n := 0) (Nat.le_of_ble_eq_true rfl) (Nat.le_of_ble_eq_true rfl) ?_
  have hP : va_P (dC, dI) vwCl [] H := hP
  have hD : va_D A [] := hD
  refine lv_aload_n hx hb dJ1_charAt_3b067_6 rfl (lv_at hl 0 rfl) ?_
  refine lv_iload_n hx hb dJ1_charAt_3b067_7 rfl (lv_at hl 1 rfl) ?_
  refine r_tb hx hb (hE.1.1 2 (by decide)).2.2.2 hS k (lf_f_chL2_2 k hk) (by decide) dJ1_charAt_3b067_8 ?_
  refine lv_topi (fun y3 e4 => ?_)
  refine lv_sipush (v := nI 255) hx hb dJ1_charAt_3b067_9 (by decide) ?_
  refine lv_iand hx hb dJ1_charAt_3b067_12 ?_
  refine lv_topi (fun y5 e6 => ?_)
  obtain ⟨y7, e8⟩ : ∃ z9 : Int32, z9 = ((y5).toUInt32 % 65536).toInt32 := ⟨_, rfl⟩
  refine lv_i2c (v := y7) hx hb dJ1_charAt_3b067_13 e8.symm ?_
  rw [hQ]
  exact W.zret (v := y7) hx hb hr (by rw [e8]; exact ch_nar _) (fun t9 ht9 hW9 => ⟨⟨y7, (), rfl, ⟨(by rw [e8]; exact ch_nar _), (lf_f_chL2_3 adK adV k y3 y5 y7 hk e4 e6 e8)⟩, by rw [ht9]; exact hP, va_K.moved hW9.alike hK, hD⟩, hS.F ht9⟩) hS.2.2 dJ1_charAt_3b067_14
set_option maxHeartbeats 4000000 in
set_option maxRecDepth 100000 in
theorem c_f_ch2 (l : Launch) (dC : Nat → ClassId) (dI : Nat → Nat → Nat) (ky : Nat → ClassId) (sz : Nat) (adK : Nat → Nat) (adV : Nat → Nat) (k : Nat) (hk : k < 77) : Met l yJ0_charAt_5068e wsJ0_charAt_5068e ({ frames := 3, cells := 0, slots := 0, locals := 64 }) (PcUE dC dI ky adK adV [.ref (adK 2), .int (nI k)] [] sz) (va_Qi (fun (r : Int32) (_ : Unit) => (narrow .char (.int r) = .int r) ∧ (r = nI (tx2.getD k 0))) (BU dC dI ky (fun (_ : Unit) => []) (va_A [] sz)) (va_A [] sz)) 0 0 (va_A [] sz) := by
  refine Met.ofW (cc := cJ0_charAt_5068e) (maxL := 2) (ret := (some .char)) (by decide) rfl ?_
  intro p e s m args below meth c s₁ B hml hv
  obtain ⟨rfl, hsz, hP, hK, hD0, hE⟩ := hv
  have hx := B.exec
  have hb := B.bytes
  have hr := B.returns
  have hts := atoms_spec (ws := wsJ0_charAt_5068e) B.pre
  have hown : s.vm.findClass RJ0 = some m.cls := findClass_of_methodNamed B.named
  have hlocks := B.notSynchronized
  subst hsz
  have hD := hD0.self (sz := s.heap.size)
  generalize hAe : va_A [] s.heap.size = A at hD hE ⊢
  have hA : ∀ q : Nat, s.heap.size ≤ q → A q := fun q h => by rw [← hAe]; exact Or.inr h
  have hS : va_S A s.heap s.heap [] := va_S.rf
  have hl := lv_entry ([.ref (adK 2), .int (nI k)]) (n := 2) (Nat.le_of_ble_eq_true rfl)
  rw [lg_entry_eq]
  generalize (lg_sl ([.ref (adK 2), .int (nI k)]) ++ List.replicate (2 - (lg_sl ([.ref (adK 2), .int (nI k)])).length) Slot.unset).toArray = ls at hl ⊢
  have hl : lv_has ls 2 [(0, .ref (adK 2)), (1, .int (nI k))] := hl
  refine q_name (fun Q hQ => ?_)
  generalize ([.ref (adK 2), .int (nI k)] : List Value).toArray = args at hts hQ ⊢
  refine lv_aload_n hx hb dJ0_charAt_5068e_0 rfl (lv_at hl 0 rfl) ?_
  refine vp_callSi (W.runV (As := []) (rest := []) ⟨hx, hb, hml, hown, hts⟩ (c_j_latin2 l dC dI ky adK adV) (cwV 0 hts gJ0_charAt_5068e_J0_isLatin1_aae02 rfl rfl rfl (by decide +kernel) ⟨(Nat.le_of_ble_eq_true rfl), (Nat.le_of_ble_eq_true rfl)⟩) (pre_PEV hE hS hK hP [] rfl (vk_recv hE.1 (i := 2) (by decide) hS)) rfl rfl hl.1 rfl (lv_room (Nat.le_of_ble_eq_true rfl)) dJ0_charAt_5068e_1 ⟨(Nat.le_of_ble_eq_true rfl), (Nat.le_of_ble_eq_true rfl)⟩) (fun r1 p2 => ?_)
  subst p2
  refine lv_if_eq (tgt := 16) hx hb dJ0_charAt_5068e_4 (by decide) (fun c3 => absurd c3 (by decide)) (fun c3 => ?_)
  refine lv_aload_n hx hb dJ0_charAt_5068e_7 rfl (lv_at hl 0 rfl) ?_
  refine vk_getf hx hb (hE.1.1 2 (by decide)).2.2.1 hS hown (hts (.fieldLink RJ0 9 "java/lang/String" "value" "[B") (List.mem_of_getElem? (i := 1) rfl)) (fun _ h9 => h9) dJ0_charAt_5068e_8 ?_
  refine lv_iload_n hx hb dJ0_charAt_5068e_11 rfl (lv_at hl 1 rfl) ?_
  refine r_call_i (wr := []) (va_runS (As := [.ref (adV 2), .int (nI k)]) (rest := []) ⟨hx, hb, hml, hown, hts⟩ (c_f_chL2 l dC dI ky s.heap.size adK adV k hk) (va_cwS 2 hts gJ0_charAt_5068e_J1_charAt_3b067 rfl rfl rfl (by decide +kernel) ⟨(Nat.le_of_ble_eq_true rfl), (Nat.le_of_ble_eq_true rfl)⟩) (pre_UES hE hS hA hK hP hD [] (by decide) rfl) rfl rfl hl.1 rfl (lv_room (Nat.le_of_ble_eq_true rfl)) dJ0_charAt_5068e_12 ⟨(Nat.le_of_ble_eq_true rfl), (Nat.le_of_ble_eq_true rfl)⟩) hP hD hS hA [] [] rfl rfl (by decide) (by decide) (fun r6 u4 H locs p5 hP hD hS => ?_)
  try dsimp only at p5
  obtain ⟨p7, p8⟩ := p5
  refine W.widen (k := 0) (n := 0) (Nat.le_of_ble_eq_true rfl) (Nat.le_of_ble_eq_true rfl) ?_
  have hP : va_P (dC, dI) vwCl [] H := hP
  have hD : va_D A [] := hD
  rw [hQ]
  exact W.zret (v := r6) hx hb hr p7 (fun t9 ht9 hW9 => ⟨⟨r6, (), rfl, ⟨p7, p8⟩, by rw [ht9]; exact hP, va_K.moved hW9.alike hK, hD⟩, hS.F ht9⟩) hS.2.2 dJ0_charAt_5068e_15
set_option maxRecDepth 20000 in
theorem lf_f_wordIn0_1 (bt : Nat → Nat) (rlength : Nat) (rplace : Nat) (rbegin : Nat) (rtapeF : Nat → Int32) (iv_rreader_0 : rlength ≤ 940) (iv_rreader_1 : rplace ≤ rlength) (iv_rreader_3 : rbegin ≤ 940) (hTC : TC bt rtapeF) (hbp : rbegin ≤ rplace) (hlen : rplace - rbegin ≤ 7) (hLET : LET bt rbegin (rplace - rbegin)) : rbegin ≤ rplace := by
  try simp only [ia_lt, ia_le, ia_eq, ia_m1, ia_0, ia_1, ne_eq, true_and, and_true, false_and, and_false, or_false, false_or, or_true, true_or, not_true_eq_false, not_false_eq_true] at *
  all_goals omega
set_option maxRecDepth 20000 in
theorem lf_f_wordIn0_2 (bt : Nat → Nat) (rlength : Nat) (rplace : Nat) (rbegin : Nat) (rtapeF : Nat → Int32) (k7 : Nat) (n10 : Nat) (iv_rreader_0 : rlength ≤ 940) (iv_rreader_1 : rplace ≤ rlength) (iv_rreader_3 : rbegin ≤ 940) (hTC : TC bt rtapeF) (hbp : rbegin ≤ rplace) (hlen : rplace - rbegin ≤ 7) (hLET : LET bt rbegin (rplace - rbegin)) (j8 : k7 ≤ 7) (jO : ∀ v, v < k7 → ¬ mtc tx0 v bt rbegin (rplace - rbegin)) (hm12 : 7 - k7 < n10 + 1) (c13 : 7 ≤ k7) : (nI 31) = nI (if WT0.idxOf (p8 bt rbegin (rplace - rbegin)) < 7 then 0 + WT0.idxOf (p8 bt rbegin (rplace - rbegin)) else 31) := by
  have h9 : WT0.idxOf (p8 bt rbegin (rplace - rbegin)) = 7 := idx_none (fun v hv he => jO v (by
    have h8 : v < 7 := hv
    try have k_0 := ia_n 31 (by first | decide | omega)
    try have k_1 := ia_n (if WT0.idxOf (p8 bt rbegin (rplace - rbegin)) < 7 then 0 + WT0.idxOf (p8 bt rbegin (rplace - rbegin)) else 31) (by first | decide | omega)
    try simp only [ia_lt, ia_le, ia_eq, ia_m1, ia_0, ia_1, ne_eq, true_and, and_true, false_and, and_false, or_false, false_or, or_true, true_or, not_true_eq_false, not_false_eq_true] at *
    all_goals omega) ((mtc_iff txok0 hv hLET hlen).mpr he))
  rw [h9]
  rfl
set_option maxRecDepth 20000 in
theorem lf_f_wordIn0_3 (bt : Nat → Nat) (rlength : Nat) (rplace : Nat) (rbegin : Nat) (rtapeF : Nat → Int32) (k7 : Nat) (n10 : Nat) (k18 : Nat) (n21 : Nat) (iv_rreader_0 : rlength ≤ 940) (iv_rreader_1 : rplace ≤ rlength) (iv_rreader_3 : rbegin ≤ 940) (hTC : TC bt rtapeF) (hbp : rbegin ≤ rplace) (hlen : rplace - rbegin ≤ 7) (hLET : LET bt rbegin (rplace - rbegin)) (j8 : k7 ≤ 7) (jO : ∀ v, v < k7 → ¬ mtc tx0 v bt rbegin (rplace - rbegin)) (hm12 : 7 - k7 < n10 + 1) (c13 : k7 < 7) (j19 : k18 ≤ 7) (jI : ∀ j, j < k18 → tx0.getD (7 * k7 + j) 0 = if j < rplace - rbegin then bt (rbegin + j) else 32) (hm23 : 7 - k18 < n21 + 1) (c24 : 7 ≤ k18) (c25 : k18 ≠ 7) : (k7 + 1) ≤ 7 := by
  try simp only [ia_lt, ia_le, ia_eq, ia_m1, ia_0, ia_1, ne_eq, true_and, and_true, false_and, and_false, or_false, false_or, or_true, true_or, not_true_eq_false, not_false_eq_true] at *
  all_goals omega
set_option maxRecDepth 20000 in
theorem lf_f_wordIn0_4 (bt : Nat → Nat) (rlength : Nat) (rplace : Nat) (rbegin : Nat) (rtapeF : Nat → Int32) (k7 : Nat) (n10 : Nat) (k18 : Nat) (n21 : Nat) (iv_rreader_0 : rlength ≤ 940) (iv_rreader_1 : rplace ≤ rlength) (iv_rreader_3 : rbegin ≤ 940) (hTC : TC bt rtapeF) (hbp : rbegin ≤ rplace) (hlen : rplace - rbegin ≤ 7) (hLET : LET bt rbegin (rplace - rbegin)) (j8 : k7 ≤ 7) (jO : ∀ v, v < k7 → ¬ mtc tx0 v bt rbegin (rplace - rbegin)) (hm12 : 7 - k7 < n10 + 1) (c13 : k7 < 7) (j19 : k18 ≤ 7) (jI : ∀ j, j < k18 → tx0.getD (7 * k7 + j) 0 = if j < rplace - rbegin then bt (rbegin + j) else 32) (hm23 : 7 - k18 < n21 + 1) (c24 : 7 ≤ k18) (c25 : k18 ≠ 7) : ∀ v, v < (k7 + 1) → ¬ mtc tx0 v bt rbegin (rplace - rbegin) := by
  intro v hv hm
  by_cases hvw : v = k7
  · have h8 := hm k18 (by
      try simp only [ia_lt, ia_le, ia_eq, ia_m1, ia_0, ia_1, ne_eq, true_and, and_true, false_and, and_false, or_false, false_or, or_true, true_or, not_true_eq_false, not_false_eq_true] at *
      all_goals omega)
    rw [hvw] at h8
    have h7 := tx_lt0 (7 * k7 + k18)
    have h6 := ia_n (tx0.getD (7 * k7 + k18) 0) (by omega)
    by_cases h5 : k18 < rplace - rbegin
    · rw [if_pos h5] at h8
      try simp only [ia_lt, ia_le, ia_eq, ia_m1, ia_0, ia_1, ne_eq, true_and, and_true, false_and, and_false, or_false, false_or, or_true, true_or, not_true_eq_false, not_false_eq_true] at *
      all_goals omega
    · rw [if_neg h5] at h8
      try simp only [ia_lt, ia_le, ia_eq, ia_m1, ia_0, ia_1, ne_eq, true_and, and_true, false_and, and_false, or_false, false_or, or_true, true_or, not_true_eq_false, not_false_eq_true] at *
      all_goals omega
  · exact jO v (by omega) hm
set_option maxRecDepth 20000 in
theorem lf_f_wordIn0_5 (bt : Nat → Nat) (rlength : Nat) (rplace : Nat) (rbegin : Nat) (rtapeF : Nat → Int32) (k7 : Nat) (n10 : Nat) (k18 : Nat) (n21 : Nat) (iv_rreader_0 : rlength ≤ 940) (iv_rreader_1 : rplace ≤ rlength) (iv_rreader_3 : rbegin ≤ 940) (hTC : TC bt rtapeF) (hbp : rbegin ≤ rplace) (hlen : rplace - rbegin ≤ 7) (hLET : LET bt rbegin (rplace - rbegin)) (j8 : k7 ≤ 7) (jO : ∀ v, v < k7 → ¬ mtc tx0 v bt rbegin (rplace - rbegin)) (hm12 : 7 - k7 < n10 + 1) (c13 : k7 < 7) (j19 : k18 ≤ 7) (jI : ∀ j, j < k18 → tx0.getD (7 * k7 + j) 0 = if j < rplace - rbegin then bt (rbegin + j) else 32) (hm23 : 7 - k18 < n21 + 1) (c24 : 7 ≤ k18) (c25 : k18 ≠ 7) : 7 - (k7 + 1) < n10 := by
  try simp only [ia_lt, ia_le, ia_eq, ia_m1, ia_0, ia_1, ne_eq, true_and, and_true, false_and, and_false, or_false, false_or, or_true, true_or, not_true_eq_false, not_false_eq_true] at *
  all_goals omega
set_option maxRecDepth 20000 in
theorem lf_f_wordIn0_6 (bt : Nat → Nat) (rlength : Nat) (rplace : Nat) (rbegin : Nat) (rtapeF : Nat → Int32) (k7 : Nat) (n10 : Nat) (k18 : Nat) (n21 : Nat) (iv_rreader_0 : rlength ≤ 940) (iv_rreader_1 : rplace ≤ rlength) (iv_rreader_3 : rbegin ≤ 940) (hTC : TC bt rtapeF) (hbp : rbegin ≤ rplace) (hlen : rplace - rbegin ≤ 7) (hLET : LET bt rbegin (rplace - rbegin)) (j8 : k7 ≤ 7) (jO : ∀ v, v < k7 → ¬ mtc tx0 v bt rbegin (rplace - rbegin)) (hm12 : 7 - k7 < n10 + 1) (c13 : k7 < 7) (j19 : k18 ≤ 7) (jI : ∀ j, j < k18 → tx0.getD (7 * k7 + j) 0 = if j < rplace - rbegin then bt (rbegin + j) else 32) (hm23 : 7 - k18 < n21 + 1) (c24 : 7 ≤ k18) (c25 : k18 = 7) : (nI (0 + k7)) = nI (if WT0.idxOf (p8 bt rbegin (rplace - rbegin)) < 7 then 0 + WT0.idxOf (p8 bt rbegin (rplace - rbegin)) else 31) := by
  have hk7 : k18 = 7 ∧ k7 < 7 := by
    try have k_0 := ia_n (0 + k7) (by first | decide | omega)
    try have k_1 := ia_n (if WT0.idxOf (p8 bt rbegin (rplace - rbegin)) < 7 then 0 + WT0.idxOf (p8 bt rbegin (rplace - rbegin)) else 31) (by first | decide | omega)
    try simp only [ia_lt, ia_le, ia_eq, ia_m1, ia_0, ia_1, ne_eq, true_and, and_true, false_and, and_false, or_false, false_or, or_true, true_or, not_true_eq_false, not_false_eq_true] at *
    all_goals omega
  have hm : mtc tx0 k7 bt rbegin (rplace - rbegin) := fun j hj => jI j (by omega)
  have h9 : WT0.idxOf (p8 bt rbegin (rplace - rbegin)) = k7 := idx_hit (fun v hv he => jO v hv ((mtc_iff txok0 (show v < 7 by omega) hLET hlen).mpr he)) (show k7 < 7 by omega) ((mtc_iff txok0 (show k7 < 7 by omega) hLET hlen).mp hm)
  rw [h9, if_pos hk7.2]
  try exact congrArg nI (by omega)
set_option maxRecDepth 20000 in
theorem lf_f_wordIn0_7 (bt : Nat → Nat) (rlength : Nat) (rplace : Nat) (rbegin : Nat) (rtapeF : Nat → Int32) (k7 : Nat) (n10 : Nat) (k18 : Nat) (n21 : Nat) (iv_rreader_0 : rlength ≤ 940) (iv_rreader_1 : rplace ≤ rlength) (iv_rreader_3 : rbegin ≤ 940) (hTC : TC bt rtapeF) (hbp : rbegin ≤ rplace) (hlen : rplace - rbegin ≤ 7) (hLET : LET bt rbegin (rplace - rbegin)) (j8 : k7 ≤ 7) (jO : ∀ v, v < k7 → ¬ mtc tx0 v bt rbegin (rplace - rbegin)) (hm12 : 7 - k7 < n10 + 1) (c13 : k7 < 7) (j19 : k18 ≤ 7) (jI : ∀ j, j < k18 → tx0.getD (7 * k7 + j) 0 = if j < rplace - rbegin then bt (rbegin + j) else 32) (hm23 : 7 - k18 < n21 + 1) (c24 : k18 < 7) : ((7 * k7) + k18) < 49 := by
  try simp only [ia_lt, ia_le, ia_eq, ia_m1, ia_0, ia_1, ne_eq, true_and, and_true, false_and, and_false, or_false, false_or, or_true, true_or, not_true_eq_false, not_false_eq_true] at *
  all_goals omega
set_option maxRecDepth 20000 in
theorem lf_f_wordIn0_8 (bt : Nat → Nat) (rlength : Nat) (rplace : Nat) (rbegin : Nat) (rtapeF : Nat → Int32) (k7 : Nat) (n10 : Nat) (k18 : Nat) (n21 : Nat) (r28 : Int32) (iv_rreader_0 : rlength ≤ 940) (iv_rreader_1 : rplace ≤ rlength) (iv_rreader_3 : rbegin ≤ 940) (hTC : TC bt rtapeF) (hbp : rbegin ≤ rplace) (hlen : rplace - rbegin ≤ 7) (hLET : LET bt rbegin (rplace - rbegin)) (j8 : k7 ≤ 7) (jO : ∀ v, v < k7 → ¬ mtc tx0 v bt rbegin (rplace - rbegin)) (hm12 : 7 - k7 < n10 + 1) (c13 : k7 < 7) (j19 : k18 ≤ 7) (jI : ∀ j, j < k18 → tx0.getD (7 * k7 + j) 0 = if j < rplace - rbegin then bt (rbegin + j) else 32) (hm23 : 7 - k18 < n21 + 1) (c24 : k18 < 7) (p29 : narrow .char (.int r28) = .int r28) (p30 : r28 = nI (tx0.getD ((7 * k7) + k18) 0)) (c31 : (rplace - rbegin) ≤ k18) (c32 : r28 ≠ nI 32) (c33 : k18 ≠ 7) : (k7 + 1) ≤ 7 := by
  have b_r28 := ia_b r28
  try have k_0 := ia_n (tx0.getD ((7 * k7) + k18) 0) (by first | decide | omega)
  try have k_1 := ia_n 32 (by first | decide | omega)
  try simp only [ia_lt, ia_le, ia_eq, ia_m1, ia_0, ia_1, ne_eq, true_and, and_true, false_and, and_false, or_false, false_or, or_true, true_or, not_true_eq_false, not_false_eq_true] at *
  all_goals omega
set_option maxRecDepth 20000 in
theorem lf_f_wordIn0_9 (bt : Nat → Nat) (rlength : Nat) (rplace : Nat) (rbegin : Nat) (rtapeF : Nat → Int32) (k7 : Nat) (n10 : Nat) (k18 : Nat) (n21 : Nat) (r28 : Int32) (iv_rreader_0 : rlength ≤ 940) (iv_rreader_1 : rplace ≤ rlength) (iv_rreader_3 : rbegin ≤ 940) (hTC : TC bt rtapeF) (hbp : rbegin ≤ rplace) (hlen : rplace - rbegin ≤ 7) (hLET : LET bt rbegin (rplace - rbegin)) (j8 : k7 ≤ 7) (jO : ∀ v, v < k7 → ¬ mtc tx0 v bt rbegin (rplace - rbegin)) (hm12 : 7 - k7 < n10 + 1) (c13 : k7 < 7) (j19 : k18 ≤ 7) (jI : ∀ j, j < k18 → tx0.getD (7 * k7 + j) 0 = if j < rplace - rbegin then bt (rbegin + j) else 32) (hm23 : 7 - k18 < n21 + 1) (c24 : k18 < 7) (p29 : narrow .char (.int r28) = .int r28) (p30 : r28 = nI (tx0.getD ((7 * k7) + k18) 0)) (c31 : (rplace - rbegin) ≤ k18) (c32 : r28 ≠ nI 32) (c33 : k18 ≠ 7) : ∀ v, v < (k7 + 1) → ¬ mtc tx0 v bt rbegin (rplace - rbegin) := by
  intro v hv hm
  by_cases hvw : v = k7
  · have h8 := hm k18 (by
      have b_r28 := ia_b r28
      try have k_0 := ia_n (tx0.getD ((7 * k7) + k18) 0) (by first | decide | omega)
      try have k_1 := ia_n 32 (by first | decide | omega)
      try simp only [ia_lt, ia_le, ia_eq, ia_m1, ia_0, ia_1, ne_eq, true_and, and_true, false_and, and_false, or_false, false_or, or_true, true_or, not_true_eq_false, not_false_eq_true] at *
      all_goals omega)
    rw [hvw] at h8
    have h7 := tx_lt0 (7 * k7 + k18)
    have h6 := ia_n (tx0.getD (7 * k7 + k18) 0) (by omega)
    by_cases h5 : k18 < rplace - rbegin
    · rw [if_pos h5] at h8
      have b_r28 := ia_b r28
      try have k_0 := ia_n (tx0.getD ((7 * k7) + k18) 0) (by first | decide | omega)
      try have k_1 := ia_n 32 (by first | decide | omega)
      try simp only [ia_lt, ia_le, ia_eq, ia_m1, ia_0, ia_1, ne_eq, true_and, and_true, false_and, and_false, or_false, false_or, or_true, true_or, not_true_eq_false, not_false_eq_true] at *
      all_goals omega
    · rw [if_neg h5] at h8
      have b_r28 := ia_b r28
      try have k_0 := ia_n (tx0.getD ((7 * k7) + k18) 0) (by first | decide | omega)
      try have k_1 := ia_n 32 (by first | decide | omega)
      try simp only [ia_lt, ia_le, ia_eq, ia_m1, ia_0, ia_1, ne_eq, true_and, and_true, false_and, and_false, or_false, false_or, or_true, true_or, not_true_eq_false, not_false_eq_true] at *
      all_goals omega
  · exact jO v (by omega) hm
set_option maxRecDepth 20000 in
theorem lf_f_wordIn0_10 (bt : Nat → Nat) (rlength : Nat) (rplace : Nat) (rbegin : Nat) (rtapeF : Nat → Int32) (k7 : Nat) (n10 : Nat) (k18 : Nat) (n21 : Nat) (r28 : Int32) (iv_rreader_0 : rlength ≤ 940) (iv_rreader_1 : rplace ≤ rlength) (iv_rreader_3 : rbegin ≤ 940) (hTC : TC bt rtapeF) (hbp : rbegin ≤ rplace) (hlen : rplace - rbegin ≤ 7) (hLET : LET bt rbegin (rplace - rbegin)) (j8 : k7 ≤ 7) (jO : ∀ v, v < k7 → ¬ mtc tx0 v bt rbegin (rplace - rbegin)) (hm12 : 7 - k7 < n10 + 1) (c13 : k7 < 7) (j19 : k18 ≤ 7) (jI : ∀ j, j < k18 → tx0.getD (7 * k7 + j) 0 = if j < rplace - rbegin then bt (rbegin + j) else 32) (hm23 : 7 - k18 < n21 + 1) (c24 : k18 < 7) (p29 : narrow .char (.int r28) = .int r28) (p30 : r28 = nI (tx0.getD ((7 * k7) + k18) 0)) (c31 : (rplace - rbegin) ≤ k18) (c32 : r28 ≠ nI 32) (c33 : k18 ≠ 7) : 7 - (k7 + 1) < n10 := by
  have b_r28 := ia_b r28
  try have k_0 := ia_n (tx0.getD ((7 * k7) + k18) 0) (by first | decide | omega)
  try have k_1 := ia_n 32 (by first | decide | omega)
  try simp only [ia_lt, ia_le, ia_eq, ia_m1, ia_0, ia_1, ne_eq, true_and, and_true, false_and, and_false, or_false, false_or, or_true, true_or, not_true_eq_false, not_false_eq_true] at *
  all_goals omega
set_option maxRecDepth 20000 in
theorem lf_f_wordIn0_11 (bt : Nat → Nat) (rlength : Nat) (rplace : Nat) (rbegin : Nat) (rtapeF : Nat → Int32) (k7 : Nat) (n10 : Nat) (k18 : Nat) (n21 : Nat) (r28 : Int32) (iv_rreader_0 : rlength ≤ 940) (iv_rreader_1 : rplace ≤ rlength) (iv_rreader_3 : rbegin ≤ 940) (hTC : TC bt rtapeF) (hbp : rbegin ≤ rplace) (hlen : rplace - rbegin ≤ 7) (hLET : LET bt rbegin (rplace - rbegin)) (j8 : k7 ≤ 7) (jO : ∀ v, v < k7 → ¬ mtc tx0 v bt rbegin (rplace - rbegin)) (hm12 : 7 - k7 < n10 + 1) (c13 : k7 < 7) (j19 : k18 ≤ 7) (jI : ∀ j, j < k18 → tx0.getD (7 * k7 + j) 0 = if j < rplace - rbegin then bt (rbegin + j) else 32) (hm23 : 7 - k18 < n21 + 1) (c24 : k18 < 7) (p29 : narrow .char (.int r28) = .int r28) (p30 : r28 = nI (tx0.getD ((7 * k7) + k18) 0)) (c31 : (rplace - rbegin) ≤ k18) (c32 : r28 ≠ nI 32) (c33 : k18 = 7) : (nI (0 + k7)) = nI (if WT0.idxOf (p8 bt rbegin (rplace - rbegin)) < 7 then 0 + WT0.idxOf (p8 bt rbegin (rplace - rbegin)) else 31) := by
  have hk7 : k18 = 7 ∧ k7 < 7 := by
    have b_r28 := ia_b r28
    try have k_0 := ia_n (tx0.getD ((7 * k7) + k18) 0) (by first | decide | omega)
    try have k_1 := ia_n 32 (by first | decide | omega)
    try have k_2 := ia_n (0 + k7) (by first | decide | omega)
    try have k_3 := ia_n (if WT0.idxOf (p8 bt rbegin (rplace - rbegin)) < 7 then 0 + WT0.idxOf (p8 bt rbegin (rplace - rbegin)) else 31) (by first | decide | omega)
    try simp only [ia_lt, ia_le, ia_eq, ia_m1, ia_0, ia_1, ne_eq, true_and, and_true, false_and, and_false, or_false, false_or, or_true, true_or, not_true_eq_false, not_false_eq_true] at *
    all_goals omega
  have hm : mtc tx0 k7 bt rbegin (rplace - rbegin) := fun j hj => jI j (by omega)
  have h9 : WT0.idxOf (p8 bt rbegin (rplace - rbegin)) = k7 := idx_hit (fun v hv he => jO v hv ((mtc_iff txok0 (show v < 7 by omega) hLET hlen).mpr he)) (show k7 < 7 by omega) ((mtc_iff txok0 (show k7 < 7 by omega) hLET hlen).mp hm)
  rw [h9, if_pos hk7.2]
  try exact congrArg nI (by omega)
set_option maxRecDepth 20000 in
theorem lf_f_wordIn0_12 (bt : Nat → Nat) (rlength : Nat) (rplace : Nat) (rbegin : Nat) (rtapeF : Nat → Int32) (k7 : Nat) (n10 : Nat) (k18 : Nat) (n21 : Nat) (r28 : Int32) (iv_rreader_0 : rlength ≤ 940) (iv_rreader_1 : rplace ≤ rlength) (iv_rreader_3 : rbegin ≤ 940) (hTC : TC bt rtapeF) (hbp : rbegin ≤ rplace) (hlen : rplace - rbegin ≤ 7) (hLET : LET bt rbegin (rplace - rbegin)) (j8 : k7 ≤ 7) (jO : ∀ v, v < k7 → ¬ mtc tx0 v bt rbegin (rplace - rbegin)) (hm12 : 7 - k7 < n10 + 1) (c13 : k7 < 7) (j19 : k18 ≤ 7) (jI : ∀ j, j < k18 → tx0.getD (7 * k7 + j) 0 = if j < rplace - rbegin then bt (rbegin + j) else 32) (hm23 : 7 - k18 < n21 + 1) (c24 : k18 < 7) (p29 : narrow .char (.int r28) = .int r28) (p30 : r28 = nI (tx0.getD ((7 * k7) + k18) 0)) (c31 : (rplace - rbegin) ≤ k18) (c32 : r28 = nI 32) : (k18 + 1) ≤ 7 := by
  have b_r28 := ia_b r28
  try have k_0 := ia_n (tx0.getD ((7 * k7) + k18) 0) (by first | decide | omega)
  try have k_1 := ia_n 32 (by first | decide | omega)
  try simp only [ia_lt, ia_le, ia_eq, ia_m1, ia_0, ia_1, ne_eq, true_and, and_true, false_and, and_false, or_false, false_or, or_true, true_or, not_true_eq_false, not_false_eq_true] at *
  all_goals omega
set_option maxRecDepth 20000 in
theorem lf_f_wordIn0_13 (bt : Nat → Nat) (rlength : Nat) (rplace : Nat) (rbegin : Nat) (rtapeF : Nat → Int32) (k7 : Nat) (n10 : Nat) (k18 : Nat) (n21 : Nat) (r28 : Int32) (iv_rreader_0 : rlength ≤ 940) (iv_rreader_1 : rplace ≤ rlength) (iv_rreader_3 : rbegin ≤ 940) (hTC : TC bt rtapeF) (hbp : rbegin ≤ rplace) (hlen : rplace - rbegin ≤ 7) (hLET : LET bt rbegin (rplace - rbegin)) (j8 : k7 ≤ 7) (jO : ∀ v, v < k7 → ¬ mtc tx0 v bt rbegin (rplace - rbegin)) (hm12 : 7 - k7 < n10 + 1) (c13 : k7 < 7) (j19 : k18 ≤ 7) (jI : ∀ j, j < k18 → tx0.getD (7 * k7 + j) 0 = if j < rplace - rbegin then bt (rbegin + j) else 32) (hm23 : 7 - k18 < n21 + 1) (c24 : k18 < 7) (p29 : narrow .char (.int r28) = .int r28) (p30 : r28 = nI (tx0.getD ((7 * k7) + k18) 0)) (c31 : (rplace - rbegin) ≤ k18) (c32 : r28 = nI 32) : ∀ j, j < (k18 + 1) → tx0.getD (7 * k7 + j) 0 = if j < rplace - rbegin then bt (rbegin + j) else 32 := by
  intro j hj
  by_cases hjk : j = k18
  · rw [hjk]
    have h7 := tx_lt0 (7 * k7 + k18)
    have h6 := ia_n (tx0.getD (7 * k7 + k18) 0) (by omega)
    by_cases h5 : k18 < rplace - rbegin
    · rw [if_pos h5]
      have b_r28 := ia_b r28
      try have k_0 := ia_n (tx0.getD ((7 * k7) + k18) 0) (by first | decide | omega)
      try have k_1 := ia_n 32 (by first | decide | omega)
      try simp only [ia_lt, ia_le, ia_eq, ia_m1, ia_0, ia_1, ne_eq, true_and, and_true, false_and, and_false, or_false, false_or, or_true, true_or, not_true_eq_false, not_false_eq_true] at *
      all_goals omega
    · rw [if_neg h5]
      have b_r28 := ia_b r28
      try have k_0 := ia_n (tx0.getD ((7 * k7) + k18) 0) (by first | decide | omega)
      try have k_1 := ia_n 32 (by first | decide | omega)
      try simp only [ia_lt, ia_le, ia_eq, ia_m1, ia_0, ia_1, ne_eq, true_and, and_true, false_and, and_false, or_false, false_or, or_true, true_or, not_true_eq_false, not_false_eq_true] at *
      all_goals omega
  · exact jI j (by omega)
set_option maxRecDepth 20000 in
theorem lf_f_wordIn0_14 (bt : Nat → Nat) (rlength : Nat) (rplace : Nat) (rbegin : Nat) (rtapeF : Nat → Int32) (k7 : Nat) (n10 : Nat) (k18 : Nat) (n21 : Nat) (r28 : Int32) (iv_rreader_0 : rlength ≤ 940) (iv_rreader_1 : rplace ≤ rlength) (iv_rreader_3 : rbegin ≤ 940) (hTC : TC bt rtapeF) (hbp : rbegin ≤ rplace) (hlen : rplace - rbegin ≤ 7) (hLET : LET bt rbegin (rplace - rbegin)) (j8 : k7 ≤ 7) (jO : ∀ v, v < k7 → ¬ mtc tx0 v bt rbegin (rplace - rbegin)) (hm12 : 7 - k7 < n10 + 1) (c13 : k7 < 7) (j19 : k18 ≤ 7) (jI : ∀ j, j < k18 → tx0.getD (7 * k7 + j) 0 = if j < rplace - rbegin then bt (rbegin + j) else 32) (hm23 : 7 - k18 < n21 + 1) (c24 : k18 < 7) (p29 : narrow .char (.int r28) = .int r28) (p30 : r28 = nI (tx0.getD ((7 * k7) + k18) 0)) (c31 : (rplace - rbegin) ≤ k18) (c32 : r28 = nI 32) : 7 - (k18 + 1) < n21 := by
  have b_r28 := ia_b r28
  try have k_0 := ia_n (tx0.getD ((7 * k7) + k18) 0) (by first | decide | omega)
  try have k_1 := ia_n 32 (by first | decide | omega)
  try simp only [ia_lt, ia_le, ia_eq, ia_m1, ia_0, ia_1, ne_eq, true_and, and_true, false_and, and_false, or_false, false_or, or_true, true_or, not_true_eq_false, not_false_eq_true] at *
  all_goals omega
set_option maxRecDepth 20000 in
theorem lf_f_wordIn0_15 (bt : Nat → Nat) (rlength : Nat) (rplace : Nat) (rbegin : Nat) (rtapeF : Nat → Int32) (k7 : Nat) (n10 : Nat) (k18 : Nat) (n21 : Nat) (r28 : Int32) (y34 : Int32) (iv_rreader_0 : rlength ≤ 940) (iv_rreader_1 : rplace ≤ rlength) (iv_rreader_3 : rbegin ≤ 940) (hTC : TC bt rtapeF) (hbp : rbegin ≤ rplace) (hlen : rplace - rbegin ≤ 7) (hLET : LET bt rbegin (rplace - rbegin)) (j8 : k7 ≤ 7) (jO : ∀ v, v < k7 → ¬ mtc tx0 v bt rbegin (rplace - rbegin)) (hm12 : 7 - k7 < n10 + 1) (c13 : k7 < 7) (j19 : k18 ≤ 7) (jI : ∀ j, j < k18 → tx0.getD (7 * k7 + j) 0 = if j < rplace - rbegin then bt (rbegin + j) else 32) (hm23 : 7 - k18 < n21 + 1) (c24 : k18 < 7) (p29 : narrow .char (.int r28) = .int r28) (p30 : r28 = nI (tx0.getD ((7 * k7) + k18) 0)) (c31 : k18 < (rplace - rbegin)) (e35 : y34 = rtapeF (rbegin + k18)) (t36 : bt (rbegin + k18) < 256) (t37 : y34.toInt = ((bt (rbegin + k18) : Nat) : Int) ∨ (128 ≤ bt (rbegin + k18) ∧ y34.toInt = ((bt (rbegin + k18) : Nat) : Int) - 256)) (c38 : r28 ≠ y34) (c39 : k18 ≠ 7) : (k7 + 1) ≤ 7 := by
  have b_r28 := ia_b r28
  have b_y34 := ia_b y34
  try have k_0 := ia_n (tx0.getD ((7 * k7) + k18) 0) (by first | decide | omega)
  try simp only [ia_lt, ia_le, ia_eq, ia_m1, ia_0, ia_1, ne_eq, true_and, and_true, false_and, and_false, or_false, false_or, or_true, true_or, not_true_eq_false, not_false_eq_true] at *
  all_goals omega
set_option maxRecDepth 20000 in
theorem lf_f_wordIn0_16 (bt : Nat → Nat) (rlength : Nat) (rplace : Nat) (rbegin : Nat) (rtapeF : Nat → Int32) (k7 : Nat) (n10 : Nat) (k18 : Nat) (n21 : Nat) (r28 : Int32) (y34 : Int32) (iv_rreader_0 : rlength ≤ 940) (iv_rreader_1 : rplace ≤ rlength) (iv_rreader_3 : rbegin ≤ 940) (hTC : TC bt rtapeF) (hbp : rbegin ≤ rplace) (hlen : rplace - rbegin ≤ 7) (hLET : LET bt rbegin (rplace - rbegin)) (j8 : k7 ≤ 7) (jO : ∀ v, v < k7 → ¬ mtc tx0 v bt rbegin (rplace - rbegin)) (hm12 : 7 - k7 < n10 + 1) (c13 : k7 < 7) (j19 : k18 ≤ 7) (jI : ∀ j, j < k18 → tx0.getD (7 * k7 + j) 0 = if j < rplace - rbegin then bt (rbegin + j) else 32) (hm23 : 7 - k18 < n21 + 1) (c24 : k18 < 7) (p29 : narrow .char (.int r28) = .int r28) (p30 : r28 = nI (tx0.getD ((7 * k7) + k18) 0)) (c31 : k18 < (rplace - rbegin)) (e35 : y34 = rtapeF (rbegin + k18)) (t36 : bt (rbegin + k18) < 256) (t37 : y34.toInt = ((bt (rbegin + k18) : Nat) : Int) ∨ (128 ≤ bt (rbegin + k18) ∧ y34.toInt = ((bt (rbegin + k18) : Nat) : Int) - 256)) (c38 : r28 ≠ y34) (c39 : k18 ≠ 7) : ∀ v, v < (k7 + 1) → ¬ mtc tx0 v bt rbegin (rplace - rbegin) := by
  intro v hv hm
  by_cases hvw : v = k7
  · have h8 := hm k18 (by
      have b_r28 := ia_b r28
      have b_y34 := ia_b y34
      try have k_0 := ia_n (tx0.getD ((7 * k7) + k18) 0) (by first | decide | omega)
      try simp only [ia_lt, ia_le, ia_eq, ia_m1, ia_0, ia_1, ne_eq, true_and, and_true, false_and, and_false, or_false, false_or, or_true, true_or, not_true_eq_false, not_false_eq_true] at *
      all_goals omega)
    rw [hvw] at h8
    have h7 := tx_lt0 (7 * k7 + k18)
    have h6 := ia_n (tx0.getD (7 * k7 + k18) 0) (by omega)
    by_cases h5 : k18 < rplace - rbegin
    · rw [if_pos h5] at h8
      have b_r28 := ia_b r28
      have b_y34 := ia_b y34
      try have k_0 := ia_n (tx0.getD ((7 * k7) + k18) 0) (by first | decide | omega)
      try simp only [ia_lt, ia_le, ia_eq, ia_m1, ia_0, ia_1, ne_eq, true_and, and_true, false_and, and_false, or_false, false_or, or_true, true_or, not_true_eq_false, not_false_eq_true] at *
      all_goals omega
    · rw [if_neg h5] at h8
      have b_r28 := ia_b r28
      have b_y34 := ia_b y34
      try have k_0 := ia_n (tx0.getD ((7 * k7) + k18) 0) (by first | decide | omega)
      try simp only [ia_lt, ia_le, ia_eq, ia_m1, ia_0, ia_1, ne_eq, true_and, and_true, false_and, and_false, or_false, false_or, or_true, true_or, not_true_eq_false, not_false_eq_true] at *
      all_goals omega
  · exact jO v (by omega) hm
set_option maxRecDepth 20000 in
theorem lf_f_wordIn0_17 (bt : Nat → Nat) (rlength : Nat) (rplace : Nat) (rbegin : Nat) (rtapeF : Nat → Int32) (k7 : Nat) (n10 : Nat) (k18 : Nat) (n21 : Nat) (r28 : Int32) (y34 : Int32) (iv_rreader_0 : rlength ≤ 940) (iv_rreader_1 : rplace ≤ rlength) (iv_rreader_3 : rbegin ≤ 940) (hTC : TC bt rtapeF) (hbp : rbegin ≤ rplace) (hlen : rplace - rbegin ≤ 7) (hLET : LET bt rbegin (rplace - rbegin)) (j8 : k7 ≤ 7) (jO : ∀ v, v < k7 → ¬ mtc tx0 v bt rbegin (rplace - rbegin)) (hm12 : 7 - k7 < n10 + 1) (c13 : k7 < 7) (j19 : k18 ≤ 7) (jI : ∀ j, j < k18 → tx0.getD (7 * k7 + j) 0 = if j < rplace - rbegin then bt (rbegin + j) else 32) (hm23 : 7 - k18 < n21 + 1) (c24 : k18 < 7) (p29 : narrow .char (.int r28) = .int r28) (p30 : r28 = nI (tx0.getD ((7 * k7) + k18) 0)) (c31 : k18 < (rplace - rbegin)) (e35 : y34 = rtapeF (rbegin + k18)) (t36 : bt (rbegin + k18) < 256) (t37 : y34.toInt = ((bt (rbegin + k18) : Nat) : Int) ∨ (128 ≤ bt (rbegin + k18) ∧ y34.toInt = ((bt (rbegin + k18) : Nat) : Int) - 256)) (c38 : r28 ≠ y34) (c39 : k18 ≠ 7) : 7 - (k7 + 1) < n10 := by
  have b_r28 := ia_b r28
  have b_y34 := ia_b y34
  try have k_0 := ia_n (tx0.getD ((7 * k7) + k18) 0) (by first | decide | omega)
  try simp only [ia_lt, ia_le, ia_eq, ia_m1, ia_0, ia_1, ne_eq, true_and, and_true, false_and, and_false, or_false, false_or, or_true, true_or, not_true_eq_false, not_false_eq_true] at *
  all_goals omega
set_option maxRecDepth 20000 in
theorem lf_f_wordIn0_18 (bt : Nat → Nat) (rlength : Nat) (rplace : Nat) (rbegin : Nat) (rtapeF : Nat → Int32) (k7 : Nat) (n10 : Nat) (k18 : Nat) (n21 : Nat) (r28 : Int32) (y34 : Int32) (iv_rreader_0 : rlength ≤ 940) (iv_rreader_1 : rplace ≤ rlength) (iv_rreader_3 : rbegin ≤ 940) (hTC : TC bt rtapeF) (hbp : rbegin ≤ rplace) (hlen : rplace - rbegin ≤ 7) (hLET : LET bt rbegin (rplace - rbegin)) (j8 : k7 ≤ 7) (jO : ∀ v, v < k7 → ¬ mtc tx0 v bt rbegin (rplace - rbegin)) (hm12 : 7 - k7 < n10 + 1) (c13 : k7 < 7) (j19 : k18 ≤ 7) (jI : ∀ j, j < k18 → tx0.getD (7 * k7 + j) 0 = if j < rplace - rbegin then bt (rbegin + j) else 32) (hm23 : 7 - k18 < n21 + 1) (c24 : k18 < 7) (p29 : narrow .char (.int r28) = .int r28) (p30 : r28 = nI (tx0.getD ((7 * k7) + k18) 0)) (c31 : k18 < (rplace - rbegin)) (e35 : y34 = rtapeF (rbegin + k18)) (t36 : bt (rbegin + k18) < 256) (t37 : y34.toInt = ((bt (rbegin + k18) : Nat) : Int) ∨ (128 ≤ bt (rbegin + k18) ∧ y34.toInt = ((bt (rbegin + k18) : Nat) : Int) - 256)) (c38 : r28 ≠ y34) (c39 : k18 = 7) : (nI (0 + k7)) = nI (if WT0.idxOf (p8 bt rbegin (rplace - rbegin)) < 7 then 0 + WT0.idxOf (p8 bt rbegin (rplace - rbegin)) else 31) := by
  have hk7 : k18 = 7 ∧ k7 < 7 := by
    have b_r28 := ia_b r28
    have b_y34 := ia_b y34
    try have k_0 := ia_n (tx0.getD ((7 * k7) + k18) 0) (by first | decide | omega)
    try have k_1 := ia_n (0 + k7) (by first | decide | omega)
    try have k_2 := ia_n (if WT0.idxOf (p8 bt rbegin (rplace - rbegin)) < 7 then 0 + WT0.idxOf (p8 bt rbegin (rplace - rbegin)) else 31) (by first | decide | omega)
    try simp only [ia_lt, ia_le, ia_eq, ia_m1, ia_0, ia_1, ne_eq, true_and, and_true, false_and, and_false, or_false, false_or, or_true, true_or, not_true_eq_false, not_false_eq_true] at *
    all_goals omega
  have hm : mtc tx0 k7 bt rbegin (rplace - rbegin) := fun j hj => jI j (by omega)
  have h9 : WT0.idxOf (p8 bt rbegin (rplace - rbegin)) = k7 := idx_hit (fun v hv he => jO v hv ((mtc_iff txok0 (show v < 7 by omega) hLET hlen).mpr he)) (show k7 < 7 by omega) ((mtc_iff txok0 (show k7 < 7 by omega) hLET hlen).mp hm)
  rw [h9, if_pos hk7.2]
  try exact congrArg nI (by omega)
set_option maxRecDepth 20000 in
theorem lf_f_wordIn0_19 (bt : Nat → Nat) (rlength : Nat) (rplace : Nat) (rbegin : Nat) (rtapeF : Nat → Int32) (k7 : Nat) (n10 : Nat) (k18 : Nat) (n21 : Nat) (r28 : Int32) (y34 : Int32) (iv_rreader_0 : rlength ≤ 940) (iv_rreader_1 : rplace ≤ rlength) (iv_rreader_3 : rbegin ≤ 940) (hTC : TC bt rtapeF) (hbp : rbegin ≤ rplace) (hlen : rplace - rbegin ≤ 7) (hLET : LET bt rbegin (rplace - rbegin)) (j8 : k7 ≤ 7) (jO : ∀ v, v < k7 → ¬ mtc tx0 v bt rbegin (rplace - rbegin)) (hm12 : 7 - k7 < n10 + 1) (c13 : k7 < 7) (j19 : k18 ≤ 7) (jI : ∀ j, j < k18 → tx0.getD (7 * k7 + j) 0 = if j < rplace - rbegin then bt (rbegin + j) else 32) (hm23 : 7 - k18 < n21 + 1) (c24 : k18 < 7) (p29 : narrow .char (.int r28) = .int r28) (p30 : r28 = nI (tx0.getD ((7 * k7) + k18) 0)) (c31 : k18 < (rplace - rbegin)) (e35 : y34 = rtapeF (rbegin + k18)) (t36 : bt (rbegin + k18) < 256) (t37 : y34.toInt = ((bt (rbegin + k18) : Nat) : Int) ∨ (128 ≤ bt (rbegin + k18) ∧ y34.toInt = ((bt (rbegin + k18) : Nat) : Int) - 256)) (c38 : r28 = y34) : (k18 + 1) ≤ 7 := by
  have b_r28 := ia_b r28
  have b_y34 := ia_b y34
  try have k_0 := ia_n (tx0.getD ((7 * k7) + k18) 0) (by first | decide | omega)
  try simp only [ia_lt, ia_le, ia_eq, ia_m1, ia_0, ia_1, ne_eq, true_and, and_true, false_and, and_false, or_false, false_or, or_true, true_or, not_true_eq_false, not_false_eq_true] at *
  all_goals omega
set_option maxRecDepth 20000 in
theorem lf_f_wordIn0_20 (bt : Nat → Nat) (rlength : Nat) (rplace : Nat) (rbegin : Nat) (rtapeF : Nat → Int32) (k7 : Nat) (n10 : Nat) (k18 : Nat) (n21 : Nat) (r28 : Int32) (y34 : Int32) (iv_rreader_0 : rlength ≤ 940) (iv_rreader_1 : rplace ≤ rlength) (iv_rreader_3 : rbegin ≤ 940) (hTC : TC bt rtapeF) (hbp : rbegin ≤ rplace) (hlen : rplace - rbegin ≤ 7) (hLET : LET bt rbegin (rplace - rbegin)) (j8 : k7 ≤ 7) (jO : ∀ v, v < k7 → ¬ mtc tx0 v bt rbegin (rplace - rbegin)) (hm12 : 7 - k7 < n10 + 1) (c13 : k7 < 7) (j19 : k18 ≤ 7) (jI : ∀ j, j < k18 → tx0.getD (7 * k7 + j) 0 = if j < rplace - rbegin then bt (rbegin + j) else 32) (hm23 : 7 - k18 < n21 + 1) (c24 : k18 < 7) (p29 : narrow .char (.int r28) = .int r28) (p30 : r28 = nI (tx0.getD ((7 * k7) + k18) 0)) (c31 : k18 < (rplace - rbegin)) (e35 : y34 = rtapeF (rbegin + k18)) (t36 : bt (rbegin + k18) < 256) (t37 : y34.toInt = ((bt (rbegin + k18) : Nat) : Int) ∨ (128 ≤ bt (rbegin + k18) ∧ y34.toInt = ((bt (rbegin + k18) : Nat) : Int) - 256)) (c38 : r28 = y34) : ∀ j, j < (k18 + 1) → tx0.getD (7 * k7 + j) 0 = if j < rplace - rbegin then bt (rbegin + j) else 32 := by
  intro j hj
  by_cases hjk : j = k18
  · rw [hjk]
    have h7 := tx_lt0 (7 * k7 + k18)
    have h6 := ia_n (tx0.getD (7 * k7 + k18) 0) (by omega)
    by_cases h5 : k18 < rplace - rbegin
    · rw [if_pos h5]
      have b_r28 := ia_b r28
      have b_y34 := ia_b y34
      try have k_0 := ia_n (tx0.getD ((7 * k7) + k18) 0) (by first | decide | omega)
      try simp only [ia_lt, ia_le, ia_eq, ia_m1, ia_0, ia_1, ne_eq, true_and, and_true, false_and, and_false, or_false, false_or, or_true, true_or, not_true_eq_false, not_false_eq_true] at *
      all_goals omega
    · rw [if_neg h5]
      have b_r28 := ia_b r28
      have b_y34 := ia_b y34
      try have k_0 := ia_n (tx0.getD ((7 * k7) + k18) 0) (by first | decide | omega)
      try simp only [ia_lt, ia_le, ia_eq, ia_m1, ia_0, ia_1, ne_eq, true_and, and_true, false_and, and_false, or_false, false_or, or_true, true_or, not_true_eq_false, not_false_eq_true] at *
      all_goals omega
  · exact jI j (by omega)
set_option maxRecDepth 20000 in
theorem lf_f_wordIn0_21 (bt : Nat → Nat) (rlength : Nat) (rplace : Nat) (rbegin : Nat) (rtapeF : Nat → Int32) (k7 : Nat) (n10 : Nat) (k18 : Nat) (n21 : Nat) (r28 : Int32) (y34 : Int32) (iv_rreader_0 : rlength ≤ 940) (iv_rreader_1 : rplace ≤ rlength) (iv_rreader_3 : rbegin ≤ 940) (hTC : TC bt rtapeF) (hbp : rbegin ≤ rplace) (hlen : rplace - rbegin ≤ 7) (hLET : LET bt rbegin (rplace - rbegin)) (j8 : k7 ≤ 7) (jO : ∀ v, v < k7 → ¬ mtc tx0 v bt rbegin (rplace - rbegin)) (hm12 : 7 - k7 < n10 + 1) (c13 : k7 < 7) (j19 : k18 ≤ 7) (jI : ∀ j, j < k18 → tx0.getD (7 * k7 + j) 0 = if j < rplace - rbegin then bt (rbegin + j) else 32) (hm23 : 7 - k18 < n21 + 1) (c24 : k18 < 7) (p29 : narrow .char (.int r28) = .int r28) (p30 : r28 = nI (tx0.getD ((7 * k7) + k18) 0)) (c31 : k18 < (rplace - rbegin)) (e35 : y34 = rtapeF (rbegin + k18)) (t36 : bt (rbegin + k18) < 256) (t37 : y34.toInt = ((bt (rbegin + k18) : Nat) : Int) ∨ (128 ≤ bt (rbegin + k18) ∧ y34.toInt = ((bt (rbegin + k18) : Nat) : Int) - 256)) (c38 : r28 = y34) : 7 - (k18 + 1) < n21 := by
  have b_r28 := ia_b r28
  have b_y34 := ia_b y34
  try have k_0 := ia_n (tx0.getD ((7 * k7) + k18) 0) (by first | decide | omega)
  try simp only [ia_lt, ia_le, ia_eq, ia_m1, ia_0, ia_1, ne_eq, true_and, and_true, false_and, and_false, or_false, false_or, or_true, true_or, not_true_eq_false, not_false_eq_true] at *
  all_goals omega
set_option maxRecDepth 20000 in
theorem lf_f_wordIn0_22   : 0 ≤ 7 := by
  try simp only [ia_lt, ia_le, ia_eq, ia_m1, ia_0, ia_1, ne_eq, true_and, and_true, false_and, and_false, or_false, false_or, or_true, true_or, not_true_eq_false, not_false_eq_true] at *
  all_goals omega
set_option maxRecDepth 20000 in
theorem lf_f_wordIn0_23 (bt : Nat → Nat) (rlength : Nat) (rplace : Nat) (rbegin : Nat) (rtapeF : Nat → Int32) (k7 : Nat) (n10 : Nat) (iv_rreader_0 : rlength ≤ 940) (iv_rreader_1 : rplace ≤ rlength) (iv_rreader_3 : rbegin ≤ 940) (hTC : TC bt rtapeF) (hbp : rbegin ≤ rplace) (hlen : rplace - rbegin ≤ 7) (hLET : LET bt rbegin (rplace - rbegin)) (j8 : k7 ≤ 7) (jO : ∀ v, v < k7 → ¬ mtc tx0 v bt rbegin (rplace - rbegin)) (hm12 : 7 - k7 < n10 + 1) (c13 : k7 < 7) : ∀ j, j < 0 → tx0.getD (7 * k7 + j) 0 = if j < rplace - rbegin then bt (rbegin + j) else 32 := by
  intro j hj; exact absurd hj (Nat.not_lt_zero j)
set_option maxRecDepth 20000 in
theorem lf_f_wordIn0_24   : 0 ≤ 7 := by
  try simp only [ia_lt, ia_le, ia_eq, ia_m1, ia_0, ia_1, ne_eq, true_and, and_true, false_and, and_false, or_false, false_or, or_true, true_or, not_true_eq_false, not_false_eq_true] at *
  all_goals omega
set_option maxRecDepth 20000 in
theorem lf_f_wordIn0_25 (bt : Nat → Nat) (rlength : Nat) (rplace : Nat) (rbegin : Nat) (rtapeF : Nat → Int32) (iv_rreader_0 : rlength ≤ 940) (iv_rreader_1 : rplace ≤ rlength) (iv_rreader_3 : rbegin ≤ 940) (hTC : TC bt rtapeF) (hbp : rbegin ≤ rplace) (hlen : rplace - rbegin ≤ 7) (hLET : LET bt rbegin (rplace - rbegin)) : ∀ v, v < 0 → ¬ mtc tx0 v bt rbegin (rplace - rbegin) := by
  intro v hv; exact absurd hv (Nat.not_lt_zero v)
set_option maxHeartbeats 4000000 in
set_option maxRecDepth 100000 in
theorem c_f_wordIn0 (l : Launch) (dC : Nat → ClassId) (dI : Nat → Nat → Nat) (ky : Nat → ClassId) (sz : Nat) (adK : Nat → Nat) (adV : Nat → Nat) (bt : Nat → Nat) (reader : Nat) (rtape : Nat) (rlength : Nat) (rmostBytes : Nat) (rplace : Nat) (rkind : Int32) (rbegin : Nat) (rword : Int32) (rnumber : Int32) (rletters : Int64) (rfaultKind : Int32) (rfaultPlace : Int32) (rtapeF : Nat → Int32) (iv_rreader_0 : rlength ≤ 940) (iv_rreader_1 : rplace ≤ rlength) (iv_rreader_2 : rmostBytes ≤ 900) (iv_rreader_3 : rbegin ≤ 940) (hTC : TC bt rtapeF) (hbp : rbegin ≤ rplace) (hlen : rplace - rbegin ≤ 7) (hLET : LET bt rbegin (rplace - rbegin)) : Met l yX5_wordIn wsX5_wordIn ({ frames := 4, cells := 0, slots := 0, locals := 85 }) (PcUE dC dI ky adK adV [.ref reader, .ref (adK 0), .int (nI 0)] [(reader, .inr (5, [.ref rtape, .int (nI rlength), .int (nI rmostBytes), .int (nI rplace), .int rkind, .int (nI rbegin), .int rword, .int rnumber, .long rletters, .int rfaultKind, .int rfaultPlace])), (rtape, .inl (ky 2, 940, .inl rtapeF))] sz) (va_Qi (fun (r : Int32) (_ : Unit) => r = nI (if WT0.idxOf (p8 bt rbegin (rplace - rbegin)) < 7 then 0 + WT0.idxOf (p8 bt rbegin (rplace - rbegin)) else 31)) (BU dC dI ky (fun (_ : Unit) => [(reader, .inr (5, [.ref rtape, .int (nI rlength), .int (nI rmostBytes), .int (nI rplace), .int rkind, .int (nI rbegin), .int rword, .int rnumber, .long rletters, .int rfaultKind, .int rfaultPlace])), (rtape, .inl (ky 2, 940, .inl rtapeF))]) (va_A [(reader, .inr (5, [.ref rtape, .int (nI rlength), .int (nI rmostBytes), .int (nI rplace), .int rkind, .int (nI rbegin), .int rword, .int rnumber, .long rletters, .int rfaultKind, .int rfaultPlace])), (rtape, .inl (ky 2, 940, .inl rtapeF))] sz)) (va_A [(reader, .inr (5, [.ref rtape, .int (nI rlength), .int (nI rmostBytes), .int (nI rplace), .int rkind, .int (nI rbegin), .int rword, .int rnumber, .long rletters, .int rfaultKind, .int rfaultPlace])), (rtape, .inl (ky 2, 940, .inl rtapeF))] sz)) 0 0 (va_A [(reader, .inr (5, [.ref rtape, .int (nI rlength), .int (nI rmostBytes), .int (nI rplace), .int rkind, .int (nI rbegin), .int rword, .int rnumber, .long rletters, .int rfaultKind, .int rfaultPlace])), (rtape, .inl (ky 2, 940, .inl rtapeF))] sz) := by
  refine Met.ofW (cc := cX5_wordIn) (maxL := 7) (ret := (some .int)) (by decide) rfl ?_
  intro p e s m args below meth c s₁ B hml hv
  obtain ⟨rfl, hsz, hP, hK, hD0, hE⟩ := hv
  have hx := B.exec
  have hb := B.bytes
  have hr := B.returns
  have hts := atoms_spec (ws := wsX5_wordIn) B.pre
  have hown : s.vm.findClass RX5 = some m.cls := findClass_of_methodNamed B.named
  have hlocks := B.notSynchronized
  have hin5 : ∀ w ∈ u_ws RX5 TX5 11, w ∈ wsX5_wordIn := by decide +kernel
  subst hsz
  have hD := hD0.self (sz := s.heap.size)
  generalize hAe : va_A [(reader, .inr (5, [.ref rtape, .int (nI rlength), .int (nI rmostBytes), .int (nI rplace), .int rkind, .int (nI rbegin), .int rword, .int rnumber, .long rletters, .int rfaultKind, .int rfaultPlace])), (rtape, .inl (ky 2, 940, .inl rtapeF))] s.heap.size = A at hD hE ⊢
  have hA : ∀ q : Nat, s.heap.size ≤ q → A q := fun q h => by rw [← hAe]; exact Or.inr h
  have hS : va_S A s.heap s.heap [] := va_S.rf
  have hl := lv_entry ([.ref reader, .ref (adK 0), .int (nI 0)]) (n := 7) (Nat.le_of_ble_eq_true rfl)
  rw [lg_entry_eq]
  generalize (lg_sl ([.ref reader, .ref (adK 0), .int (nI 0)]) ++ List.replicate (7 - (lg_sl ([.ref reader, .ref (adK 0), .int (nI 0)])).length) Slot.unset).toArray = ls at hl ⊢
  have hl : lv_has ls 7 [(0, .ref reader), (1, .ref (adK 0)), (2, .int (nI 0))] := hl
  refine q_name (fun Q hQ => ?_)
  generalize ([.ref reader, .ref (adK 0), .int (nI 0)] : List Value).toArray = args at hts hQ ⊢
  refine lv_aload_n hx hb dX5_wordIn_0 rfl (lv_at hl 1 rfl) ?_
  refine vp_callSi (W.runV (As := []) (rest := []) ⟨hx, hb, hml, hown, hts⟩ (c_j_length0 l dC dI ky adK adV) (cwV 0 hts gX5_wordIn_J0_length_8abf5 rfl rfl rfl (by decide +kernel) ⟨(Nat.le_of_ble_eq_true rfl), (Nat.le_of_ble_eq_true rfl)⟩) (pre_PEV hE hS hK hP [] rfl (vk_recv hE.1 (i := 0) (by decide) hS)) rfl rfl hl.1 rfl (lv_room (Nat.le_of_ble_eq_true rfl)) dX5_wordIn_1 ⟨(Nat.le_of_ble_eq_true rfl), (Nat.le_of_ble_eq_true rfl)⟩) (fun r1 p2 => ?_)
  subst p2
  refine lv_bipush (v := nI 7) hx hb dX5_wordIn_4 (by decide) ?_
  refine lv_idiv hx hb dX5_wordIn_6 (by decide) ?_
  refine r_ti (nI 7) (by decide) ?_
  refine lv_istore_n (lv' := [(3, .int (nI 7)), (0, .ref reader), (1, .ref (adK 0)), (2, .int (nI 0))]) hx hb dX5_wordIn_7 rfl hl (by decide) rfl (fun ls hl => ?_)
  refine lv_aload_n hx hb dX5_wordIn_8 rfl (lv_at hl 1 rfl) ?_
  refine va_get (D := (dC, dI)) (ci := 5) (v := .int (nI rplace)) (C := RX5) (T := TX5) (N := 11) hx hb hts hin5 hown hK hP 0 rfl rfl 3 (by decide) (hts (.fieldLink RX5 28 "PorridgeSea$Reader" "place" "I") (List.mem_of_getElem? (i := 1) rfl)) (fun _ h9 => h9) rfl dX5_wordIn_9 ?_
  refine lv_aload_n hx hb dX5_wordIn_12 rfl (lv_at hl 1 rfl) ?_
  refine va_get (D := (dC, dI)) (ci := 5) (v := .int (nI rbegin)) (C := RX5) (T := TX5) (N := 11) hx hb hts hin5 hown hK hP 0 rfl rfl 5 (by decide) (hts (.fieldLink RX5 40 "PorridgeSea$Reader" "begin" "I") (List.mem_of_getElem? (i := 2) rfl)) (fun _ h9 => h9) rfl dX5_wordIn_13 ?_
  refine lv_isub hx hb dX5_wordIn_16 ?_
  refine r_ti (nI (rplace - rbegin)) (pk_sub (lf_f_wordIn0_1 bt rlength rplace rbegin rtapeF iv_rreader_0 iv_rreader_1 iv_rreader_3 hTC hbp hlen hLET)) ?_
  refine lv_istore (lv' := [(4, .int (nI (rplace - rbegin))), (3, .int (nI 7)), (0, .ref reader), (1, .ref (adK 0)), (2, .int (nI 0))]) hx hb dX5_wordIn_17 hl (by decide) rfl (fun ls hl => ?_)
  refine lv_iconst (v := nI 0) hx hb dX5_wordIn_19 (by decide) ?_
  refine lv_istore (lv' := [(5, .int (nI 0)), (4, .int (nI (rplace - rbegin))), (3, .int (nI 7)), (0, .ref reader), (1, .ref (adK 0)), (2, .int (nI 0))]) hx hb dX5_wordIn_20 hl (by decide) rfl (fun ls hl => ?_)
  have hL9 : ∀ (n10 : Nat) (k7 : Nat), (k7 ≤ 7) → (∀ v, v < k7 → ¬ mtc tx0 v bt rbegin (rplace - rbegin)) → 7 - k7 < n10 → ∀ (H : Heap) (locs : List Loc) (ls : Array Slot), va_P (dC, dI) vwCl [(reader, .inr (5, [.ref rtape, .int (nI rlength), .int (nI rmostBytes), .int (nI rplace), .int rkind, .int (nI rbegin), .int rword, .int rnumber, .long rletters, .int rfaultKind, .int rfaultPlace])), (rtape, .inl (ky 2, 940, .inl rtapeF))] H → va_D A [(reader, .inr (5, [.ref rtape, .int (nI rlength), .int (nI rmostBytes), .int (nI rplace), .int rkind, .int (nI rbegin), .int rword, .int rnumber, .long rletters, .int rfaultKind, .int rfaultPlace])), (rtape, .inl (ky 2, 940, .inl rtapeF))] → va_S A s.heap H locs → lv_has ls 7 [(5, .int (nI k7)), (4, .int (nI (rplace - rbegin))), (3, .int (nI 7)), (0, .ref reader), (1, .ref (adK 0)), (2, .int (nI 0))] → W p l e (headSpec wsX5_wordIn ({ frames := 4, cells := 0, slots := 0, locals := 85 })).room s m args below meth c H locs 0 0 Q (F0 m 22 ls []) := by
    intro n10
    induction n10 with
    | zero => intro k7 _ _ h9; exact absurd h9 (Nat.not_lt_zero _)
    | succ n10 ih11 =>
      intro k7 j8 jO hm12 H locs ls hP hD hS hl
      refine lv_iload hx hb dX5_wordIn_22 (lv_at hl 0 rfl) ?_
      refine lv_iload_n hx hb dX5_wordIn_24 rfl (lv_at hl 2 rfl) ?_
      refine n_icmp_ge (x := k7) (y := 7) (tgt := 101) hx hb (by omega) (by omega) dX5_wordIn_25 (by decide) (fun c13 => ?_) (fun c13 => ?_)
      · refine lv_bipush (v := nI 31) hx hb dX5_wordIn_101 (by decide) ?_
        rw [hQ]
        exact W.iret (v := nI 31) hx hb hr (fun t9 ht9 hW9 => ⟨⟨nI 31, (), rfl, (lf_f_wordIn0_2 bt rlength rplace rbegin rtapeF k7 n10 iv_rreader_0 iv_rreader_1 iv_rreader_3 hTC hbp hlen hLET j8 jO hm12 c13), by rw [ht9]; exact hP, va_K.moved hW9.alike hK, hD⟩, hS.F ht9⟩) hS.2.2 dX5_wordIn_103
      · refine lv_iconst (v := nI 0) hx hb dX5_wordIn_28 (by decide) ?_
        refine lv_istore (lv' := [(6, .int (nI 0)), (5, .int (nI k7)), (4, .int (nI (rplace - rbegin))), (3, .int (nI 7)), (0, .ref reader), (1, .ref (adK 0)), (2, .int (nI 0))]) hx hb dX5_wordIn_29 hl (by decide) rfl (fun ls hl => ?_)
        have hL20 : ∀ (n21 : Nat) (k18 : Nat), (k18 ≤ 7) → (∀ j, j < k18 → tx0.getD (7 * k7 + j) 0 = if j < rplace - rbegin then bt (rbegin + j) else 32) → 7 - k18 < n21 → ∀ (H : Heap) (locs : List Loc) (ls : Array Slot), va_P (dC, dI) vwCl [(reader, .inr (5, [.ref rtape, .int (nI rlength), .int (nI rmostBytes), .int (nI rplace), .int rkind, .int (nI rbegin), .int rword, .int rnumber, .long rletters, .int rfaultKind, .int rfaultPlace])), (rtape, .inl (ky 2, 940, .inl rtapeF))] H → va_D A [(reader, .inr (5, [.ref rtape, .int (nI rlength), .int (nI rmostBytes), .int (nI rplace), .int rkind, .int (nI rbegin), .int rword, .int rnumber, .long rletters, .int rfaultKind, .int rfaultPlace])), (rtape, .inl (ky 2, 940, .inl rtapeF))] → va_S A s.heap H locs → lv_has ls 7 [(6, .int (nI k18)), (5, .int (nI k7)), (4, .int (nI (rplace - rbegin))), (3, .int (nI 7)), (0, .ref reader), (1, .ref (adK 0)), (2, .int (nI 0))] → W p l e (headSpec wsX5_wordIn ({ frames := 4, cells := 0, slots := 0, locals := 85 })).room s m args below meth c H locs 0 0 Q (F0 m 31 ls []) := by
          intro n21
          induction n21 with
          | zero => intro k18 _ _ h9; exact absurd h9 (Nat.not_lt_zero _)
          | succ n21 ih22 =>
            intro k18 j19 jI hm23 H locs ls hP hD hS hl
            refine lv_iload hx hb dX5_wordIn_31 (lv_at hl 0 rfl) ?_
            refine lv_bipush (v := nI 7) hx hb dX5_wordIn_33 (by decide) ?_
            refine n_icmp_ge (x := k18) (y := 7) (tgt := 83) hx hb (by omega) (by omega) dX5_wordIn_35 (by decide) (fun c24 => ?_) (fun c24 => ?_)
            · refine lv_iload hx hb dX5_wordIn_83 (lv_at hl 0 rfl) ?_
              refine lv_bipush (v := nI 7) hx hb dX5_wordIn_85 (by decide) ?_
              refine n_icmp_ne (x := k18) (y := 7) (tgt := 95) hx hb (by omega) (by omega) dX5_wordIn_87 (by decide) (fun c25 => ?_) (fun c25 => ?_)
              · refine lv_iinc (v := nI (k7 + 1)) (lv' := [(5, .int (nI (k7 + 1))), (6, .int (nI k18)), (4, .int (nI (rplace - rbegin))), (3, .int (nI 7)), (0, .ref reader), (1, .ref (adK 0)), (2, .int (nI 0))]) hx hb dX5_wordIn_95 hl (k := 1) rfl (show nI k7 + nI 1 = nI (k7 + 1) from nI_add _ _) (by decide) rfl (fun ls hl => ?_)
                refine lv_goto (tgt := 22) hx hb dX5_wordIn_98 (by decide) ?_
                exact ih11 (k7 + 1) (lf_f_wordIn0_3 bt rlength rplace rbegin rtapeF k7 n10 k18 n21 iv_rreader_0 iv_rreader_1 iv_rreader_3 hTC hbp hlen hLET j8 jO hm12 c13 j19 jI hm23 c24 c25) (lf_f_wordIn0_4 bt rlength rplace rbegin rtapeF k7 n10 k18 n21 iv_rreader_0 iv_rreader_1 iv_rreader_3 hTC hbp hlen hLET j8 jO hm12 c13 j19 jI hm23 c24 c25) (lf_f_wordIn0_5 bt rlength rplace rbegin rtapeF k7 n10 k18 n21 iv_rreader_0 iv_rreader_1 iv_rreader_3 hTC hbp hlen hLET j8 jO hm12 c13 j19 jI hm23 c24 c25) _ _ _ hP hD hS (lv_sub hl [0, 2, 3, 4, 5, 6] rfl)
              · refine lv_iload_n hx hb dX5_wordIn_90 rfl (lv_at hl 6 rfl) ?_
                refine lv_iload hx hb dX5_wordIn_91 (lv_at hl 1 rfl) ?_
                refine lv_iadd hx hb dX5_wordIn_93 ?_
                refine r_ti (nI (0 + k7)) (nI_add _ _) ?_
                rw [hQ]
                exact W.iret (v := nI (0 + k7)) hx hb hr (fun t9 ht9 hW9 => ⟨⟨nI (0 + k7), (), rfl, (lf_f_wordIn0_6 bt rlength rplace rbegin rtapeF k7 n10 k18 n21 iv_rreader_0 iv_rreader_1 iv_rreader_3 hTC hbp hlen hLET j8 jO hm12 c13 j19 jI hm23 c24 c25), by rw [ht9]; exact hP, va_K.moved hW9.alike hK, hD⟩, hS.F ht9⟩) hS.2.2 dX5_wordIn_94
            · refine lv_aload_n hx hb dX5_wordIn_38 rfl (lv_at hl 5 rfl) ?_
              refine lv_bipush (v := nI 7) hx hb dX5_wordIn_39 (by decide) ?_
              refine lv_iload hx hb dX5_wordIn_41 (lv_at hl 1 rfl) ?_
              refine lv_imul hx hb dX5_wordIn_43 ?_
              refine r_ti (nI (7 * k7)) (pk_mul _ _) ?_
              refine lv_iload hx hb dX5_wordIn_44 (lv_at hl 0 rfl) ?_
              refine lv_iadd hx hb dX5_wordIn_46 ?_
              refine r_ti (nI ((7 * k7) + k18)) (nI_add _ _) ?_
              refine r_call_i (wr := [(reader, .inr (5, [.ref rtape, .int (nI rlength), .int (nI rmostBytes), .int (nI rplace), .int rkind, .int (nI rbegin), .int rword, .int rnumber, .long rletters, .int rfaultKind, .int rfaultPlace])), (rtape, .inl (ky 2, 940, .inl rtapeF))]) (va_runV (As := [.int (nI ((7 * k7) + k18))]) (rest := []) ⟨hx, hb, hml, hown, hts⟩ (c_f_ch0 l dC dI ky H.size adK adV ((7 * k7) + k18) (lf_f_wordIn0_7 bt rlength rplace rbegin rtapeF k7 n10 k18 n21 iv_rreader_0 iv_rreader_1 iv_rreader_3 hTC hbp hlen hLET j8 jO hm12 c13 j19 jI hm23 c24)) (cwV 1 hts gX5_wordIn_J0_charAt_5068e rfl rfl rfl (by decide +kernel) ⟨(Nat.le_of_ble_eq_true rfl), (Nat.le_of_ble_eq_true rfl)⟩) (pre_UEV hE hS hA hK hP hD [] (by decide) rfl (vk_recv hE.1 (i := 0) (by decide) hS)) rfl rfl hl.1 rfl (lv_room (Nat.le_of_ble_eq_true rfl)) dX5_wordIn_47 ⟨(Nat.le_of_ble_eq_true rfl), (Nat.le_of_ble_eq_true rfl)⟩) hP hD hS hA [] [0, 1] rfl rfl (by decide) (by decide) (fun r28 u26 H locs p27 hP hD hS => ?_)
              try dsimp only at p27
              obtain ⟨p29, p30⟩ := p27
              refine W.widen (k := 0) (n := 0) (Nat.le_of_ble_eq_true rfl) (Nat.le_of_ble_eq_true rfl) ?_
              have hP : va_P (dC, dI) vwCl [(reader, .inr (5, [.ref rtape, .int (nI rlength), .int (nI rmostBytes), .int (nI rplace), .int rkind, .int (nI rbegin), .int rword, .int rnumber, .long rletters, .int rfaultKind, .int rfaultPlace])), (rtape, .inl (ky 2, 940, .inl rtapeF))] H := hP
              have hD : va_D A [(reader, .inr (5, [.ref rtape, .int (nI rlength), .int (nI rmostBytes), .int (nI rplace), .int rkind, .int (nI rbegin), .int rword, .int rnumber, .long rletters, .int rfaultKind, .int rfaultPlace])), (rtape, .inl (ky 2, 940, .inl rtapeF))] := hD
              refine lv_iload hx hb dX5_wordIn_50 (lv_at hl 0 rfl) ?_
              refine lv_iload hx hb dX5_wordIn_52 (lv_at hl 2 rfl) ?_
              refine n_icmp_ge (x := k18) (y := (rplace - rbegin)) (tgt := 72) hx hb (by omega) (by omega) dX5_wordIn_54 (by decide) (fun c31 => ?_) (fun c31 => ?_)
              · refine lv_bipush (v := nI 32) hx hb dX5_wordIn_72 (by decide) ?_
                refine lv_icmp_ne (tgt := 83) hx hb dX5_wordIn_74 (by decide) (fun c32 => ?_) (fun c32 => ?_)
                · refine lv_iload hx hb dX5_wordIn_83 (lv_at hl 0 rfl) ?_
                  refine lv_bipush (v := nI 7) hx hb dX5_wordIn_85 (by decide) ?_
                  refine n_icmp_ne (x := k18) (y := 7) (tgt := 95) hx hb (by omega) (by omega) dX5_wordIn_87 (by decide) (fun c33 => ?_) (fun c33 => ?_)
                  · refine lv_iinc (v := nI (k7 + 1)) (lv' := [(5, .int (nI (k7 + 1))), (6, .int (nI k18)), (4, .int (nI (rplace - rbegin))), (3, .int (nI 7)), (0, .ref reader), (1, .ref (adK 0)), (2, .int (nI 0))]) hx hb dX5_wordIn_95 hl (k := 1) rfl (show nI k7 + nI 1 = nI (k7 + 1) from nI_add _ _) (by decide) rfl (fun ls hl => ?_)
                    refine lv_goto (tgt := 22) hx hb dX5_wordIn_98 (by decide) ?_
                    exact ih11 (k7 + 1) (lf_f_wordIn0_8 bt rlength rplace rbegin rtapeF k7 n10 k18 n21 r28 iv_rreader_0 iv_rreader_1 iv_rreader_3 hTC hbp hlen hLET j8 jO hm12 c13 j19 jI hm23 c24 p29 p30 c31 c32 c33) (lf_f_wordIn0_9 bt rlength rplace rbegin rtapeF k7 n10 k18 n21 r28 iv_rreader_0 iv_rreader_1 iv_rreader_3 hTC hbp hlen hLET j8 jO hm12 c13 j19 jI hm23 c24 p29 p30 c31 c32 c33) (lf_f_wordIn0_10 bt rlength rplace rbegin rtapeF k7 n10 k18 n21 r28 iv_rreader_0 iv_rreader_1 iv_rreader_3 hTC hbp hlen hLET j8 jO hm12 c13 j19 jI hm23 c24 p29 p30 c31 c32 c33) _ _ _ hP hD hS (lv_sub hl [0, 2, 3, 4, 5, 6] rfl)
                  · refine lv_iload_n hx hb dX5_wordIn_90 rfl (lv_at hl 6 rfl) ?_
                    refine lv_iload hx hb dX5_wordIn_91 (lv_at hl 1 rfl) ?_
                    refine lv_iadd hx hb dX5_wordIn_93 ?_
                    refine r_ti (nI (0 + k7)) (nI_add _ _) ?_
                    rw [hQ]
                    exact W.iret (v := nI (0 + k7)) hx hb hr (fun t9 ht9 hW9 => ⟨⟨nI (0 + k7), (), rfl, (lf_f_wordIn0_11 bt rlength rplace rbegin rtapeF k7 n10 k18 n21 r28 iv_rreader_0 iv_rreader_1 iv_rreader_3 hTC hbp hlen hLET j8 jO hm12 c13 j19 jI hm23 c24 p29 p30 c31 c32 c33), by rw [ht9]; exact hP, va_K.moved hW9.alike hK, hD⟩, hS.F ht9⟩) hS.2.2 dX5_wordIn_94
                · refine lv_iinc (v := nI (k18 + 1)) (lv' := [(6, .int (nI (k18 + 1))), (5, .int (nI k7)), (4, .int (nI (rplace - rbegin))), (3, .int (nI 7)), (0, .ref reader), (1, .ref (adK 0)), (2, .int (nI 0))]) hx hb dX5_wordIn_77 hl (k := 0) rfl (show nI k18 + nI 1 = nI (k18 + 1) from nI_add _ _) (by decide) rfl (fun ls hl => ?_)
                  refine lv_goto (tgt := 31) hx hb dX5_wordIn_80 (by decide) ?_
                  exact ih22 (k18 + 1) (lf_f_wordIn0_12 bt rlength rplace rbegin rtapeF k7 n10 k18 n21 r28 iv_rreader_0 iv_rreader_1 iv_rreader_3 hTC hbp hlen hLET j8 jO hm12 c13 j19 jI hm23 c24 p29 p30 c31 c32) (lf_f_wordIn0_13 bt rlength rplace rbegin rtapeF k7 n10 k18 n21 r28 iv_rreader_0 iv_rreader_1 iv_rreader_3 hTC hbp hlen hLET j8 jO hm12 c13 j19 jI hm23 c24 p29 p30 c31 c32) (lf_f_wordIn0_14 bt rlength rplace rbegin rtapeF k7 n10 k18 n21 r28 iv_rreader_0 iv_rreader_1 iv_rreader_3 hTC hbp hlen hLET j8 jO hm12 c13 j19 jI hm23 c24 p29 p30 c31 c32) _ _ _ hP hD hS (lv_sub hl [0, 1, 2, 3, 4, 5, 6] rfl)
              · refine lv_aload_n hx hb dX5_wordIn_57 rfl (lv_at hl 4 rfl) ?_
                refine va_get (D := (dC, dI)) (ci := 5) (v := .ref rtape) (C := RX5) (T := TX5) (N := 11) hx hb hts hin5 hown hK hP 0 rfl rfl 0 (by decide) (hts (.fieldLink RX5 9 "PorridgeSea$Reader" "tape" "[B") (List.mem_of_getElem? (i := 3) rfl)) (fun _ h9 => h9) rfl dX5_wordIn_58 ?_
                refine lv_aload_n hx hb dX5_wordIn_61 rfl (lv_at hl 4 rfl) ?_
                refine va_get (D := (dC, dI)) (ci := 5) (v := .int (nI rbegin)) (C := RX5) (T := TX5) (N := 11) hx hb hts hin5 hown hK hP 0 rfl rfl 5 (by decide) (hts (.fieldLink RX5 40 "PorridgeSea$Reader" "begin" "I") (List.mem_of_getElem? (i := 2) rfl)) (fun _ h9 => h9) rfl dX5_wordIn_62 ?_
                refine lv_iload hx hb dX5_wordIn_65 (lv_at hl 0 rfl) ?_
                refine lv_iadd hx hb dX5_wordIn_67 ?_
                refine r_ti (nI (rbegin + k18)) (nI_add _ _) ?_
                obtain ⟨y34, e35⟩ : ∃ z9, z9 = rtapeF (rbegin + k18) := ⟨_, rfl⟩
                refine r_bald hx hb hK hP 1 rfl (rbegin + k18) (by omega) (by decide) y34 e35.symm dX5_wordIn_68 ?_
                obtain ⟨t36, t37⟩ : bt (rbegin + k18) < 256 ∧ (y34.toInt = ((bt (rbegin + k18) : Nat) : Int) ∨ (128 ≤ bt (rbegin + k18) ∧ y34.toInt = ((bt (rbegin + k18) : Nat) : Int) - 256)) := by rw [e35]; exact hTC (rbegin + k18) (by omega)
                refine lv_goto (tgt := 74) hx hb dX5_wordIn_69 (by decide) ?_
                refine lv_icmp_ne (tgt := 83) hx hb dX5_wordIn_74 (by decide) (fun c38 => ?_) (fun c38 => ?_)
                · refine lv_iload hx hb dX5_wordIn_83 (lv_at hl 0 rfl) ?_
                  refine lv_bipush (v := nI 7) hx hb dX5_wordIn_85 (by decide) ?_
                  refine n_icmp_ne (x := k18) (y := 7) (tgt := 95) hx hb (by omega) (by omega) dX5_wordIn_87 (by decide) (fun c39 => ?_) (fun c39 => ?_)
                  · refine lv_iinc (v := nI (k7 + 1)) (lv' := [(5, .int (nI (k7 + 1))), (6, .int (nI k18)), (4, .int (nI (rplace - rbegin))), (3, .int (nI 7)), (0, .ref reader), (1, .ref (adK 0)), (2, .int (nI 0))]) hx hb dX5_wordIn_95 hl (k := 1) rfl (show nI k7 + nI 1 = nI (k7 + 1) from nI_add _ _) (by decide) rfl (fun ls hl => ?_)
                    refine lv_goto (tgt := 22) hx hb dX5_wordIn_98 (by decide) ?_
                    exact ih11 (k7 + 1) (lf_f_wordIn0_15 bt rlength rplace rbegin rtapeF k7 n10 k18 n21 r28 y34 iv_rreader_0 iv_rreader_1 iv_rreader_3 hTC hbp hlen hLET j8 jO hm12 c13 j19 jI hm23 c24 p29 p30 c31 e35 t36 t37 c38 c39) (lf_f_wordIn0_16 bt rlength rplace rbegin rtapeF k7 n10 k18 n21 r28 y34 iv_rreader_0 iv_rreader_1 iv_rreader_3 hTC hbp hlen hLET j8 jO hm12 c13 j19 jI hm23 c24 p29 p30 c31 e35 t36 t37 c38 c39) (lf_f_wordIn0_17 bt rlength rplace rbegin rtapeF k7 n10 k18 n21 r28 y34 iv_rreader_0 iv_rreader_1 iv_rreader_3 hTC hbp hlen hLET j8 jO hm12 c13 j19 jI hm23 c24 p29 p30 c31 e35 t36 t37 c38 c39) _ _ _ hP hD hS (lv_sub hl [0, 2, 3, 4, 5, 6] rfl)
                  · refine lv_iload_n hx hb dX5_wordIn_90 rfl (lv_at hl 6 rfl) ?_
                    refine lv_iload hx hb dX5_wordIn_91 (lv_at hl 1 rfl) ?_
                    refine lv_iadd hx hb dX5_wordIn_93 ?_
                    refine r_ti (nI (0 + k7)) (nI_add _ _) ?_
                    rw [hQ]
                    exact W.iret (v := nI (0 + k7)) hx hb hr (fun t9 ht9 hW9 => ⟨⟨nI (0 + k7), (), rfl, (lf_f_wordIn0_18 bt rlength rplace rbegin rtapeF k7 n10 k18 n21 r28 y34 iv_rreader_0 iv_rreader_1 iv_rreader_3 hTC hbp hlen hLET j8 jO hm12 c13 j19 jI hm23 c24 p29 p30 c31 e35 t36 t37 c38 c39), by rw [ht9]; exact hP, va_K.moved hW9.alike hK, hD⟩, hS.F ht9⟩) hS.2.2 dX5_wordIn_94
                · refine lv_iinc (v := nI (k18 + 1)) (lv' := [(6, .int (nI (k18 + 1))), (5, .int (nI k7)), (4, .int (nI (rplace - rbegin))), (3, .int (nI 7)), (0, .ref reader), (1, .ref (adK 0)), (2, .int (nI 0))]) hx hb dX5_wordIn_77 hl (k := 0) rfl (show nI k18 + nI 1 = nI (k18 + 1) from nI_add _ _) (by decide) rfl (fun ls hl => ?_)
                  refine lv_goto (tgt := 31) hx hb dX5_wordIn_80 (by decide) ?_
                  exact ih22 (k18 + 1) (lf_f_wordIn0_19 bt rlength rplace rbegin rtapeF k7 n10 k18 n21 r28 y34 iv_rreader_0 iv_rreader_1 iv_rreader_3 hTC hbp hlen hLET j8 jO hm12 c13 j19 jI hm23 c24 p29 p30 c31 e35 t36 t37 c38) (lf_f_wordIn0_20 bt rlength rplace rbegin rtapeF k7 n10 k18 n21 r28 y34 iv_rreader_0 iv_rreader_1 iv_rreader_3 hTC hbp hlen hLET j8 jO hm12 c13 j19 jI hm23 c24 p29 p30 c31 e35 t36 t37 c38) (lf_f_wordIn0_21 bt rlength rplace rbegin rtapeF k7 n10 k18 n21 r28 y34 iv_rreader_0 iv_rreader_1 iv_rreader_3 hTC hbp hlen hLET j8 jO hm12 c13 j19 jI hm23 c24 p29 p30 c31 e35 t36 t37 c38) _ _ _ hP hD hS (lv_sub hl [0, 1, 2, 3, 4, 5, 6] rfl)
        exact hL20 ((7 - 0) + 1) 0 (lf_f_wordIn0_22) (lf_f_wordIn0_23 bt rlength rplace rbegin rtapeF k7 n10 iv_rreader_0 iv_rreader_1 iv_rreader_3 hTC hbp hlen hLET j8 jO hm12 c13) (Nat.lt_succ_self _) _ _ _ hP hD hS (lv_sub hl [0, 1, 2, 3, 4, 5, 6] rfl)
  exact hL9 ((7 - 0) + 1) 0 (lf_f_wordIn0_24) (lf_f_wordIn0_25 bt rlength rplace rbegin rtapeF iv_rreader_0 iv_rreader_1 iv_rreader_3 hTC hbp hlen hLET) (Nat.lt_succ_self _) _ _ _ hP hD hS (lv_sub hl [0, 1, 2, 3, 4, 5] rfl)
set_option maxRecDepth 20000 in
theorem lf_f_wordIn1_1 (bt : Nat → Nat) (rlength : Nat) (rplace : Nat) (rbegin : Nat) (rtapeF : Nat → Int32) (iv_rreader_0 : rlength ≤ 940) (iv_rreader_1 : rplace ≤ rlength) (iv_rreader_3 : rbegin ≤ 940) (hTC : TC bt rtapeF) (hbp : rbegin ≤ rplace) (hlen : rplace - rbegin ≤ 7) (hLET : LET bt rbegin (rplace - rbegin)) : rbegin ≤ rplace := by
  try simp only [ia_lt, ia_le, ia_eq, ia_m1, ia_0, ia_1, ne_eq, true_and, and_true, false_and, and_false, or_false, false_or, or_true, true_or, not_true_eq_false, not_false_eq_true] at *
  all_goals omega
set_option maxRecDepth 20000 in
theorem lf_f_wordIn1_2 (bt : Nat → Nat) (rlength : Nat) (rplace : Nat) (rbegin : Nat) (rtapeF : Nat → Int32) (k7 : Nat) (n10 : Nat) (iv_rreader_0 : rlength ≤ 940) (iv_rreader_1 : rplace ≤ rlength) (iv_rreader_3 : rbegin ≤ 940) (hTC : TC bt rtapeF) (hbp : rbegin ≤ rplace) (hlen : rplace - rbegin ≤ 7) (hLET : LET bt rbegin (rplace - rbegin)) (j8 : k7 ≤ 13) (jO : ∀ v, v < k7 → ¬ mtc tx1 v bt rbegin (rplace - rbegin)) (hm12 : 13 - k7 < n10 + 1) (c13 : 13 ≤ k7) : (nI 31) = nI (if WT1.idxOf (p8 bt rbegin (rplace - rbegin)) < 13 then 7 + WT1.idxOf (p8 bt rbegin (rplace - rbegin)) else 31) := by
  have h9 : WT1.idxOf (p8 bt rbegin (rplace - rbegin)) = 13 := idx_none (fun v hv he => jO v (by
    have h8 : v < 13 := hv
    try have k_0 := ia_n 31 (by first | decide | omega)
    try have k_1 := ia_n (if WT1.idxOf (p8 bt rbegin (rplace - rbegin)) < 13 then 7 + WT1.idxOf (p8 bt rbegin (rplace - rbegin)) else 31) (by first | decide | omega)
    try simp only [ia_lt, ia_le, ia_eq, ia_m1, ia_0, ia_1, ne_eq, true_and, and_true, false_and, and_false, or_false, false_or, or_true, true_or, not_true_eq_false, not_false_eq_true] at *
    all_goals omega) ((mtc_iff txok1 hv hLET hlen).mpr he))
  rw [h9]
  rfl
set_option maxRecDepth 20000 in
theorem lf_f_wordIn1_3 (bt : Nat → Nat) (rlength : Nat) (rplace : Nat) (rbegin : Nat) (rtapeF : Nat → Int32) (k7 : Nat) (n10 : Nat) (k18 : Nat) (n21 : Nat) (iv_rreader_0 : rlength ≤ 940) (iv_rreader_1 : rplace ≤ rlength) (iv_rreader_3 : rbegin ≤ 940) (hTC : TC bt rtapeF) (hbp : rbegin ≤ rplace) (hlen : rplace - rbegin ≤ 7) (hLET : LET bt rbegin (rplace - rbegin)) (j8 : k7 ≤ 13) (jO : ∀ v, v < k7 → ¬ mtc tx1 v bt rbegin (rplace - rbegin)) (hm12 : 13 - k7 < n10 + 1) (c13 : k7 < 13) (j19 : k18 ≤ 7) (jI : ∀ j, j < k18 → tx1.getD (7 * k7 + j) 0 = if j < rplace - rbegin then bt (rbegin + j) else 32) (hm23 : 7 - k18 < n21 + 1) (c24 : 7 ≤ k18) (c25 : k18 ≠ 7) : (k7 + 1) ≤ 13 := by
  try simp only [ia_lt, ia_le, ia_eq, ia_m1, ia_0, ia_1, ne_eq, true_and, and_true, false_and, and_false, or_false, false_or, or_true, true_or, not_true_eq_false, not_false_eq_true] at *
  all_goals omega
set_option maxRecDepth 20000 in
theorem lf_f_wordIn1_4 (bt : Nat → Nat) (rlength : Nat) (rplace : Nat) (rbegin : Nat) (rtapeF : Nat → Int32) (k7 : Nat) (n10 : Nat) (k18 : Nat) (n21 : Nat) (iv_rreader_0 : rlength ≤ 940) (iv_rreader_1 : rplace ≤ rlength) (iv_rreader_3 : rbegin ≤ 940) (hTC : TC bt rtapeF) (hbp : rbegin ≤ rplace) (hlen : rplace - rbegin ≤ 7) (hLET : LET bt rbegin (rplace - rbegin)) (j8 : k7 ≤ 13) (jO : ∀ v, v < k7 → ¬ mtc tx1 v bt rbegin (rplace - rbegin)) (hm12 : 13 - k7 < n10 + 1) (c13 : k7 < 13) (j19 : k18 ≤ 7) (jI : ∀ j, j < k18 → tx1.getD (7 * k7 + j) 0 = if j < rplace - rbegin then bt (rbegin + j) else 32) (hm23 : 7 - k18 < n21 + 1) (c24 : 7 ≤ k18) (c25 : k18 ≠ 7) : ∀ v, v < (k7 + 1) → ¬ mtc tx1 v bt rbegin (rplace - rbegin) := by
  intro v hv hm
  by_cases hvw : v = k7
  · have h8 := hm k18 (by
      try simp only [ia_lt, ia_le, ia_eq, ia_m1, ia_0, ia_1, ne_eq, true_and, and_true, false_and, and_false, or_false, false_or, or_true, true_or, not_true_eq_false, not_false_eq_true] at *
      all_goals omega)
    rw [hvw] at h8
    have h7 := tx_lt1 (7 * k7 + k18)
    have h6 := ia_n (tx1.getD (7 * k7 + k18) 0) (by omega)
    by_cases h5 : k18 < rplace - rbegin
    · rw [if_pos h5] at h8
      try simp only [ia_lt, ia_le, ia_eq, ia_m1, ia_0, ia_1, ne_eq, true_and, and_true, false_and, and_false, or_false, false_or, or_true, true_or, not_true_eq_false, not_false_eq_true] at *
      all_goals omega
    · rw [if_neg h5] at h8
      try simp only [ia_lt, ia_le, ia_eq, ia_m1, ia_0, ia_1, ne_eq, true_and, and_true, false_and, and_false, or_false, false_or, or_true, true_or, not_true_eq_false, not_false_eq_true] at *
      all_goals omega
  · exact jO v (by omega) hm
set_option maxRecDepth 20000 in
theorem lf_f_wordIn1_5 (bt : Nat → Nat) (rlength : Nat) (rplace : Nat) (rbegin : Nat) (rtapeF : Nat → Int32) (k7 : Nat) (n10 : Nat) (k18 : Nat) (n21 : Nat) (iv_rreader_0 : rlength ≤ 940) (iv_rreader_1 : rplace ≤ rlength) (iv_rreader_3 : rbegin ≤ 940) (hTC : TC bt rtapeF) (hbp : rbegin ≤ rplace) (hlen : rplace - rbegin ≤ 7) (hLET : LET bt rbegin (rplace - rbegin)) (j8 : k7 ≤ 13) (jO : ∀ v, v < k7 → ¬ mtc tx1 v bt rbegin (rplace - rbegin)) (hm12 : 13 - k7 < n10 + 1) (c13 : k7 < 13) (j19 : k18 ≤ 7) (jI : ∀ j, j < k18 → tx1.getD (7 * k7 + j) 0 = if j < rplace - rbegin then bt (rbegin + j) else 32) (hm23 : 7 - k18 < n21 + 1) (c24 : 7 ≤ k18) (c25 : k18 ≠ 7) : 13 - (k7 + 1) < n10 := by
  try simp only [ia_lt, ia_le, ia_eq, ia_m1, ia_0, ia_1, ne_eq, true_and, and_true, false_and, and_false, or_false, false_or, or_true, true_or, not_true_eq_false, not_false_eq_true] at *
  all_goals omega
set_option maxRecDepth 20000 in
theorem lf_f_wordIn1_6 (bt : Nat → Nat) (rlength : Nat) (rplace : Nat) (rbegin : Nat) (rtapeF : Nat → Int32) (k7 : Nat) (n10 : Nat) (k18 : Nat) (n21 : Nat) (iv_rreader_0 : rlength ≤ 940) (iv_rreader_1 : rplace ≤ rlength) (iv_rreader_3 : rbegin ≤ 940) (hTC : TC bt rtapeF) (hbp : rbegin ≤ rplace) (hlen : rplace - rbegin ≤ 7) (hLET : LET bt rbegin (rplace - rbegin)) (j8 : k7 ≤ 13) (jO : ∀ v, v < k7 → ¬ mtc tx1 v bt rbegin (rplace - rbegin)) (hm12 : 13 - k7 < n10 + 1) (c13 : k7 < 13) (j19 : k18 ≤ 7) (jI : ∀ j, j < k18 → tx1.getD (7 * k7 + j) 0 = if j < rplace - rbegin then bt (rbegin + j) else 32) (hm23 : 7 - k18 < n21 + 1) (c24 : 7 ≤ k18) (c25 : k18 = 7) : (nI (7 + k7)) = nI (if WT1.idxOf (p8 bt rbegin (rplace - rbegin)) < 13 then 7 + WT1.idxOf (p8 bt rbegin (rplace - rbegin)) else 31) := by
  have hk7 : k18 = 7 ∧ k7 < 13 := by
    try have k_0 := ia_n (7 + k7) (by first | decide | omega)
    try have k_1 := ia_n (if WT1.idxOf (p8 bt rbegin (rplace - rbegin)) < 13 then 7 + WT1.idxOf (p8 bt rbegin (rplace - rbegin)) else 31) (by first | decide | omega)
    try simp only [ia_lt, ia_le, ia_eq, ia_m1, ia_0, ia_1, ne_eq, true_and, and_true, false_and, and_false, or_false, false_or, or_true, true_or, not_true_eq_false, not_false_eq_true] at *
    all_goals omega
  have hm : mtc tx1 k7 bt rbegin (rplace - rbegin) := fun j hj => jI j (by omega)
  have h9 : WT1.idxOf (p8 bt rbegin (rplace - rbegin)) = k7 := idx_hit (fun v hv he => jO v hv ((mtc_iff txok1 (show v < 13 by omega) hLET hlen).mpr he)) (show k7 < 13 by omega) ((mtc_iff txok1 (show k7 < 13 by omega) hLET hlen).mp hm)
  rw [h9, if_pos hk7.2]
  try exact congrArg nI (by omega)
set_option maxRecDepth 20000 in
theorem lf_f_wordIn1_7 (bt : Nat → Nat) (rlength : Nat) (rplace : Nat) (rbegin : Nat) (rtapeF : Nat → Int32) (k7 : Nat) (n10 : Nat) (k18 : Nat) (n21 : Nat) (iv_rreader_0 : rlength ≤ 940) (iv_rreader_1 : rplace ≤ rlength) (iv_rreader_3 : rbegin ≤ 940) (hTC : TC bt rtapeF) (hbp : rbegin ≤ rplace) (hlen : rplace - rbegin ≤ 7) (hLET : LET bt rbegin (rplace - rbegin)) (j8 : k7 ≤ 13) (jO : ∀ v, v < k7 → ¬ mtc tx1 v bt rbegin (rplace - rbegin)) (hm12 : 13 - k7 < n10 + 1) (c13 : k7 < 13) (j19 : k18 ≤ 7) (jI : ∀ j, j < k18 → tx1.getD (7 * k7 + j) 0 = if j < rplace - rbegin then bt (rbegin + j) else 32) (hm23 : 7 - k18 < n21 + 1) (c24 : k18 < 7) : ((7 * k7) + k18) < 91 := by
  try simp only [ia_lt, ia_le, ia_eq, ia_m1, ia_0, ia_1, ne_eq, true_and, and_true, false_and, and_false, or_false, false_or, or_true, true_or, not_true_eq_false, not_false_eq_true] at *
  all_goals omega
set_option maxRecDepth 20000 in
theorem lf_f_wordIn1_8 (bt : Nat → Nat) (rlength : Nat) (rplace : Nat) (rbegin : Nat) (rtapeF : Nat → Int32) (k7 : Nat) (n10 : Nat) (k18 : Nat) (n21 : Nat) (r28 : Int32) (iv_rreader_0 : rlength ≤ 940) (iv_rreader_1 : rplace ≤ rlength) (iv_rreader_3 : rbegin ≤ 940) (hTC : TC bt rtapeF) (hbp : rbegin ≤ rplace) (hlen : rplace - rbegin ≤ 7) (hLET : LET bt rbegin (rplace - rbegin)) (j8 : k7 ≤ 13) (jO : ∀ v, v < k7 → ¬ mtc tx1 v bt rbegin (rplace - rbegin)) (hm12 : 13 - k7 < n10 + 1) (c13 : k7 < 13) (j19 : k18 ≤ 7) (jI : ∀ j, j < k18 → tx1.getD (7 * k7 + j) 0 = if j < rplace - rbegin then bt (rbegin + j) else 32) (hm23 : 7 - k18 < n21 + 1) (c24 : k18 < 7) (p29 : narrow .char (.int r28) = .int r28) (p30 : r28 = nI (tx1.getD ((7 * k7) + k18) 0)) (c31 : (rplace - rbegin) ≤ k18) (c32 : r28 ≠ nI 32) (c33 : k18 ≠ 7) : (k7 + 1) ≤ 13 := by
  have b_r28 := ia_b r28
  try have k_0 := ia_n (tx1.getD ((7 * k7) + k18) 0) (by first | decide | omega)
  try have k_1 := ia_n 32 (by first | decide | omega)
  try simp only [ia_lt, ia_le, ia_eq, ia_m1, ia_0, ia_1, ne_eq, true_and, and_true, false_and, and_false, or_false, false_or, or_true, true_or, not_true_eq_false, not_false_eq_true] at *
  all_goals omega
set_option maxRecDepth 20000 in
theorem lf_f_wordIn1_9 (bt : Nat → Nat) (rlength : Nat) (rplace : Nat) (rbegin : Nat) (rtapeF : Nat → Int32) (k7 : Nat) (n10 : Nat) (k18 : Nat) (n21 : Nat) (r28 : Int32) (iv_rreader_0 : rlength ≤ 940) (iv_rreader_1 : rplace ≤ rlength) (iv_rreader_3 : rbegin ≤ 940) (hTC : TC bt rtapeF) (hbp : rbegin ≤ rplace) (hlen : rplace - rbegin ≤ 7) (hLET : LET bt rbegin (rplace - rbegin)) (j8 : k7 ≤ 13) (jO : ∀ v, v < k7 → ¬ mtc tx1 v bt rbegin (rplace - rbegin)) (hm12 : 13 - k7 < n10 + 1) (c13 : k7 < 13) (j19 : k18 ≤ 7) (jI : ∀ j, j < k18 → tx1.getD (7 * k7 + j) 0 = if j < rplace - rbegin then bt (rbegin + j) else 32) (hm23 : 7 - k18 < n21 + 1) (c24 : k18 < 7) (p29 : narrow .char (.int r28) = .int r28) (p30 : r28 = nI (tx1.getD ((7 * k7) + k18) 0)) (c31 : (rplace - rbegin) ≤ k18) (c32 : r28 ≠ nI 32) (c33 : k18 ≠ 7) : ∀ v, v < (k7 + 1) → ¬ mtc tx1 v bt rbegin (rplace - rbegin) := by
  intro v hv hm
  by_cases hvw : v = k7
  · have h8 := hm k18 (by
      have b_r28 := ia_b r28
      try have k_0 := ia_n (tx1.getD ((7 * k7) + k18) 0) (by first | decide | omega)
      try have k_1 := ia_n 32 (by first | decide | omega)
      try simp only [ia_lt, ia_le, ia_eq, ia_m1, ia_0, ia_1, ne_eq, true_and, and_true, false_and, and_false, or_false, false_or, or_true, true_or, not_true_eq_false, not_false_eq_true] at *
      all_goals omega)
    rw [hvw] at h8
    have h7 := tx_lt1 (7 * k7 + k18)
    have h6 := ia_n (tx1.getD (7 * k7 + k18) 0) (by omega)
    by_cases h5 : k18 < rplace - rbegin
    · rw [if_pos h5] at h8
      have b_r28 := ia_b r28
      try have k_0 := ia_n (tx1.getD ((7 * k7) + k18) 0) (by first | decide | omega)
      try have k_1 := ia_n 32 (by first | decide | omega)
      try simp only [ia_lt, ia_le, ia_eq, ia_m1, ia_0, ia_1, ne_eq, true_and, and_true, false_and, and_false, or_false, false_or, or_true, true_or, not_true_eq_false, not_false_eq_true] at *
      all_goals omega
    · rw [if_neg h5] at h8
      have b_r28 := ia_b r28
      try have k_0 := ia_n (tx1.getD ((7 * k7) + k18) 0) (by first | decide | omega)
      try have k_1 := ia_n 32 (by first | decide | omega)
      try simp only [ia_lt, ia_le, ia_eq, ia_m1, ia_0, ia_1, ne_eq, true_and, and_true, false_and, and_false, or_false, false_or, or_true, true_or, not_true_eq_false, not_false_eq_true] at *
      all_goals omega
  · exact jO v (by omega) hm
set_option maxRecDepth 20000 in
theorem lf_f_wordIn1_10 (bt : Nat → Nat) (rlength : Nat) (rplace : Nat) (rbegin : Nat) (rtapeF : Nat → Int32) (k7 : Nat) (n10 : Nat) (k18 : Nat) (n21 : Nat) (r28 : Int32) (iv_rreader_0 : rlength ≤ 940) (iv_rreader_1 : rplace ≤ rlength) (iv_rreader_3 : rbegin ≤ 940) (hTC : TC bt rtapeF) (hbp : rbegin ≤ rplace) (hlen : rplace - rbegin ≤ 7) (hLET : LET bt rbegin (rplace - rbegin)) (j8 : k7 ≤ 13) (jO : ∀ v, v < k7 → ¬ mtc tx1 v bt rbegin (rplace - rbegin)) (hm12 : 13 - k7 < n10 + 1) (c13 : k7 < 13) (j19 : k18 ≤ 7) (jI : ∀ j, j < k18 → tx1.getD (7 * k7 + j) 0 = if j < rplace - rbegin then bt (rbegin + j) else 32) (hm23 : 7 - k18 < n21 + 1) (c24 : k18 < 7) (p29 : narrow .char (.int r28) = .int r28) (p30 : r28 = nI (tx1.getD ((7 * k7) + k18) 0)) (c31 : (rplace - rbegin) ≤ k18) (c32 : r28 ≠ nI 32) (c33 : k18 ≠ 7) : 13 - (k7 + 1) < n10 := by
  have b_r28 := ia_b r28
  try have k_0 := ia_n (tx1.getD ((7 * k7) + k18) 0) (by first | decide | omega)
  try have k_1 := ia_n 32 (by first | decide | omega)
  try simp only [ia_lt, ia_le, ia_eq, ia_m1, ia_0, ia_1, ne_eq, true_and, and_true, false_and, and_false, or_false, false_or, or_true, true_or, not_true_eq_false, not_false_eq_true] at *
  all_goals omega
set_option maxRecDepth 20000 in
theorem lf_f_wordIn1_11 (bt : Nat → Nat) (rlength : Nat) (rplace : Nat) (rbegin : Nat) (rtapeF : Nat → Int32) (k7 : Nat) (n10 : Nat) (k18 : Nat) (n21 : Nat) (r28 : Int32) (iv_rreader_0 : rlength ≤ 940) (iv_rreader_1 : rplace ≤ rlength) (iv_rreader_3 : rbegin ≤ 940) (hTC : TC bt rtapeF) (hbp : rbegin ≤ rplace) (hlen : rplace - rbegin ≤ 7) (hLET : LET bt rbegin (rplace - rbegin)) (j8 : k7 ≤ 13) (jO : ∀ v, v < k7 → ¬ mtc tx1 v bt rbegin (rplace - rbegin)) (hm12 : 13 - k7 < n10 + 1) (c13 : k7 < 13) (j19 : k18 ≤ 7) (jI : ∀ j, j < k18 → tx1.getD (7 * k7 + j) 0 = if j < rplace - rbegin then bt (rbegin + j) else 32) (hm23 : 7 - k18 < n21 + 1) (c24 : k18 < 7) (p29 : narrow .char (.int r28) = .int r28) (p30 : r28 = nI (tx1.getD ((7 * k7) + k18) 0)) (c31 : (rplace - rbegin) ≤ k18) (c32 : r28 ≠ nI 32) (c33 : k18 = 7) : (nI (7 + k7)) = nI (if WT1.idxOf (p8 bt rbegin (rplace - rbegin)) < 13 then 7 + WT1.idxOf (p8 bt rbegin (rplace - rbegin)) else 31) := by
  have hk7 : k18 = 7 ∧ k7 < 13 := by
    have b_r28 := ia_b r28
    try have k_0 := ia_n (tx1.getD ((7 * k7) + k18) 0) (by first | decide | omega)
    try have k_1 := ia_n 32 (by first | decide | omega)
    try have k_2 := ia_n (7 + k7) (by first | decide | omega)
    try have k_3 := ia_n (if WT1.idxOf (p8 bt rbegin (rplace - rbegin)) < 13 then 7 + WT1.idxOf (p8 bt rbegin (rplace - rbegin)) else 31) (by first | decide | omega)
    try simp only [ia_lt, ia_le, ia_eq, ia_m1, ia_0, ia_1, ne_eq, true_and, and_true, false_and, and_false, or_false, false_or, or_true, true_or, not_true_eq_false, not_false_eq_true] at *
    all_goals omega
  have hm : mtc tx1 k7 bt rbegin (rplace - rbegin) := fun j hj => jI j (by omega)
  have h9 : WT1.idxOf (p8 bt rbegin (rplace - rbegin)) = k7 := idx_hit (fun v hv he => jO v hv ((mtc_iff txok1 (show v < 13 by omega) hLET hlen).mpr he)) (show k7 < 13 by omega) ((mtc_iff txok1 (show k7 < 13 by omega) hLET hlen).mp hm)
  rw [h9, if_pos hk7.2]
  try exact congrArg nI (by omega)
set_option maxRecDepth 20000 in
theorem lf_f_wordIn1_12 (bt : Nat → Nat) (rlength : Nat) (rplace : Nat) (rbegin : Nat) (rtapeF : Nat → Int32) (k7 : Nat) (n10 : Nat) (k18 : Nat) (n21 : Nat) (r28 : Int32) (iv_rreader_0 : rlength ≤ 940) (iv_rreader_1 : rplace ≤ rlength) (iv_rreader_3 : rbegin ≤ 940) (hTC : TC bt rtapeF) (hbp : rbegin ≤ rplace) (hlen : rplace - rbegin ≤ 7) (hLET : LET bt rbegin (rplace - rbegin)) (j8 : k7 ≤ 13) (jO : ∀ v, v < k7 → ¬ mtc tx1 v bt rbegin (rplace - rbegin)) (hm12 : 13 - k7 < n10 + 1) (c13 : k7 < 13) (j19 : k18 ≤ 7) (jI : ∀ j, j < k18 → tx1.getD (7 * k7 + j) 0 = if j < rplace - rbegin then bt (rbegin + j) else 32) (hm23 : 7 - k18 < n21 + 1) (c24 : k18 < 7) (p29 : narrow .char (.int r28) = .int r28) (p30 : r28 = nI (tx1.getD ((7 * k7) + k18) 0)) (c31 : (rplace - rbegin) ≤ k18) (c32 : r28 = nI 32) : (k18 + 1) ≤ 7 := by
  have b_r28 := ia_b r28
  try have k_0 := ia_n (tx1.getD ((7 * k7) + k18) 0) (by first | decide | omega)
  try have k_1 := ia_n 32 (by first | decide | omega)
  try simp only [ia_lt, ia_le, ia_eq, ia_m1, ia_0, ia_1, ne_eq, true_and, and_true, false_and, and_false, or_false, false_or, or_true, true_or, not_true_eq_false, not_false_eq_true] at *
  all_goals omega
set_option maxRecDepth 20000 in
theorem lf_f_wordIn1_13 (bt : Nat → Nat) (rlength : Nat) (rplace : Nat) (rbegin : Nat) (rtapeF : Nat → Int32) (k7 : Nat) (n10 : Nat) (k18 : Nat) (n21 : Nat) (r28 : Int32) (iv_rreader_0 : rlength ≤ 940) (iv_rreader_1 : rplace ≤ rlength) (iv_rreader_3 : rbegin ≤ 940) (hTC : TC bt rtapeF) (hbp : rbegin ≤ rplace) (hlen : rplace - rbegin ≤ 7) (hLET : LET bt rbegin (rplace - rbegin)) (j8 : k7 ≤ 13) (jO : ∀ v, v < k7 → ¬ mtc tx1 v bt rbegin (rplace - rbegin)) (hm12 : 13 - k7 < n10 + 1) (c13 : k7 < 13) (j19 : k18 ≤ 7) (jI : ∀ j, j < k18 → tx1.getD (7 * k7 + j) 0 = if j < rplace - rbegin then bt (rbegin + j) else 32) (hm23 : 7 - k18 < n21 + 1) (c24 : k18 < 7) (p29 : narrow .char (.int r28) = .int r28) (p30 : r28 = nI (tx1.getD ((7 * k7) + k18) 0)) (c31 : (rplace - rbegin) ≤ k18) (c32 : r28 = nI 32) : ∀ j, j < (k18 + 1) → tx1.getD (7 * k7 + j) 0 = if j < rplace - rbegin then bt (rbegin + j) else 32 := by
  intro j hj
  by_cases hjk : j = k18
  · rw [hjk]
    have h7 := tx_lt1 (7 * k7 + k18)
    have h6 := ia_n (tx1.getD (7 * k7 + k18) 0) (by omega)
    by_cases h5 : k18 < rplace - rbegin
    · rw [if_pos h5]
      have b_r28 := ia_b r28
      try have k_0 := ia_n (tx1.getD ((7 * k7) + k18) 0) (by first | decide | omega)
      try have k_1 := ia_n 32 (by first | decide | omega)
      try simp only [ia_lt, ia_le, ia_eq, ia_m1, ia_0, ia_1, ne_eq, true_and, and_true, false_and, and_false, or_false, false_or, or_true, true_or, not_true_eq_false, not_false_eq_true] at *
      all_goals omega
    · rw [if_neg h5]
      have b_r28 := ia_b r28
      try have k_0 := ia_n (tx1.getD ((7 * k7) + k18) 0) (by first | decide | omega)
      try have k_1 := ia_n 32 (by first | decide | omega)
      try simp only [ia_lt, ia_le, ia_eq, ia_m1, ia_0, ia_1, ne_eq, true_and, and_true, false_and, and_false, or_false, false_or, or_true, true_or, not_true_eq_false, not_false_eq_true] at *
      all_goals omega
  · exact jI j (by omega)
set_option maxRecDepth 20000 in
theorem lf_f_wordIn1_14 (bt : Nat → Nat) (rlength : Nat) (rplace : Nat) (rbegin : Nat) (rtapeF : Nat → Int32) (k7 : Nat) (n10 : Nat) (k18 : Nat) (n21 : Nat) (r28 : Int32) (iv_rreader_0 : rlength ≤ 940) (iv_rreader_1 : rplace ≤ rlength) (iv_rreader_3 : rbegin ≤ 940) (hTC : TC bt rtapeF) (hbp : rbegin ≤ rplace) (hlen : rplace - rbegin ≤ 7) (hLET : LET bt rbegin (rplace - rbegin)) (j8 : k7 ≤ 13) (jO : ∀ v, v < k7 → ¬ mtc tx1 v bt rbegin (rplace - rbegin)) (hm12 : 13 - k7 < n10 + 1) (c13 : k7 < 13) (j19 : k18 ≤ 7) (jI : ∀ j, j < k18 → tx1.getD (7 * k7 + j) 0 = if j < rplace - rbegin then bt (rbegin + j) else 32) (hm23 : 7 - k18 < n21 + 1) (c24 : k18 < 7) (p29 : narrow .char (.int r28) = .int r28) (p30 : r28 = nI (tx1.getD ((7 * k7) + k18) 0)) (c31 : (rplace - rbegin) ≤ k18) (c32 : r28 = nI 32) : 7 - (k18 + 1) < n21 := by
  have b_r28 := ia_b r28
  try have k_0 := ia_n (tx1.getD ((7 * k7) + k18) 0) (by first | decide | omega)
  try have k_1 := ia_n 32 (by first | decide | omega)
  try simp only [ia_lt, ia_le, ia_eq, ia_m1, ia_0, ia_1, ne_eq, true_and, and_true, false_and, and_false, or_false, false_or, or_true, true_or, not_true_eq_false, not_false_eq_true] at *
  all_goals omega
set_option maxRecDepth 20000 in
theorem lf_f_wordIn1_15 (bt : Nat → Nat) (rlength : Nat) (rplace : Nat) (rbegin : Nat) (rtapeF : Nat → Int32) (k7 : Nat) (n10 : Nat) (k18 : Nat) (n21 : Nat) (r28 : Int32) (y34 : Int32) (iv_rreader_0 : rlength ≤ 940) (iv_rreader_1 : rplace ≤ rlength) (iv_rreader_3 : rbegin ≤ 940) (hTC : TC bt rtapeF) (hbp : rbegin ≤ rplace) (hlen : rplace - rbegin ≤ 7) (hLET : LET bt rbegin (rplace - rbegin)) (j8 : k7 ≤ 13) (jO : ∀ v, v < k7 → ¬ mtc tx1 v bt rbegin (rplace - rbegin)) (hm12 : 13 - k7 < n10 + 1) (c13 : k7 < 13) (j19 : k18 ≤ 7) (jI : ∀ j, j < k18 → tx1.getD (7 * k7 + j) 0 = if j < rplace - rbegin then bt (rbegin + j) else 32) (hm23 : 7 - k18 < n21 + 1) (c24 : k18 < 7) (p29 : narrow .char (.int r28) = .int r28) (p30 : r28 = nI (tx1.getD ((7 * k7) + k18) 0)) (c31 : k18 < (rplace - rbegin)) (e35 : y34 = rtapeF (rbegin + k18)) (t36 : bt (rbegin + k18) < 256) (t37 : y34.toInt = ((bt (rbegin + k18) : Nat) : Int) ∨ (128 ≤ bt (rbegin + k18) ∧ y34.toInt = ((bt (rbegin + k18) : Nat) : Int) - 256)) (c38 : r28 ≠ y34) (c39 : k18 ≠ 7) : (k7 + 1) ≤ 13 := by
  have b_r28 := ia_b r28
  have b_y34 := ia_b y34
  try have k_0 := ia_n (tx1.getD ((7 * k7) + k18) 0) (by first | decide | omega)
  try simp only [ia_lt, ia_le, ia_eq, ia_m1, ia_0, ia_1, ne_eq, true_and, and_true, false_and, and_false, or_false, false_or, or_true, true_or, not_true_eq_false, not_false_eq_true] at *
  all_goals omega
set_option maxRecDepth 20000 in
theorem lf_f_wordIn1_16 (bt : Nat → Nat) (rlength : Nat) (rplace : Nat) (rbegin : Nat) (rtapeF : Nat → Int32) (k7 : Nat) (n10 : Nat) (k18 : Nat) (n21 : Nat) (r28 : Int32) (y34 : Int32) (iv_rreader_0 : rlength ≤ 940) (iv_rreader_1 : rplace ≤ rlength) (iv_rreader_3 : rbegin ≤ 940) (hTC : TC bt rtapeF) (hbp : rbegin ≤ rplace) (hlen : rplace - rbegin ≤ 7) (hLET : LET bt rbegin (rplace - rbegin)) (j8 : k7 ≤ 13) (jO : ∀ v, v < k7 → ¬ mtc tx1 v bt rbegin (rplace - rbegin)) (hm12 : 13 - k7 < n10 + 1) (c13 : k7 < 13) (j19 : k18 ≤ 7) (jI : ∀ j, j < k18 → tx1.getD (7 * k7 + j) 0 = if j < rplace - rbegin then bt (rbegin + j) else 32) (hm23 : 7 - k18 < n21 + 1) (c24 : k18 < 7) (p29 : narrow .char (.int r28) = .int r28) (p30 : r28 = nI (tx1.getD ((7 * k7) + k18) 0)) (c31 : k18 < (rplace - rbegin)) (e35 : y34 = rtapeF (rbegin + k18)) (t36 : bt (rbegin + k18) < 256) (t37 : y34.toInt = ((bt (rbegin + k18) : Nat) : Int) ∨ (128 ≤ bt (rbegin + k18) ∧ y34.toInt = ((bt (rbegin + k18) : Nat) : Int) - 256)) (c38 : r28 ≠ y34) (c39 : k18 ≠ 7) : ∀ v, v < (k7 + 1) → ¬ mtc tx1 v bt rbegin (rplace - rbegin) := by
  intro v hv hm
  by_cases hvw : v = k7
  · have h8 := hm k18 (by
      have b_r28 := ia_b r28
      have b_y34 := ia_b y34
      try have k_0 := ia_n (tx1.getD ((7 * k7) + k18) 0) (by first | decide | omega)
      try simp only [ia_lt, ia_le, ia_eq, ia_m1, ia_0, ia_1, ne_eq, true_and, and_true, false_and, and_false, or_false, false_or, or_true, true_or, not_true_eq_false, not_false_eq_true] at *
      all_goals omega)
    rw [hvw] at h8
    have h7 := tx_lt1 (7 * k7 + k18)
    have h6 := ia_n (tx1.getD (7 * k7 + k18) 0) (by omega)
    by_cases h5 : k18 < rplace - rbegin
    · rw [if_pos h5] at h8
      have b_r28 := ia_b r28
      have b_y34 := ia_b y34
      try have k_0 := ia_n (tx1.getD ((7 * k7) + k18) 0) (by first | decide | omega)
      try simp only [ia_lt, ia_le, ia_eq, ia_m1, ia_0, ia_1, ne_eq, true_and, and_true, false_and, and_false, or_false, false_or, or_true, true_or, not_true_eq_false, not_false_eq_true] at *
      all_goals omega
    · rw [if_neg h5] at h8
      have b_r28 := ia_b r28
      have b_y34 := ia_b y34
      try have k_0 := ia_n (tx1.getD ((7 * k7) + k18) 0) (by first | decide | omega)
      try simp only [ia_lt, ia_le, ia_eq, ia_m1, ia_0, ia_1, ne_eq, true_and, and_true, false_and, and_false, or_false, false_or, or_true, true_or, not_true_eq_false, not_false_eq_true] at *
      all_goals omega
  · exact jO v (by omega) hm
set_option maxRecDepth 20000 in
theorem lf_f_wordIn1_17 (bt : Nat → Nat) (rlength : Nat) (rplace : Nat) (rbegin : Nat) (rtapeF : Nat → Int32) (k7 : Nat) (n10 : Nat) (k18 : Nat) (n21 : Nat) (r28 : Int32) (y34 : Int32) (iv_rreader_0 : rlength ≤ 940) (iv_rreader_1 : rplace ≤ rlength) (iv_rreader_3 : rbegin ≤ 940) (hTC : TC bt rtapeF) (hbp : rbegin ≤ rplace) (hlen : rplace - rbegin ≤ 7) (hLET : LET bt rbegin (rplace - rbegin)) (j8 : k7 ≤ 13) (jO : ∀ v, v < k7 → ¬ mtc tx1 v bt rbegin (rplace - rbegin)) (hm12 : 13 - k7 < n10 + 1) (c13 : k7 < 13) (j19 : k18 ≤ 7) (jI : ∀ j, j < k18 → tx1.getD (7 * k7 + j) 0 = if j < rplace - rbegin then bt (rbegin + j) else 32) (hm23 : 7 - k18 < n21 + 1) (c24 : k18 < 7) (p29 : narrow .char (.int r28) = .int r28) (p30 : r28 = nI (tx1.getD ((7 * k7) + k18) 0)) (c31 : k18 < (rplace - rbegin)) (e35 : y34 = rtapeF (rbegin + k18)) (t36 : bt (rbegin + k18) < 256) (t37 : y34.toInt = ((bt (rbegin + k18) : Nat) : Int) ∨ (128 ≤ bt (rbegin + k18) ∧ y34.toInt = ((bt (rbegin + k18) : Nat) : Int) - 256)) (c38 : r28 ≠ y34) (c39 : k18 ≠ 7) : 13 - (k7 + 1) < n10 := by
  have b_r28 := ia_b r28
  have b_y34 := ia_b y34
  try have k_0 := ia_n (tx1.getD ((7 * k7) + k18) 0) (by first | decide | omega)
  try simp only [ia_lt, ia_le, ia_eq, ia_m1, ia_0, ia_1, ne_eq, true_and, and_true, false_and, and_false, or_false, false_or, or_true, true_or, not_true_eq_false, not_false_eq_true] at *
  all_goals omega
set_option maxRecDepth 20000 in
theorem lf_f_wordIn1_18 (bt : Nat → Nat) (rlength : Nat) (rplace : Nat) (rbegin : Nat) (rtapeF : Nat → Int32) (k7 : Nat) (n10 : Nat) (k18 : Nat) (n21 : Nat) (r28 : Int32) (y34 : Int32) (iv_rreader_0 : rlength ≤ 940) (iv_rreader_1 : rplace ≤ rlength) (iv_rreader_3 : rbegin ≤ 940) (hTC : TC bt rtapeF) (hbp : rbegin ≤ rplace) (hlen : rplace - rbegin ≤ 7) (hLET : LET bt rbegin (rplace - rbegin)) (j8 : k7 ≤ 13) (jO : ∀ v, v < k7 → ¬ mtc tx1 v bt rbegin (rplace - rbegin)) (hm12 : 13 - k7 < n10 + 1) (c13 : k7 < 13) (j19 : k18 ≤ 7) (jI : ∀ j, j < k18 → tx1.getD (7 * k7 + j) 0 = if j < rplace - rbegin then bt (rbegin + j) else 32) (hm23 : 7 - k18 < n21 + 1) (c24 : k18 < 7) (p29 : narrow .char (.int r28) = .int r28) (p30 : r28 = nI (tx1.getD ((7 * k7) + k18) 0)) (c31 : k18 < (rplace - rbegin)) (e35 : y34 = rtapeF (rbegin + k18)) (t36 : bt (rbegin + k18) < 256) (t37 : y34.toInt = ((bt (rbegin + k18) : Nat) : Int) ∨ (128 ≤ bt (rbegin + k18) ∧ y34.toInt = ((bt (rbegin + k18) : Nat) : Int) - 256)) (c38 : r28 ≠ y34) (c39 : k18 = 7) : (nI (7 + k7)) = nI (if WT1.idxOf (p8 bt rbegin (rplace - rbegin)) < 13 then 7 + WT1.idxOf (p8 bt rbegin (rplace - rbegin)) else 31) := by
  have hk7 : k18 = 7 ∧ k7 < 13 := by
    have b_r28 := ia_b r28
    have b_y34 := ia_b y34
    try have k_0 := ia_n (tx1.getD ((7 * k7) + k18) 0) (by first | decide | omega)
    try have k_1 := ia_n (7 + k7) (by first | decide | omega)
    try have k_2 := ia_n (if WT1.idxOf (p8 bt rbegin (rplace - rbegin)) < 13 then 7 + WT1.idxOf (p8 bt rbegin (rplace - rbegin)) else 31) (by first | decide | omega)
    try simp only [ia_lt, ia_le, ia_eq, ia_m1, ia_0, ia_1, ne_eq, true_and, and_true, false_and, and_false, or_false, false_or, or_true, true_or, not_true_eq_false, not_false_eq_true] at *
    all_goals omega
  have hm : mtc tx1 k7 bt rbegin (rplace - rbegin) := fun j hj => jI j (by omega)
  have h9 : WT1.idxOf (p8 bt rbegin (rplace - rbegin)) = k7 := idx_hit (fun v hv he => jO v hv ((mtc_iff txok1 (show v < 13 by omega) hLET hlen).mpr he)) (show k7 < 13 by omega) ((mtc_iff txok1 (show k7 < 13 by omega) hLET hlen).mp hm)
  rw [h9, if_pos hk7.2]
  try exact congrArg nI (by omega)
set_option maxRecDepth 20000 in
theorem lf_f_wordIn1_19 (bt : Nat → Nat) (rlength : Nat) (rplace : Nat) (rbegin : Nat) (rtapeF : Nat → Int32) (k7 : Nat) (n10 : Nat) (k18 : Nat) (n21 : Nat) (r28 : Int32) (y34 : Int32) (iv_rreader_0 : rlength ≤ 940) (iv_rreader_1 : rplace ≤ rlength) (iv_rreader_3 : rbegin ≤ 940) (hTC : TC bt rtapeF) (hbp : rbegin ≤ rplace) (hlen : rplace - rbegin ≤ 7) (hLET : LET bt rbegin (rplace - rbegin)) (j8 : k7 ≤ 13) (jO : ∀ v, v < k7 → ¬ mtc tx1 v bt rbegin (rplace - rbegin)) (hm12 : 13 - k7 < n10 + 1) (c13 : k7 < 13) (j19 : k18 ≤ 7) (jI : ∀ j, j < k18 → tx1.getD (7 * k7 + j) 0 = if j < rplace - rbegin then bt (rbegin + j) else 32) (hm23 : 7 - k18 < n21 + 1) (c24 : k18 < 7) (p29 : narrow .char (.int r28) = .int r28) (p30 : r28 = nI (tx1.getD ((7 * k7) + k18) 0)) (c31 : k18 < (rplace - rbegin)) (e35 : y34 = rtapeF (rbegin + k18)) (t36 : bt (rbegin + k18) < 256) (t37 : y34.toInt = ((bt (rbegin + k18) : Nat) : Int) ∨ (128 ≤ bt (rbegin + k18) ∧ y34.toInt = ((bt (rbegin + k18) : Nat) : Int) - 256)) (c38 : r28 = y34) : (k18 + 1) ≤ 7 := by
  have b_r28 := ia_b r28
  have b_y34 := ia_b y34
  try have k_0 := ia_n (tx1.getD ((7 * k7) + k18) 0) (by first | decide | omega)
  try simp only [ia_lt, ia_le, ia_eq, ia_m1, ia_0, ia_1, ne_eq, true_and, and_true, false_and, and_false, or_false, false_or, or_true, true_or, not_true_eq_false, not_false_eq_true] at *
  all_goals omega
set_option maxRecDepth 20000 in
theorem lf_f_wordIn1_20 (bt : Nat → Nat) (rlength : Nat) (rplace : Nat) (rbegin : Nat) (rtapeF : Nat → Int32) (k7 : Nat) (n10 : Nat) (k18 : Nat) (n21 : Nat) (r28 : Int32) (y34 : Int32) (iv_rreader_0 : rlength ≤ 940) (iv_rreader_1 : rplace ≤ rlength) (iv_rreader_3 : rbegin ≤ 940) (hTC : TC bt rtapeF) (hbp : rbegin ≤ rplace) (hlen : rplace - rbegin ≤ 7) (hLET : LET bt rbegin (rplace - rbegin)) (j8 : k7 ≤ 13) (jO : ∀ v, v < k7 → ¬ mtc tx1 v bt rbegin (rplace - rbegin)) (hm12 : 13 - k7 < n10 + 1) (c13 : k7 < 13) (j19 : k18 ≤ 7) (jI : ∀ j, j < k18 → tx1.getD (7 * k7 + j) 0 = if j < rplace - rbegin then bt (rbegin + j) else 32) (hm23 : 7 - k18 < n21 + 1) (c24 : k18 < 7) (p29 : narrow .char (.int r28) = .int r28) (p30 : r28 = nI (tx1.getD ((7 * k7) + k18) 0)) (c31 : k18 < (rplace - rbegin)) (e35 : y34 = rtapeF (rbegin + k18)) (t36 : bt (rbegin + k18) < 256) (t37 : y34.toInt = ((bt (rbegin + k18) : Nat) : Int) ∨ (128 ≤ bt (rbegin + k18) ∧ y34.toInt = ((bt (rbegin + k18) : Nat) : Int) - 256)) (c38 : r28 = y34) : ∀ j, j < (k18 + 1) → tx1.getD (7 * k7 + j) 0 = if j < rplace - rbegin then bt (rbegin + j) else 32 := by
  intro j hj
  by_cases hjk : j = k18
  · rw [hjk]
    have h7 := tx_lt1 (7 * k7 + k18)
    have h6 := ia_n (tx1.getD (7 * k7 + k18) 0) (by omega)
    by_cases h5 : k18 < rplace - rbegin
    · rw [if_pos h5]
      have b_r28 := ia_b r28
      have b_y34 := ia_b y34
      try have k_0 := ia_n (tx1.getD ((7 * k7) + k18) 0) (by first | decide | omega)
      try simp only [ia_lt, ia_le, ia_eq, ia_m1, ia_0, ia_1, ne_eq, true_and, and_true, false_and, and_false, or_false, false_or, or_true, true_or, not_true_eq_false, not_false_eq_true] at *
      all_goals omega
    · rw [if_neg h5]
      have b_r28 := ia_b r28
      have b_y34 := ia_b y34
      try have k_0 := ia_n (tx1.getD ((7 * k7) + k18) 0) (by first | decide | omega)
      try simp only [ia_lt, ia_le, ia_eq, ia_m1, ia_0, ia_1, ne_eq, true_and, and_true, false_and, and_false, or_false, false_or, or_true, true_or, not_true_eq_false, not_false_eq_true] at *
      all_goals omega
  · exact jI j (by omega)
set_option maxRecDepth 20000 in
theorem lf_f_wordIn1_21 (bt : Nat → Nat) (rlength : Nat) (rplace : Nat) (rbegin : Nat) (rtapeF : Nat → Int32) (k7 : Nat) (n10 : Nat) (k18 : Nat) (n21 : Nat) (r28 : Int32) (y34 : Int32) (iv_rreader_0 : rlength ≤ 940) (iv_rreader_1 : rplace ≤ rlength) (iv_rreader_3 : rbegin ≤ 940) (hTC : TC bt rtapeF) (hbp : rbegin ≤ rplace) (hlen : rplace - rbegin ≤ 7) (hLET : LET bt rbegin (rplace - rbegin)) (j8 : k7 ≤ 13) (jO : ∀ v, v < k7 → ¬ mtc tx1 v bt rbegin (rplace - rbegin)) (hm12 : 13 - k7 < n10 + 1) (c13 : k7 < 13) (j19 : k18 ≤ 7) (jI : ∀ j, j < k18 → tx1.getD (7 * k7 + j) 0 = if j < rplace - rbegin then bt (rbegin + j) else 32) (hm23 : 7 - k18 < n21 + 1) (c24 : k18 < 7) (p29 : narrow .char (.int r28) = .int r28) (p30 : r28 = nI (tx1.getD ((7 * k7) + k18) 0)) (c31 : k18 < (rplace - rbegin)) (e35 : y34 = rtapeF (rbegin + k18)) (t36 : bt (rbegin + k18) < 256) (t37 : y34.toInt = ((bt (rbegin + k18) : Nat) : Int) ∨ (128 ≤ bt (rbegin + k18) ∧ y34.toInt = ((bt (rbegin + k18) : Nat) : Int) - 256)) (c38 : r28 = y34) : 7 - (k18 + 1) < n21 := by
  have b_r28 := ia_b r28
  have b_y34 := ia_b y34
  try have k_0 := ia_n (tx1.getD ((7 * k7) + k18) 0) (by first | decide | omega)
  try simp only [ia_lt, ia_le, ia_eq, ia_m1, ia_0, ia_1, ne_eq, true_and, and_true, false_and, and_false, or_false, false_or, or_true, true_or, not_true_eq_false, not_false_eq_true] at *
  all_goals omega
set_option maxRecDepth 20000 in
theorem lf_f_wordIn1_22   : 0 ≤ 7 := by
  try simp only [ia_lt, ia_le, ia_eq, ia_m1, ia_0, ia_1, ne_eq, true_and, and_true, false_and, and_false, or_false, false_or, or_true, true_or, not_true_eq_false, not_false_eq_true] at *
  all_goals omega
set_option maxRecDepth 20000 in
theorem lf_f_wordIn1_23 (bt : Nat → Nat) (rlength : Nat) (rplace : Nat) (rbegin : Nat) (rtapeF : Nat → Int32) (k7 : Nat) (n10 : Nat) (iv_rreader_0 : rlength ≤ 940) (iv_rreader_1 : rplace ≤ rlength) (iv_rreader_3 : rbegin ≤ 940) (hTC : TC bt rtapeF) (hbp : rbegin ≤ rplace) (hlen : rplace - rbegin ≤ 7) (hLET : LET bt rbegin (rplace - rbegin)) (j8 : k7 ≤ 13) (jO : ∀ v, v < k7 → ¬ mtc tx1 v bt rbegin (rplace - rbegin)) (hm12 : 13 - k7 < n10 + 1) (c13 : k7 < 13) : ∀ j, j < 0 → tx1.getD (7 * k7 + j) 0 = if j < rplace - rbegin then bt (rbegin + j) else 32 := by
  intro j hj; exact absurd hj (Nat.not_lt_zero j)
set_option maxRecDepth 20000 in
theorem lf_f_wordIn1_24   : 0 ≤ 13 := by
  try simp only [ia_lt, ia_le, ia_eq, ia_m1, ia_0, ia_1, ne_eq, true_and, and_true, false_and, and_false, or_false, false_or, or_true, true_or, not_true_eq_false, not_false_eq_true] at *
  all_goals omega
set_option maxRecDepth 20000 in
theorem lf_f_wordIn1_25 (bt : Nat → Nat) (rlength : Nat) (rplace : Nat) (rbegin : Nat) (rtapeF : Nat → Int32) (iv_rreader_0 : rlength ≤ 940) (iv_rreader_1 : rplace ≤ rlength) (iv_rreader_3 : rbegin ≤ 940) (hTC : TC bt rtapeF) (hbp : rbegin ≤ rplace) (hlen : rplace - rbegin ≤ 7) (hLET : LET bt rbegin (rplace - rbegin)) : ∀ v, v < 0 → ¬ mtc tx1 v bt rbegin (rplace - rbegin) := by
  intro v hv; exact absurd hv (Nat.not_lt_zero v)
set_option maxHeartbeats 4000000 in
set_option maxRecDepth 100000 in
theorem c_f_wordIn1 (l : Launch) (dC : Nat → ClassId) (dI : Nat → Nat → Nat) (ky : Nat → ClassId) (sz : Nat) (adK : Nat → Nat) (adV : Nat → Nat) (bt : Nat → Nat) (reader : Nat) (rtape : Nat) (rlength : Nat) (rmostBytes : Nat) (rplace : Nat) (rkind : Int32) (rbegin : Nat) (rword : Int32) (rnumber : Int32) (rletters : Int64) (rfaultKind : Int32) (rfaultPlace : Int32) (rtapeF : Nat → Int32) (iv_rreader_0 : rlength ≤ 940) (iv_rreader_1 : rplace ≤ rlength) (iv_rreader_2 : rmostBytes ≤ 900) (iv_rreader_3 : rbegin ≤ 940) (hTC : TC bt rtapeF) (hbp : rbegin ≤ rplace) (hlen : rplace - rbegin ≤ 7) (hLET : LET bt rbegin (rplace - rbegin)) : Met l yX5_wordIn wsX5_wordIn ({ frames := 4, cells := 0, slots := 0, locals := 85 }) (PcUE dC dI ky adK adV [.ref reader, .ref (adK 1), .int (nI 7)] [(reader, .inr (5, [.ref rtape, .int (nI rlength), .int (nI rmostBytes), .int (nI rplace), .int rkind, .int (nI rbegin), .int rword, .int rnumber, .long rletters, .int rfaultKind, .int rfaultPlace])), (rtape, .inl (ky 2, 940, .inl rtapeF))] sz) (va_Qi (fun (r : Int32) (_ : Unit) => r = nI (if WT1.idxOf (p8 bt rbegin (rplace - rbegin)) < 13 then 7 + WT1.idxOf (p8 bt rbegin (rplace - rbegin)) else 31)) (BU dC dI ky (fun (_ : Unit) => [(reader, .inr (5, [.ref rtape, .int (nI rlength), .int (nI rmostBytes), .int (nI rplace), .int rkind, .int (nI rbegin), .int rword, .int rnumber, .long rletters, .int rfaultKind, .int rfaultPlace])), (rtape, .inl (ky 2, 940, .inl rtapeF))]) (va_A [(reader, .inr (5, [.ref rtape, .int (nI rlength), .int (nI rmostBytes), .int (nI rplace), .int rkind, .int (nI rbegin), .int rword, .int rnumber, .long rletters, .int rfaultKind, .int rfaultPlace])), (rtape, .inl (ky 2, 940, .inl rtapeF))] sz)) (va_A [(reader, .inr (5, [.ref rtape, .int (nI rlength), .int (nI rmostBytes), .int (nI rplace), .int rkind, .int (nI rbegin), .int rword, .int rnumber, .long rletters, .int rfaultKind, .int rfaultPlace])), (rtape, .inl (ky 2, 940, .inl rtapeF))] sz)) 0 0 (va_A [(reader, .inr (5, [.ref rtape, .int (nI rlength), .int (nI rmostBytes), .int (nI rplace), .int rkind, .int (nI rbegin), .int rword, .int rnumber, .long rletters, .int rfaultKind, .int rfaultPlace])), (rtape, .inl (ky 2, 940, .inl rtapeF))] sz) := by
  refine Met.ofW (cc := cX5_wordIn) (maxL := 7) (ret := (some .int)) (by decide) rfl ?_
  intro p e s m args below meth c s₁ B hml hv
  obtain ⟨rfl, hsz, hP, hK, hD0, hE⟩ := hv
  have hx := B.exec
  have hb := B.bytes
  have hr := B.returns
  have hts := atoms_spec (ws := wsX5_wordIn) B.pre
  have hown : s.vm.findClass RX5 = some m.cls := findClass_of_methodNamed B.named
  have hlocks := B.notSynchronized
  have hin5 : ∀ w ∈ u_ws RX5 TX5 11, w ∈ wsX5_wordIn := by decide +kernel
  subst hsz
  have hD := hD0.self (sz := s.heap.size)
  generalize hAe : va_A [(reader, .inr (5, [.ref rtape, .int (nI rlength), .int (nI rmostBytes), .int (nI rplace), .int rkind, .int (nI rbegin), .int rword, .int rnumber, .long rletters, .int rfaultKind, .int rfaultPlace])), (rtape, .inl (ky 2, 940, .inl rtapeF))] s.heap.size = A at hD hE ⊢
  have hA : ∀ q : Nat, s.heap.size ≤ q → A q := fun q h => by rw [← hAe]; exact Or.inr h
  have hS : va_S A s.heap s.heap [] := va_S.rf
  have hl := lv_entry ([.ref reader, .ref (adK 1), .int (nI 7)]) (n := 7) (Nat.le_of_ble_eq_true rfl)
  rw [lg_entry_eq]
  generalize (lg_sl ([.ref reader, .ref (adK 1), .int (nI 7)]) ++ List.replicate (7 - (lg_sl ([.ref reader, .ref (adK 1), .int (nI 7)])).length) Slot.unset).toArray = ls at hl ⊢
  have hl : lv_has ls 7 [(0, .ref reader), (1, .ref (adK 1)), (2, .int (nI 7))] := hl
  refine q_name (fun Q hQ => ?_)
  generalize ([.ref reader, .ref (adK 1), .int (nI 7)] : List Value).toArray = args at hts hQ ⊢
  refine lv_aload_n hx hb dX5_wordIn_0 rfl (lv_at hl 1 rfl) ?_
  refine vp_callSi (W.runV (As := []) (rest := []) ⟨hx, hb, hml, hown, hts⟩ (c_j_length1 l dC dI ky adK adV) (cwV 0 hts gX5_wordIn_J0_length_8abf5 rfl rfl rfl (by decide +kernel) ⟨(Nat.le_of_ble_eq_true rfl), (Nat.le_of_ble_eq_true rfl)⟩) (pre_PEV hE hS hK hP [] rfl (vk_recv hE.1 (i := 1) (by decide) hS)) rfl rfl hl.1 rfl (lv_room (Nat.le_of_ble_eq_true rfl)) dX5_wordIn_1 ⟨(Nat.le_of_ble_eq_true rfl), (Nat.le_of_ble_eq_true rfl)⟩) (fun r1 p2 => ?_)
  subst p2
  refine lv_bipush (v := nI 7) hx hb dX5_wordIn_4 (by decide) ?_
  refine lv_idiv hx hb dX5_wordIn_6 (by decide) ?_
  refine r_ti (nI 13) (by decide) ?_
  refine lv_istore_n (lv' := [(3, .int (nI 13)), (0, .ref reader), (1, .ref (adK 1)), (2, .int (nI 7))]) hx hb dX5_wordIn_7 rfl hl (by decide) rfl (fun ls hl => ?_)
  refine lv_aload_n hx hb dX5_wordIn_8 rfl (lv_at hl 1 rfl) ?_
  refine va_get (D := (dC, dI)) (ci := 5) (v := .int (nI rplace)) (C := RX5) (T := TX5) (N := 11) hx hb hts hin5 hown hK hP 0 rfl rfl 3 (by decide) (hts (.fieldLink RX5 28 "PorridgeSea$Reader" "place" "I") (List.mem_of_getElem? (i := 1) rfl)) (fun _ h9 => h9) rfl dX5_wordIn_9 ?_
  refine lv_aload_n hx hb dX5_wordIn_12 rfl (lv_at hl 1 rfl) ?_
  refine va_get (D := (dC, dI)) (ci := 5) (v := .int (nI rbegin)) (C := RX5) (T := TX5) (N := 11) hx hb hts hin5 hown hK hP 0 rfl rfl 5 (by decide) (hts (.fieldLink RX5 40 "PorridgeSea$Reader" "begin" "I") (List.mem_of_getElem? (i := 2) rfl)) (fun _ h9 => h9) rfl dX5_wordIn_13 ?_
  refine lv_isub hx hb dX5_wordIn_16 ?_
  refine r_ti (nI (rplace - rbegin)) (pk_sub (lf_f_wordIn1_1 bt rlength rplace rbegin rtapeF iv_rreader_0 iv_rreader_1 iv_rreader_3 hTC hbp hlen hLET)) ?_
  refine lv_istore (lv' := [(4, .int (nI (rplace - rbegin))), (3, .int (nI 13)), (0, .ref reader), (1, .ref (adK 1)), (2, .int (nI 7))]) hx hb dX5_wordIn_17 hl (by decide) rfl (fun ls hl => ?_)
  refine lv_iconst (v := nI 0) hx hb dX5_wordIn_19 (by decide) ?_
  refine lv_istore (lv' := [(5, .int (nI 0)), (4, .int (nI (rplace - rbegin))), (3, .int (nI 13)), (0, .ref reader), (1, .ref (adK 1)), (2, .int (nI 7))]) hx hb dX5_wordIn_20 hl (by decide) rfl (fun ls hl => ?_)
  have hL9 : ∀ (n10 : Nat) (k7 : Nat), (k7 ≤ 13) → (∀ v, v < k7 → ¬ mtc tx1 v bt rbegin (rplace - rbegin)) → 13 - k7 < n10 → ∀ (H : Heap) (locs : List Loc) (ls : Array Slot), va_P (dC, dI) vwCl [(reader, .inr (5, [.ref rtape, .int (nI rlength), .int (nI rmostBytes), .int (nI rplace), .int rkind, .int (nI rbegin), .int rword, .int rnumber, .long rletters, .int rfaultKind, .int rfaultPlace])), (rtape, .inl (ky 2, 940, .inl rtapeF))] H → va_D A [(reader, .inr (5, [.ref rtape, .int (nI rlength), .int (nI rmostBytes), .int (nI rplace), .int rkind, .int (nI rbegin), .int rword, .int rnumber, .long rletters, .int rfaultKind, .int rfaultPlace])), (rtape, .inl (ky 2, 940, .inl rtapeF))] → va_S A s.heap H locs → lv_has ls 7 [(5, .int (nI k7)), (4, .int (nI (rplace - rbegin))), (3, .int (nI 13)), (0, .ref reader), (1, .ref (adK 1)), (2, .int (nI 7))] → W p l e (headSpec wsX5_wordIn ({ frames := 4, cells := 0, slots := 0, locals := 85 })).room s m args below meth c H locs 0 0 Q (F0 m 22 ls []) := by
    intro n10
    induction n10 with
    | zero => intro k7 _ _ h9; exact absurd h9 (Nat.not_lt_zero _)
    | succ n10 ih11 =>
      intro k7 j8 jO hm12 H locs ls hP hD hS hl
      refine lv_iload hx hb dX5_wordIn_22 (lv_at hl 0 rfl) ?_
      refine lv_iload_n hx hb dX5_wordIn_24 rfl (lv_at hl 2 rfl) ?_
      refine n_icmp_ge (x := k7) (y := 13) (tgt := 101) hx hb (by omega) (by omega) dX5_wordIn_25 (by decide) (fun c13 => ?_) (fun c13 => ?_)
      · refine lv_bipush (v := nI 31) hx hb dX5_wordIn_101 (by decide) ?_
        rw [hQ]
        exact W.iret (v := nI 31) hx hb hr (fun t9 ht9 hW9 => ⟨⟨nI 31, (), rfl, (lf_f_wordIn1_2 bt rlength rplace rbegin rtapeF k7 n10 iv_rreader_0 iv_rreader_1 iv_rreader_3 hTC hbp hlen hLET j8 jO hm12 c13), by rw [ht9]; exact hP, va_K.moved hW9.alike hK, hD⟩, hS.F ht9⟩) hS.2.2 dX5_wordIn_103
      · refine lv_iconst (v := nI 0) hx hb dX5_wordIn_28 (by decide) ?_
        refine lv_istore (lv' := [(6, .int (nI 0)), (5, .int (nI k7)), (4, .int (nI (rplace - rbegin))), (3, .int (nI 13)), (0, .ref reader), (1, .ref (adK 1)), (2, .int (nI 7))]) hx hb dX5_wordIn_29 hl (by decide) rfl (fun ls hl => ?_)
        have hL20 : ∀ (n21 : Nat) (k18 : Nat), (k18 ≤ 7) → (∀ j, j < k18 → tx1.getD (7 * k7 + j) 0 = if j < rplace - rbegin then bt (rbegin + j) else 32) → 7 - k18 < n21 → ∀ (H : Heap) (locs : List Loc) (ls : Array Slot), va_P (dC, dI) vwCl [(reader, .inr (5, [.ref rtape, .int (nI rlength), .int (nI rmostBytes), .int (nI rplace), .int rkind, .int (nI rbegin), .int rword, .int rnumber, .long rletters, .int rfaultKind, .int rfaultPlace])), (rtape, .inl (ky 2, 940, .inl rtapeF))] H → va_D A [(reader, .inr (5, [.ref rtape, .int (nI rlength), .int (nI rmostBytes), .int (nI rplace), .int rkind, .int (nI rbegin), .int rword, .int rnumber, .long rletters, .int rfaultKind, .int rfaultPlace])), (rtape, .inl (ky 2, 940, .inl rtapeF))] → va_S A s.heap H locs → lv_has ls 7 [(6, .int (nI k18)), (5, .int (nI k7)), (4, .int (nI (rplace - rbegin))), (3, .int (nI 13)), (0, .ref reader), (1, .ref (adK 1)), (2, .int (nI 7))] → W p l e (headSpec wsX5_wordIn ({ frames := 4, cells := 0, slots := 0, locals := 85 })).room s m args below meth c H locs 0 0 Q (F0 m 31 ls []) := by
          intro n21
          induction n21 with
          | zero => intro k18 _ _ h9; exact absurd h9 (Nat.not_lt_zero _)
          | succ n21 ih22 =>
            intro k18 j19 jI hm23 H locs ls hP hD hS hl
            refine lv_iload hx hb dX5_wordIn_31 (lv_at hl 0 rfl) ?_
            refine lv_bipush (v := nI 7) hx hb dX5_wordIn_33 (by decide) ?_
            refine n_icmp_ge (x := k18) (y := 7) (tgt := 83) hx hb (by omega) (by omega) dX5_wordIn_35 (by decide) (fun c24 => ?_) (fun c24 => ?_)
            · refine lv_iload hx hb dX5_wordIn_83 (lv_at hl 0 rfl) ?_
              refine lv_bipush (v := nI 7) hx hb dX5_wordIn_85 (by decide) ?_
              refine n_icmp_ne (x := k18) (y := 7) (tgt := 95) hx hb (by omega) (by omega) dX5_wordIn_87 (by decide) (fun c25 => ?_) (fun c25 => ?_)
              · refine lv_iinc (v := nI (k7 + 1)) (lv' := [(5, .int (nI (k7 + 1))), (6, .int (nI k18)), (4, .int (nI (rplace - rbegin))), (3, .int (nI 13)), (0, .ref reader), (1, .ref (adK 1)), (2, .int (nI 7))]) hx hb dX5_wordIn_95 hl (k := 1) rfl (show nI k7 + nI 1 = nI (k7 + 1) from nI_add _ _) (by decide) rfl (fun ls hl => ?_)
                refine lv_goto (tgt := 22) hx hb dX5_wordIn_98 (by decide) ?_
                exact ih11 (k7 + 1) (lf_f_wordIn1_3 bt rlength rplace rbegin rtapeF k7 n10 k18 n21 iv_rreader_0 iv_rreader_1 iv_rreader_3 hTC hbp hlen hLET j8 jO hm12 c13 j19 jI hm23 c24 c25) (lf_f_wordIn1_4 bt rlength rplace rbegin rtapeF k7 n10 k18 n21 iv_rreader_0 iv_rreader_1 iv_rreader_3 hTC hbp hlen hLET j8 jO hm12 c13 j19 jI hm23 c24 c25) (lf_f_wordIn1_5 bt rlength rplace rbegin rtapeF k7 n10 k18 n21 iv_rreader_0 iv_rreader_1 iv_rreader_3 hTC hbp hlen hLET j8 jO hm12 c13 j19 jI hm23 c24 c25) _ _ _ hP hD hS (lv_sub hl [0, 2, 3, 4, 5, 6] rfl)
              · refine lv_iload_n hx hb dX5_wordIn_90 rfl (lv_at hl 6 rfl) ?_
                refine lv_iload hx hb dX5_wordIn_91 (lv_at hl 1 rfl) ?_
                refine lv_iadd hx hb dX5_wordIn_93 ?_
                refine r_ti (nI (7 + k7)) (nI_add _ _) ?_
                rw [hQ]
                exact W.iret (v := nI (7 + k7)) hx hb hr (fun t9 ht9 hW9 => ⟨⟨nI (7 + k7), (), rfl, (lf_f_wordIn1_6 bt rlength rplace rbegin rtapeF k7 n10 k18 n21 iv_rreader_0 iv_rreader_1 iv_rreader_3 hTC hbp hlen hLET j8 jO hm12 c13 j19 jI hm23 c24 c25), by rw [ht9]; exact hP, va_K.moved hW9.alike hK, hD⟩, hS.F ht9⟩) hS.2.2 dX5_wordIn_94
            · refine lv_aload_n hx hb dX5_wordIn_38 rfl (lv_at hl 5 rfl) ?_
              refine lv_bipush (v := nI 7) hx hb dX5_wordIn_39 (by decide) ?_
              refine lv_iload hx hb dX5_wordIn_41 (lv_at hl 1 rfl) ?_
              refine lv_imul hx hb dX5_wordIn_43 ?_
              refine r_ti (nI (7 * k7)) (pk_mul _ _) ?_
              refine lv_iload hx hb dX5_wordIn_44 (lv_at hl 0 rfl) ?_
              refine lv_iadd hx hb dX5_wordIn_46 ?_
              refine r_ti (nI ((7 * k7) + k18)) (nI_add _ _) ?_
              refine r_call_i (wr := [(reader, .inr (5, [.ref rtape, .int (nI rlength), .int (nI rmostBytes), .int (nI rplace), .int rkind, .int (nI rbegin), .int rword, .int rnumber, .long rletters, .int rfaultKind, .int rfaultPlace])), (rtape, .inl (ky 2, 940, .inl rtapeF))]) (va_runV (As := [.int (nI ((7 * k7) + k18))]) (rest := []) ⟨hx, hb, hml, hown, hts⟩ (c_f_ch1 l dC dI ky H.size adK adV ((7 * k7) + k18) (lf_f_wordIn1_7 bt rlength rplace rbegin rtapeF k7 n10 k18 n21 iv_rreader_0 iv_rreader_1 iv_rreader_3 hTC hbp hlen hLET j8 jO hm12 c13 j19 jI hm23 c24)) (cwV 1 hts gX5_wordIn_J0_charAt_5068e rfl rfl rfl (by decide +kernel) ⟨(Nat.le_of_ble_eq_true rfl), (Nat.le_of_ble_eq_true rfl)⟩) (pre_UEV hE hS hA hK hP hD [] (by decide) rfl (vk_recv hE.1 (i := 1) (by decide) hS)) rfl rfl hl.1 rfl (lv_room (Nat.le_of_ble_eq_true rfl)) dX5_wordIn_47 ⟨(Nat.le_of_ble_eq_true rfl), (Nat.le_of_ble_eq_true rfl)⟩) hP hD hS hA [] [0, 1] rfl rfl (by decide) (by decide) (fun r28 u26 H locs p27 hP hD hS => ?_)
              try dsimp only at p27
              obtain ⟨p29, p30⟩ := p27
              refine W.widen (k := 0) (n := 0) (Nat.le_of_ble_eq_true rfl) (Nat.le_of_ble_eq_true rfl) ?_
              have hP : va_P (dC, dI) vwCl [(reader, .inr (5, [.ref rtape, .int (nI rlength), .int (nI rmostBytes), .int (nI rplace), .int rkind, .int (nI rbegin), .int rword, .int rnumber, .long rletters, .int rfaultKind, .int rfaultPlace])), (rtape, .inl (ky 2, 940, .inl rtapeF))] H := hP
              have hD : va_D A [(reader, .inr (5, [.ref rtape, .int (nI rlength), .int (nI rmostBytes), .int (nI rplace), .int rkind, .int (nI rbegin), .int rword, .int rnumber, .long rletters, .int rfaultKind, .int rfaultPlace])), (rtape, .inl (ky 2, 940, .inl rtapeF))] := hD
              refine lv_iload hx hb dX5_wordIn_50 (lv_at hl 0 rfl) ?_
              refine lv_iload hx hb dX5_wordIn_52 (lv_at hl 2 rfl) ?_
              refine n_icmp_ge (x := k18) (y := (rplace - rbegin)) (tgt := 72) hx hb (by omega) (by omega) dX5_wordIn_54 (by decide) (fun c31 => ?_) (fun c31 => ?_)
              · refine lv_bipush (v := nI 32) hx hb dX5_wordIn_72 (by decide) ?_
                refine lv_icmp_ne (tgt := 83) hx hb dX5_wordIn_74 (by decide) (fun c32 => ?_) (fun c32 => ?_)
                · refine lv_iload hx hb dX5_wordIn_83 (lv_at hl 0 rfl) ?_
                  refine lv_bipush (v := nI 7) hx hb dX5_wordIn_85 (by decide) ?_
                  refine n_icmp_ne (x := k18) (y := 7) (tgt := 95) hx hb (by omega) (by omega) dX5_wordIn_87 (by decide) (fun c33 => ?_) (fun c33 => ?_)
                  · refine lv_iinc (v := nI (k7 + 1)) (lv' := [(5, .int (nI (k7 + 1))), (6, .int (nI k18)), (4, .int (nI (rplace - rbegin))), (3, .int (nI 13)), (0, .ref reader), (1, .ref (adK 1)), (2, .int (nI 7))]) hx hb dX5_wordIn_95 hl (k := 1) rfl (show nI k7 + nI 1 = nI (k7 + 1) from nI_add _ _) (by decide) rfl (fun ls hl => ?_)
                    refine lv_goto (tgt := 22) hx hb dX5_wordIn_98 (by decide) ?_
                    exact ih11 (k7 + 1) (lf_f_wordIn1_8 bt rlength rplace rbegin rtapeF k7 n10 k18 n21 r28 iv_rreader_0 iv_rreader_1 iv_rreader_3 hTC hbp hlen hLET j8 jO hm12 c13 j19 jI hm23 c24 p29 p30 c31 c32 c33) (lf_f_wordIn1_9 bt rlength rplace rbegin rtapeF k7 n10 k18 n21 r28 iv_rreader_0 iv_rreader_1 iv_rreader_3 hTC hbp hlen hLET j8 jO hm12 c13 j19 jI hm23 c24 p29 p30 c31 c32 c33) (lf_f_wordIn1_10 bt rlength rplace rbegin rtapeF k7 n10 k18 n21 r28 iv_rreader_0 iv_rreader_1 iv_rreader_3 hTC hbp hlen hLET j8 jO hm12 c13 j19 jI hm23 c24 p29 p30 c31 c32 c33) _ _ _ hP hD hS (lv_sub hl [0, 2, 3, 4, 5, 6] rfl)
                  · refine lv_iload_n hx hb dX5_wordIn_90 rfl (lv_at hl 6 rfl) ?_
                    refine lv_iload hx hb dX5_wordIn_91 (lv_at hl 1 rfl) ?_
                    refine lv_iadd hx hb dX5_wordIn_93 ?_
                    refine r_ti (nI (7 + k7)) (nI_add _ _) ?_
                    rw [hQ]
                    exact W.iret (v := nI (7 + k7)) hx hb hr (fun t9 ht9 hW9 => ⟨⟨nI (7 + k7), (), rfl, (lf_f_wordIn1_11 bt rlength rplace rbegin rtapeF k7 n10 k18 n21 r28 iv_rreader_0 iv_rreader_1 iv_rreader_3 hTC hbp hlen hLET j8 jO hm12 c13 j19 jI hm23 c24 p29 p30 c31 c32 c33), by rw [ht9]; exact hP, va_K.moved hW9.alike hK, hD⟩, hS.F ht9⟩) hS.2.2 dX5_wordIn_94
                · refine lv_iinc (v := nI (k18 + 1)) (lv' := [(6, .int (nI (k18 + 1))), (5, .int (nI k7)), (4, .int (nI (rplace - rbegin))), (3, .int (nI 13)), (0, .ref reader), (1, .ref (adK 1)), (2, .int (nI 7))]) hx hb dX5_wordIn_77 hl (k := 0) rfl (show nI k18 + nI 1 = nI (k18 + 1) from nI_add _ _) (by decide) rfl (fun ls hl => ?_)
                  refine lv_goto (tgt := 31) hx hb dX5_wordIn_80 (by decide) ?_
                  exact ih22 (k18 + 1) (lf_f_wordIn1_12 bt rlength rplace rbegin rtapeF k7 n10 k18 n21 r28 iv_rreader_0 iv_rreader_1 iv_rreader_3 hTC hbp hlen hLET j8 jO hm12 c13 j19 jI hm23 c24 p29 p30 c31 c32) (lf_f_wordIn1_13 bt rlength rplace rbegin rtapeF k7 n10 k18 n21 r28 iv_rreader_0 iv_rreader_1 iv_rreader_3 hTC hbp hlen hLET j8 jO hm12 c13 j19 jI hm23 c24 p29 p30 c31 c32) (lf_f_wordIn1_14 bt rlength rplace rbegin rtapeF k7 n10 k18 n21 r28 iv_rreader_0 iv_rreader_1 iv_rreader_3 hTC hbp hlen hLET j8 jO hm12 c13 j19 jI hm23 c24 p29 p30 c31 c32) _ _ _ hP hD hS (lv_sub hl [0, 1, 2, 3, 4, 5, 6] rfl)
              · refine lv_aload_n hx hb dX5_wordIn_57 rfl (lv_at hl 4 rfl) ?_
                refine va_get (D := (dC, dI)) (ci := 5) (v := .ref rtape) (C := RX5) (T := TX5) (N := 11) hx hb hts hin5 hown hK hP 0 rfl rfl 0 (by decide) (hts (.fieldLink RX5 9 "PorridgeSea$Reader" "tape" "[B") (List.mem_of_getElem? (i := 3) rfl)) (fun _ h9 => h9) rfl dX5_wordIn_58 ?_
                refine lv_aload_n hx hb dX5_wordIn_61 rfl (lv_at hl 4 rfl) ?_
                refine va_get (D := (dC, dI)) (ci := 5) (v := .int (nI rbegin)) (C := RX5) (T := TX5) (N := 11) hx hb hts hin5 hown hK hP 0 rfl rfl 5 (by decide) (hts (.fieldLink RX5 40 "PorridgeSea$Reader" "begin" "I") (List.mem_of_getElem? (i := 2) rfl)) (fun _ h9 => h9) rfl dX5_wordIn_62 ?_
                refine lv_iload hx hb dX5_wordIn_65 (lv_at hl 0 rfl) ?_
                refine lv_iadd hx hb dX5_wordIn_67 ?_
                refine r_ti (nI (rbegin + k18)) (nI_add _ _) ?_
                obtain ⟨y34, e35⟩ : ∃ z9, z9 = rtapeF (rbegin + k18) := ⟨_, rfl⟩
                refine r_bald hx hb hK hP 1 rfl (rbegin + k18) (by omega) (by decide) y34 e35.symm dX5_wordIn_68 ?_
                obtain ⟨t36, t37⟩ : bt (rbegin + k18) < 256 ∧ (y34.toInt = ((bt (rbegin + k18) : Nat) : Int) ∨ (128 ≤ bt (rbegin + k18) ∧ y34.toInt = ((bt (rbegin + k18) : Nat) : Int) - 256)) := by rw [e35]; exact hTC (rbegin + k18) (by omega)
                refine lv_goto (tgt := 74) hx hb dX5_wordIn_69 (by decide) ?_
                refine lv_icmp_ne (tgt := 83) hx hb dX5_wordIn_74 (by decide) (fun c38 => ?_) (fun c38 => ?_)
                · refine lv_iload hx hb dX5_wordIn_83 (lv_at hl 0 rfl) ?_
                  refine lv_bipush (v := nI 7) hx hb dX5_wordIn_85 (by decide) ?_
                  refine n_icmp_ne (x := k18) (y := 7) (tgt := 95) hx hb (by omega) (by omega) dX5_wordIn_87 (by decide) (fun c39 => ?_) (fun c39 => ?_)
                  · refine lv_iinc (v := nI (k7 + 1)) (lv' := [(5, .int (nI (k7 + 1))), (6, .int (nI k18)), (4, .int (nI (rplace - rbegin))), (3, .int (nI 13)), (0, .ref reader), (1, .ref (adK 1)), (2, .int (nI 7))]) hx hb dX5_wordIn_95 hl (k := 1) rfl (show nI k7 + nI 1 = nI (k7 + 1) from nI_add _ _) (by decide) rfl (fun ls hl => ?_)
                    refine lv_goto (tgt := 22) hx hb dX5_wordIn_98 (by decide) ?_
                    exact ih11 (k7 + 1) (lf_f_wordIn1_15 bt rlength rplace rbegin rtapeF k7 n10 k18 n21 r28 y34 iv_rreader_0 iv_rreader_1 iv_rreader_3 hTC hbp hlen hLET j8 jO hm12 c13 j19 jI hm23 c24 p29 p30 c31 e35 t36 t37 c38 c39) (lf_f_wordIn1_16 bt rlength rplace rbegin rtapeF k7 n10 k18 n21 r28 y34 iv_rreader_0 iv_rreader_1 iv_rreader_3 hTC hbp hlen hLET j8 jO hm12 c13 j19 jI hm23 c24 p29 p30 c31 e35 t36 t37 c38 c39) (lf_f_wordIn1_17 bt rlength rplace rbegin rtapeF k7 n10 k18 n21 r28 y34 iv_rreader_0 iv_rreader_1 iv_rreader_3 hTC hbp hlen hLET j8 jO hm12 c13 j19 jI hm23 c24 p29 p30 c31 e35 t36 t37 c38 c39) _ _ _ hP hD hS (lv_sub hl [0, 2, 3, 4, 5, 6] rfl)
                  · refine lv_iload_n hx hb dX5_wordIn_90 rfl (lv_at hl 6 rfl) ?_
                    refine lv_iload hx hb dX5_wordIn_91 (lv_at hl 1 rfl) ?_
                    refine lv_iadd hx hb dX5_wordIn_93 ?_
                    refine r_ti (nI (7 + k7)) (nI_add _ _) ?_
                    rw [hQ]
                    exact W.iret (v := nI (7 + k7)) hx hb hr (fun t9 ht9 hW9 => ⟨⟨nI (7 + k7), (), rfl, (lf_f_wordIn1_18 bt rlength rplace rbegin rtapeF k7 n10 k18 n21 r28 y34 iv_rreader_0 iv_rreader_1 iv_rreader_3 hTC hbp hlen hLET j8 jO hm12 c13 j19 jI hm23 c24 p29 p30 c31 e35 t36 t37 c38 c39), by rw [ht9]; exact hP, va_K.moved hW9.alike hK, hD⟩, hS.F ht9⟩) hS.2.2 dX5_wordIn_94
                · refine lv_iinc (v := nI (k18 + 1)) (lv' := [(6, .int (nI (k18 + 1))), (5, .int (nI k7)), (4, .int (nI (rplace - rbegin))), (3, .int (nI 13)), (0, .ref reader), (1, .ref (adK 1)), (2, .int (nI 7))]) hx hb dX5_wordIn_77 hl (k := 0) rfl (show nI k18 + nI 1 = nI (k18 + 1) from nI_add _ _) (by decide) rfl (fun ls hl => ?_)
                  refine lv_goto (tgt := 31) hx hb dX5_wordIn_80 (by decide) ?_
                  exact ih22 (k18 + 1) (lf_f_wordIn1_19 bt rlength rplace rbegin rtapeF k7 n10 k18 n21 r28 y34 iv_rreader_0 iv_rreader_1 iv_rreader_3 hTC hbp hlen hLET j8 jO hm12 c13 j19 jI hm23 c24 p29 p30 c31 e35 t36 t37 c38) (lf_f_wordIn1_20 bt rlength rplace rbegin rtapeF k7 n10 k18 n21 r28 y34 iv_rreader_0 iv_rreader_1 iv_rreader_3 hTC hbp hlen hLET j8 jO hm12 c13 j19 jI hm23 c24 p29 p30 c31 e35 t36 t37 c38) (lf_f_wordIn1_21 bt rlength rplace rbegin rtapeF k7 n10 k18 n21 r28 y34 iv_rreader_0 iv_rreader_1 iv_rreader_3 hTC hbp hlen hLET j8 jO hm12 c13 j19 jI hm23 c24 p29 p30 c31 e35 t36 t37 c38) _ _ _ hP hD hS (lv_sub hl [0, 1, 2, 3, 4, 5, 6] rfl)
        exact hL20 ((7 - 0) + 1) 0 (lf_f_wordIn1_22) (lf_f_wordIn1_23 bt rlength rplace rbegin rtapeF k7 n10 iv_rreader_0 iv_rreader_1 iv_rreader_3 hTC hbp hlen hLET j8 jO hm12 c13) (Nat.lt_succ_self _) _ _ _ hP hD hS (lv_sub hl [0, 1, 2, 3, 4, 5, 6] rfl)
  exact hL9 ((13 - 0) + 1) 0 (lf_f_wordIn1_24) (lf_f_wordIn1_25 bt rlength rplace rbegin rtapeF iv_rreader_0 iv_rreader_1 iv_rreader_3 hTC hbp hlen hLET) (Nat.lt_succ_self _) _ _ _ hP hD hS (lv_sub hl [0, 1, 2, 3, 4, 5] rfl)
set_option maxRecDepth 20000 in
theorem lf_f_wordIn2_1 (bt : Nat → Nat) (rlength : Nat) (rplace : Nat) (rbegin : Nat) (rtapeF : Nat → Int32) (iv_rreader_0 : rlength ≤ 940) (iv_rreader_1 : rplace ≤ rlength) (iv_rreader_3 : rbegin ≤ 940) (hTC : TC bt rtapeF) (hbp : rbegin ≤ rplace) (hlen : rplace - rbegin ≤ 7) (hLET : LET bt rbegin (rplace - rbegin)) : rbegin ≤ rplace := by
  try simp only [ia_lt, ia_le, ia_eq, ia_m1, ia_0, ia_1, ne_eq, true_and, and_true, false_and, and_false, or_false, false_or, or_true, true_or, not_true_eq_false, not_false_eq_true] at *
  all_goals omega
set_option maxRecDepth 20000 in
theorem lf_f_wordIn2_2 (bt : Nat → Nat) (rlength : Nat) (rplace : Nat) (rbegin : Nat) (rtapeF : Nat → Int32) (k7 : Nat) (n10 : Nat) (iv_rreader_0 : rlength ≤ 940) (iv_rreader_1 : rplace ≤ rlength) (iv_rreader_3 : rbegin ≤ 940) (hTC : TC bt rtapeF) (hbp : rbegin ≤ rplace) (hlen : rplace - rbegin ≤ 7) (hLET : LET bt rbegin (rplace - rbegin)) (j8 : k7 ≤ 11) (jO : ∀ v, v < k7 → ¬ mtc tx2 v bt rbegin (rplace - rbegin)) (hm12 : 11 - k7 < n10 + 1) (c13 : 11 ≤ k7) : (nI 31) = nI (if WT2.idxOf (p8 bt rbegin (rplace - rbegin)) < 11 then 20 + WT2.idxOf (p8 bt rbegin (rplace - rbegin)) else 31) := by
  have h9 : WT2.idxOf (p8 bt rbegin (rplace - rbegin)) = 11 := idx_none (fun v hv he => jO v (by
    have h8 : v < 11 := hv
    try have k_0 := ia_n 31 (by first | decide | omega)
    try have k_1 := ia_n (if WT2.idxOf (p8 bt rbegin (rplace - rbegin)) < 11 then 20 + WT2.idxOf (p8 bt rbegin (rplace - rbegin)) else 31) (by first | decide | omega)
    try simp only [ia_lt, ia_le, ia_eq, ia_m1, ia_0, ia_1, ne_eq, true_and, and_true, false_and, and_false, or_false, false_or, or_true, true_or, not_true_eq_false, not_false_eq_true] at *
    all_goals omega) ((mtc_iff txok2 hv hLET hlen).mpr he))
  rw [h9]
  rfl
set_option maxRecDepth 20000 in
theorem lf_f_wordIn2_3 (bt : Nat → Nat) (rlength : Nat) (rplace : Nat) (rbegin : Nat) (rtapeF : Nat → Int32) (k7 : Nat) (n10 : Nat) (k18 : Nat) (n21 : Nat) (iv_rreader_0 : rlength ≤ 940) (iv_rreader_1 : rplace ≤ rlength) (iv_rreader_3 : rbegin ≤ 940) (hTC : TC bt rtapeF) (hbp : rbegin ≤ rplace) (hlen : rplace - rbegin ≤ 7) (hLET : LET bt rbegin (rplace - rbegin)) (j8 : k7 ≤ 11) (jO : ∀ v, v < k7 → ¬ mtc tx2 v bt rbegin (rplace - rbegin)) (hm12 : 11 - k7 < n10 + 1) (c13 : k7 < 11) (j19 : k18 ≤ 7) (jI : ∀ j, j < k18 → tx2.getD (7 * k7 + j) 0 = if j < rplace - rbegin then bt (rbegin + j) else 32) (hm23 : 7 - k18 < n21 + 1) (c24 : 7 ≤ k18) (c25 : k18 ≠ 7) : (k7 + 1) ≤ 11 := by
  try simp only [ia_lt, ia_le, ia_eq, ia_m1, ia_0, ia_1, ne_eq, true_and, and_true, false_and, and_false, or_false, false_or, or_true, true_or, not_true_eq_false, not_false_eq_true] at *
  all_goals omega
set_option maxRecDepth 20000 in
theorem lf_f_wordIn2_4 (bt : Nat → Nat) (rlength : Nat) (rplace : Nat) (rbegin : Nat) (rtapeF : Nat → Int32) (k7 : Nat) (n10 : Nat) (k18 : Nat) (n21 : Nat) (iv_rreader_0 : rlength ≤ 940) (iv_rreader_1 : rplace ≤ rlength) (iv_rreader_3 : rbegin ≤ 940) (hTC : TC bt rtapeF) (hbp : rbegin ≤ rplace) (hlen : rplace - rbegin ≤ 7) (hLET : LET bt rbegin (rplace - rbegin)) (j8 : k7 ≤ 11) (jO : ∀ v, v < k7 → ¬ mtc tx2 v bt rbegin (rplace - rbegin)) (hm12 : 11 - k7 < n10 + 1) (c13 : k7 < 11) (j19 : k18 ≤ 7) (jI : ∀ j, j < k18 → tx2.getD (7 * k7 + j) 0 = if j < rplace - rbegin then bt (rbegin + j) else 32) (hm23 : 7 - k18 < n21 + 1) (c24 : 7 ≤ k18) (c25 : k18 ≠ 7) : ∀ v, v < (k7 + 1) → ¬ mtc tx2 v bt rbegin (rplace - rbegin) := by
  intro v hv hm
  by_cases hvw : v = k7
  · have h8 := hm k18 (by
      try simp only [ia_lt, ia_le, ia_eq, ia_m1, ia_0, ia_1, ne_eq, true_and, and_true, false_and, and_false, or_false, false_or, or_true, true_or, not_true_eq_false, not_false_eq_true] at *
      all_goals omega)
    rw [hvw] at h8
    have h7 := tx_lt2 (7 * k7 + k18)
    have h6 := ia_n (tx2.getD (7 * k7 + k18) 0) (by omega)
    by_cases h5 : k18 < rplace - rbegin
    · rw [if_pos h5] at h8
      try simp only [ia_lt, ia_le, ia_eq, ia_m1, ia_0, ia_1, ne_eq, true_and, and_true, false_and, and_false, or_false, false_or, or_true, true_or, not_true_eq_false, not_false_eq_true] at *
      all_goals omega
    · rw [if_neg h5] at h8
      try simp only [ia_lt, ia_le, ia_eq, ia_m1, ia_0, ia_1, ne_eq, true_and, and_true, false_and, and_false, or_false, false_or, or_true, true_or, not_true_eq_false, not_false_eq_true] at *
      all_goals omega
  · exact jO v (by omega) hm
set_option maxRecDepth 20000 in
theorem lf_f_wordIn2_5 (bt : Nat → Nat) (rlength : Nat) (rplace : Nat) (rbegin : Nat) (rtapeF : Nat → Int32) (k7 : Nat) (n10 : Nat) (k18 : Nat) (n21 : Nat) (iv_rreader_0 : rlength ≤ 940) (iv_rreader_1 : rplace ≤ rlength) (iv_rreader_3 : rbegin ≤ 940) (hTC : TC bt rtapeF) (hbp : rbegin ≤ rplace) (hlen : rplace - rbegin ≤ 7) (hLET : LET bt rbegin (rplace - rbegin)) (j8 : k7 ≤ 11) (jO : ∀ v, v < k7 → ¬ mtc tx2 v bt rbegin (rplace - rbegin)) (hm12 : 11 - k7 < n10 + 1) (c13 : k7 < 11) (j19 : k18 ≤ 7) (jI : ∀ j, j < k18 → tx2.getD (7 * k7 + j) 0 = if j < rplace - rbegin then bt (rbegin + j) else 32) (hm23 : 7 - k18 < n21 + 1) (c24 : 7 ≤ k18) (c25 : k18 ≠ 7) : 11 - (k7 + 1) < n10 := by
  try simp only [ia_lt, ia_le, ia_eq, ia_m1, ia_0, ia_1, ne_eq, true_and, and_true, false_and, and_false, or_false, false_or, or_true, true_or, not_true_eq_false, not_false_eq_true] at *
  all_goals omega
set_option maxRecDepth 20000 in
theorem lf_f_wordIn2_6 (bt : Nat → Nat) (rlength : Nat) (rplace : Nat) (rbegin : Nat) (rtapeF : Nat → Int32) (k7 : Nat) (n10 : Nat) (k18 : Nat) (n21 : Nat) (iv_rreader_0 : rlength ≤ 940) (iv_rreader_1 : rplace ≤ rlength) (iv_rreader_3 : rbegin ≤ 940) (hTC : TC bt rtapeF) (hbp : rbegin ≤ rplace) (hlen : rplace - rbegin ≤ 7) (hLET : LET bt rbegin (rplace - rbegin)) (j8 : k7 ≤ 11) (jO : ∀ v, v < k7 → ¬ mtc tx2 v bt rbegin (rplace - rbegin)) (hm12 : 11 - k7 < n10 + 1) (c13 : k7 < 11) (j19 : k18 ≤ 7) (jI : ∀ j, j < k18 → tx2.getD (7 * k7 + j) 0 = if j < rplace - rbegin then bt (rbegin + j) else 32) (hm23 : 7 - k18 < n21 + 1) (c24 : 7 ≤ k18) (c25 : k18 = 7) : (nI (20 + k7)) = nI (if WT2.idxOf (p8 bt rbegin (rplace - rbegin)) < 11 then 20 + WT2.idxOf (p8 bt rbegin (rplace - rbegin)) else 31) := by
  have hk7 : k18 = 7 ∧ k7 < 11 := by
    try have k_0 := ia_n (20 + k7) (by first | decide | omega)
    try have k_1 := ia_n (if WT2.idxOf (p8 bt rbegin (rplace - rbegin)) < 11 then 20 + WT2.idxOf (p8 bt rbegin (rplace - rbegin)) else 31) (by first | decide | omega)
    try simp only [ia_lt, ia_le, ia_eq, ia_m1, ia_0, ia_1, ne_eq, true_and, and_true, false_and, and_false, or_false, false_or, or_true, true_or, not_true_eq_false, not_false_eq_true] at *
    all_goals omega
  have hm : mtc tx2 k7 bt rbegin (rplace - rbegin) := fun j hj => jI j (by omega)
  have h9 : WT2.idxOf (p8 bt rbegin (rplace - rbegin)) = k7 := idx_hit (fun v hv he => jO v hv ((mtc_iff txok2 (show v < 11 by omega) hLET hlen).mpr he)) (show k7 < 11 by omega) ((mtc_iff txok2 (show k7 < 11 by omega) hLET hlen).mp hm)
  rw [h9, if_pos hk7.2]
  try exact congrArg nI (by omega)
set_option maxRecDepth 20000 in
theorem lf_f_wordIn2_7 (bt : Nat → Nat) (rlength : Nat) (rplace : Nat) (rbegin : Nat) (rtapeF : Nat → Int32) (k7 : Nat) (n10 : Nat) (k18 : Nat) (n21 : Nat) (iv_rreader_0 : rlength ≤ 940) (iv_rreader_1 : rplace ≤ rlength) (iv_rreader_3 : rbegin ≤ 940) (hTC : TC bt rtapeF) (hbp : rbegin ≤ rplace) (hlen : rplace - rbegin ≤ 7) (hLET : LET bt rbegin (rplace - rbegin)) (j8 : k7 ≤ 11) (jO : ∀ v, v < k7 → ¬ mtc tx2 v bt rbegin (rplace - rbegin)) (hm12 : 11 - k7 < n10 + 1) (c13 : k7 < 11) (j19 : k18 ≤ 7) (jI : ∀ j, j < k18 → tx2.getD (7 * k7 + j) 0 = if j < rplace - rbegin then bt (rbegin + j) else 32) (hm23 : 7 - k18 < n21 + 1) (c24 : k18 < 7) : ((7 * k7) + k18) < 77 := by
  try simp only [ia_lt, ia_le, ia_eq, ia_m1, ia_0, ia_1, ne_eq, true_and, and_true, false_and, and_false, or_false, false_or, or_true, true_or, not_true_eq_false, not_false_eq_true] at *
  all_goals omega
set_option maxRecDepth 20000 in
theorem lf_f_wordIn2_8 (bt : Nat → Nat) (rlength : Nat) (rplace : Nat) (rbegin : Nat) (rtapeF : Nat → Int32) (k7 : Nat) (n10 : Nat) (k18 : Nat) (n21 : Nat) (r28 : Int32) (iv_rreader_0 : rlength ≤ 940) (iv_rreader_1 : rplace ≤ rlength) (iv_rreader_3 : rbegin ≤ 940) (hTC : TC bt rtapeF) (hbp : rbegin ≤ rplace) (hlen : rplace - rbegin ≤ 7) (hLET : LET bt rbegin (rplace - rbegin)) (j8 : k7 ≤ 11) (jO : ∀ v, v < k7 → ¬ mtc tx2 v bt rbegin (rplace - rbegin)) (hm12 : 11 - k7 < n10 + 1) (c13 : k7 < 11) (j19 : k18 ≤ 7) (jI : ∀ j, j < k18 → tx2.getD (7 * k7 + j) 0 = if j < rplace - rbegin then bt (rbegin + j) else 32) (hm23 : 7 - k18 < n21 + 1) (c24 : k18 < 7) (p29 : narrow .char (.int r28) = .int r28) (p30 : r28 = nI (tx2.getD ((7 * k7) + k18) 0)) (c31 : (rplace - rbegin) ≤ k18) (c32 : r28 ≠ nI 32) (c33 : k18 ≠ 7) : (k7 + 1) ≤ 11 := by
  have b_r28 := ia_b r28
  try have k_0 := ia_n (tx2.getD ((7 * k7) + k18) 0) (by first | decide | omega)
  try have k_1 := ia_n 32 (by first | decide | omega)
  try simp only [ia_lt, ia_le, ia_eq, ia_m1, ia_0, ia_1, ne_eq, true_and, and_true, false_and, and_false, or_false, false_or, or_true, true_or, not_true_eq_false, not_false_eq_true] at *
  all_goals omega
set_option maxRecDepth 20000 in
theorem lf_f_wordIn2_9 (bt : Nat → Nat) (rlength : Nat) (rplace : Nat) (rbegin : Nat) (rtapeF : Nat → Int32) (k7 : Nat) (n10 : Nat) (k18 : Nat) (n21 : Nat) (r28 : Int32) (iv_rreader_0 : rlength ≤ 940) (iv_rreader_1 : rplace ≤ rlength) (iv_rreader_3 : rbegin ≤ 940) (hTC : TC bt rtapeF) (hbp : rbegin ≤ rplace) (hlen : rplace - rbegin ≤ 7) (hLET : LET bt rbegin (rplace - rbegin)) (j8 : k7 ≤ 11) (jO : ∀ v, v < k7 → ¬ mtc tx2 v bt rbegin (rplace - rbegin)) (hm12 : 11 - k7 < n10 + 1) (c13 : k7 < 11) (j19 : k18 ≤ 7) (jI : ∀ j, j < k18 → tx2.getD (7 * k7 + j) 0 = if j < rplace - rbegin then bt (rbegin + j) else 32) (hm23 : 7 - k18 < n21 + 1) (c24 : k18 < 7) (p29 : narrow .char (.int r28) = .int r28) (p30 : r28 = nI (tx2.getD ((7 * k7) + k18) 0)) (c31 : (rplace - rbegin) ≤ k18) (c32 : r28 ≠ nI 32) (c33 : k18 ≠ 7) : ∀ v, v < (k7 + 1) → ¬ mtc tx2 v bt rbegin (rplace - rbegin) := by
  intro v hv hm
  by_cases hvw : v = k7
  · have h8 := hm k18 (by
      have b_r28 := ia_b r28
      try have k_0 := ia_n (tx2.getD ((7 * k7) + k18) 0) (by first | decide | omega)
      try have k_1 := ia_n 32 (by first | decide | omega)
      try simp only [ia_lt, ia_le, ia_eq, ia_m1, ia_0, ia_1, ne_eq, true_and, and_true, false_and, and_false, or_false, false_or, or_true, true_or, not_true_eq_false, not_false_eq_true] at *
      all_goals omega)
    rw [hvw] at h8
    have h7 := tx_lt2 (7 * k7 + k18)
    have h6 := ia_n (tx2.getD (7 * k7 + k18) 0) (by omega)
    by_cases h5 : k18 < rplace - rbegin
    · rw [if_pos h5] at h8
      have b_r28 := ia_b r28
      try have k_0 := ia_n (tx2.getD ((7 * k7) + k18) 0) (by first | decide | omega)
      try have k_1 := ia_n 32 (by first | decide | omega)
      try simp only [ia_lt, ia_le, ia_eq, ia_m1, ia_0, ia_1, ne_eq, true_and, and_true, false_and, and_false, or_false, false_or, or_true, true_or, not_true_eq_false, not_false_eq_true] at *
      all_goals omega
    · rw [if_neg h5] at h8
      have b_r28 := ia_b r28
      try have k_0 := ia_n (tx2.getD ((7 * k7) + k18) 0) (by first | decide | omega)
      try have k_1 := ia_n 32 (by first | decide | omega)
      try simp only [ia_lt, ia_le, ia_eq, ia_m1, ia_0, ia_1, ne_eq, true_and, and_true, false_and, and_false, or_false, false_or, or_true, true_or, not_true_eq_false, not_false_eq_true] at *
      all_goals omega
  · exact jO v (by omega) hm
set_option maxRecDepth 20000 in
theorem lf_f_wordIn2_10 (bt : Nat → Nat) (rlength : Nat) (rplace : Nat) (rbegin : Nat) (rtapeF : Nat → Int32) (k7 : Nat) (n10 : Nat) (k18 : Nat) (n21 : Nat) (r28 : Int32) (iv_rreader_0 : rlength ≤ 940) (iv_rreader_1 : rplace ≤ rlength) (iv_rreader_3 : rbegin ≤ 940) (hTC : TC bt rtapeF) (hbp : rbegin ≤ rplace) (hlen : rplace - rbegin ≤ 7) (hLET : LET bt rbegin (rplace - rbegin)) (j8 : k7 ≤ 11) (jO : ∀ v, v < k7 → ¬ mtc tx2 v bt rbegin (rplace - rbegin)) (hm12 : 11 - k7 < n10 + 1) (c13 : k7 < 11) (j19 : k18 ≤ 7) (jI : ∀ j, j < k18 → tx2.getD (7 * k7 + j) 0 = if j < rplace - rbegin then bt (rbegin + j) else 32) (hm23 : 7 - k18 < n21 + 1) (c24 : k18 < 7) (p29 : narrow .char (.int r28) = .int r28) (p30 : r28 = nI (tx2.getD ((7 * k7) + k18) 0)) (c31 : (rplace - rbegin) ≤ k18) (c32 : r28 ≠ nI 32) (c33 : k18 ≠ 7) : 11 - (k7 + 1) < n10 := by
  have b_r28 := ia_b r28
  try have k_0 := ia_n (tx2.getD ((7 * k7) + k18) 0) (by first | decide | omega)
  try have k_1 := ia_n 32 (by first | decide | omega)
  try simp only [ia_lt, ia_le, ia_eq, ia_m1, ia_0, ia_1, ne_eq, true_and, and_true, false_and, and_false, or_false, false_or, or_true, true_or, not_true_eq_false, not_false_eq_true] at *
  all_goals omega
set_option maxRecDepth 20000 in
theorem lf_f_wordIn2_11 (bt : Nat → Nat) (rlength : Nat) (rplace : Nat) (rbegin : Nat) (rtapeF : Nat → Int32) (k7 : Nat) (n10 : Nat) (k18 : Nat) (n21 : Nat) (r28 : Int32) (iv_rreader_0 : rlength ≤ 940) (iv_rreader_1 : rplace ≤ rlength) (iv_rreader_3 : rbegin ≤ 940) (hTC : TC bt rtapeF) (hbp : rbegin ≤ rplace) (hlen : rplace - rbegin ≤ 7) (hLET : LET bt rbegin (rplace - rbegin)) (j8 : k7 ≤ 11) (jO : ∀ v, v < k7 → ¬ mtc tx2 v bt rbegin (rplace - rbegin)) (hm12 : 11 - k7 < n10 + 1) (c13 : k7 < 11) (j19 : k18 ≤ 7) (jI : ∀ j, j < k18 → tx2.getD (7 * k7 + j) 0 = if j < rplace - rbegin then bt (rbegin + j) else 32) (hm23 : 7 - k18 < n21 + 1) (c24 : k18 < 7) (p29 : narrow .char (.int r28) = .int r28) (p30 : r28 = nI (tx2.getD ((7 * k7) + k18) 0)) (c31 : (rplace - rbegin) ≤ k18) (c32 : r28 ≠ nI 32) (c33 : k18 = 7) : (nI (20 + k7)) = nI (if WT2.idxOf (p8 bt rbegin (rplace - rbegin)) < 11 then 20 + WT2.idxOf (p8 bt rbegin (rplace - rbegin)) else 31) := by
  have hk7 : k18 = 7 ∧ k7 < 11 := by
    have b_r28 := ia_b r28
    try have k_0 := ia_n (tx2.getD ((7 * k7) + k18) 0) (by first | decide | omega)
    try have k_1 := ia_n 32 (by first | decide | omega)
    try have k_2 := ia_n (20 + k7) (by first | decide | omega)
    try have k_3 := ia_n (if WT2.idxOf (p8 bt rbegin (rplace - rbegin)) < 11 then 20 + WT2.idxOf (p8 bt rbegin (rplace - rbegin)) else 31) (by first | decide | omega)
    try simp only [ia_lt, ia_le, ia_eq, ia_m1, ia_0, ia_1, ne_eq, true_and, and_true, false_and, and_false, or_false, false_or, or_true, true_or, not_true_eq_false, not_false_eq_true] at *
    all_goals omega
  have hm : mtc tx2 k7 bt rbegin (rplace - rbegin) := fun j hj => jI j (by omega)
  have h9 : WT2.idxOf (p8 bt rbegin (rplace - rbegin)) = k7 := idx_hit (fun v hv he => jO v hv ((mtc_iff txok2 (show v < 11 by omega) hLET hlen).mpr he)) (show k7 < 11 by omega) ((mtc_iff txok2 (show k7 < 11 by omega) hLET hlen).mp hm)
  rw [h9, if_pos hk7.2]
  try exact congrArg nI (by omega)
set_option maxRecDepth 20000 in
theorem lf_f_wordIn2_12 (bt : Nat → Nat) (rlength : Nat) (rplace : Nat) (rbegin : Nat) (rtapeF : Nat → Int32) (k7 : Nat) (n10 : Nat) (k18 : Nat) (n21 : Nat) (r28 : Int32) (iv_rreader_0 : rlength ≤ 940) (iv_rreader_1 : rplace ≤ rlength) (iv_rreader_3 : rbegin ≤ 940) (hTC : TC bt rtapeF) (hbp : rbegin ≤ rplace) (hlen : rplace - rbegin ≤ 7) (hLET : LET bt rbegin (rplace - rbegin)) (j8 : k7 ≤ 11) (jO : ∀ v, v < k7 → ¬ mtc tx2 v bt rbegin (rplace - rbegin)) (hm12 : 11 - k7 < n10 + 1) (c13 : k7 < 11) (j19 : k18 ≤ 7) (jI : ∀ j, j < k18 → tx2.getD (7 * k7 + j) 0 = if j < rplace - rbegin then bt (rbegin + j) else 32) (hm23 : 7 - k18 < n21 + 1) (c24 : k18 < 7) (p29 : narrow .char (.int r28) = .int r28) (p30 : r28 = nI (tx2.getD ((7 * k7) + k18) 0)) (c31 : (rplace - rbegin) ≤ k18) (c32 : r28 = nI 32) : (k18 + 1) ≤ 7 := by
  have b_r28 := ia_b r28
  try have k_0 := ia_n (tx2.getD ((7 * k7) + k18) 0) (by first | decide | omega)
  try have k_1 := ia_n 32 (by first | decide | omega)
  try simp only [ia_lt, ia_le, ia_eq, ia_m1, ia_0, ia_1, ne_eq, true_and, and_true, false_and, and_false, or_false, false_or, or_true, true_or, not_true_eq_false, not_false_eq_true] at *
  all_goals omega
set_option maxRecDepth 20000 in
theorem lf_f_wordIn2_13 (bt : Nat → Nat) (rlength : Nat) (rplace : Nat) (rbegin : Nat) (rtapeF : Nat → Int32) (k7 : Nat) (n10 : Nat) (k18 : Nat) (n21 : Nat) (r28 : Int32) (iv_rreader_0 : rlength ≤ 940) (iv_rreader_1 : rplace ≤ rlength) (iv_rreader_3 : rbegin ≤ 940) (hTC : TC bt rtapeF) (hbp : rbegin ≤ rplace) (hlen : rplace - rbegin ≤ 7) (hLET : LET bt rbegin (rplace - rbegin)) (j8 : k7 ≤ 11) (jO : ∀ v, v < k7 → ¬ mtc tx2 v bt rbegin (rplace - rbegin)) (hm12 : 11 - k7 < n10 + 1) (c13 : k7 < 11) (j19 : k18 ≤ 7) (jI : ∀ j, j < k18 → tx2.getD (7 * k7 + j) 0 = if j < rplace - rbegin then bt (rbegin + j) else 32) (hm23 : 7 - k18 < n21 + 1) (c24 : k18 < 7) (p29 : narrow .char (.int r28) = .int r28) (p30 : r28 = nI (tx2.getD ((7 * k7) + k18) 0)) (c31 : (rplace - rbegin) ≤ k18) (c32 : r28 = nI 32) : ∀ j, j < (k18 + 1) → tx2.getD (7 * k7 + j) 0 = if j < rplace - rbegin then bt (rbegin + j) else 32 := by
  intro j hj
  by_cases hjk : j = k18
  · rw [hjk]
    have h7 := tx_lt2 (7 * k7 + k18)
    have h6 := ia_n (tx2.getD (7 * k7 + k18) 0) (by omega)
    by_cases h5 : k18 < rplace - rbegin
    · rw [if_pos h5]
      have b_r28 := ia_b r28
      try have k_0 := ia_n (tx2.getD ((7 * k7) + k18) 0) (by first | decide | omega)
      try have k_1 := ia_n 32 (by first | decide | omega)
      try simp only [ia_lt, ia_le, ia_eq, ia_m1, ia_0, ia_1, ne_eq, true_and, and_true, false_and, and_false, or_false, false_or, or_true, true_or, not_true_eq_false, not_false_eq_true] at *
      all_goals omega
    · rw [if_neg h5]
      have b_r28 := ia_b r28
      try have k_0 := ia_n (tx2.getD ((7 * k7) + k18) 0) (by first | decide | omega)
      try have k_1 := ia_n 32 (by first | decide | omega)
      try simp only [ia_lt, ia_le, ia_eq, ia_m1, ia_0, ia_1, ne_eq, true_and, and_true, false_and, and_false, or_false, false_or, or_true, true_or, not_true_eq_false, not_false_eq_true] at *
      all_goals omega
  · exact jI j (by omega)
set_option maxRecDepth 20000 in
theorem lf_f_wordIn2_14 (bt : Nat → Nat) (rlength : Nat) (rplace : Nat) (rbegin : Nat) (rtapeF : Nat → Int32) (k7 : Nat) (n10 : Nat) (k18 : Nat) (n21 : Nat) (r28 : Int32) (iv_rreader_0 : rlength ≤ 940) (iv_rreader_1 : rplace ≤ rlength) (iv_rreader_3 : rbegin ≤ 940) (hTC : TC bt rtapeF) (hbp : rbegin ≤ rplace) (hlen : rplace - rbegin ≤ 7) (hLET : LET bt rbegin (rplace - rbegin)) (j8 : k7 ≤ 11) (jO : ∀ v, v < k7 → ¬ mtc tx2 v bt rbegin (rplace - rbegin)) (hm12 : 11 - k7 < n10 + 1) (c13 : k7 < 11) (j19 : k18 ≤ 7) (jI : ∀ j, j < k18 → tx2.getD (7 * k7 + j) 0 = if j < rplace - rbegin then bt (rbegin + j) else 32) (hm23 : 7 - k18 < n21 + 1) (c24 : k18 < 7) (p29 : narrow .char (.int r28) = .int r28) (p30 : r28 = nI (tx2.getD ((7 * k7) + k18) 0)) (c31 : (rplace - rbegin) ≤ k18) (c32 : r28 = nI 32) : 7 - (k18 + 1) < n21 := by
  have b_r28 := ia_b r28
  try have k_0 := ia_n (tx2.getD ((7 * k7) + k18) 0) (by first | decide | omega)
  try have k_1 := ia_n 32 (by first | decide | omega)
  try simp only [ia_lt, ia_le, ia_eq, ia_m1, ia_0, ia_1, ne_eq, true_and, and_true, false_and, and_false, or_false, false_or, or_true, true_or, not_true_eq_false, not_false_eq_true] at *
  all_goals omega
set_option maxRecDepth 20000 in
theorem lf_f_wordIn2_15 (bt : Nat → Nat) (rlength : Nat) (rplace : Nat) (rbegin : Nat) (rtapeF : Nat → Int32) (k7 : Nat) (n10 : Nat) (k18 : Nat) (n21 : Nat) (r28 : Int32) (y34 : Int32) (iv_rreader_0 : rlength ≤ 940) (iv_rreader_1 : rplace ≤ rlength) (iv_rreader_3 : rbegin ≤ 940) (hTC : TC bt rtapeF) (hbp : rbegin ≤ rplace) (hlen : rplace - rbegin ≤ 7) (hLET : LET bt rbegin (rplace - rbegin)) (j8 : k7 ≤ 11) (jO : ∀ v, v < k7 → ¬ mtc tx2 v bt rbegin (rplace - rbegin)) (hm12 : 11 - k7 < n10 + 1) (c13 : k7 < 11) (j19 : k18 ≤ 7) (jI : ∀ j, j < k18 → tx2.getD (7 * k7 + j) 0 = if j < rplace - rbegin then bt (rbegin + j) else 32) (hm23 : 7 - k18 < n21 + 1) (c24 : k18 < 7) (p29 : narrow .char (.int r28) = .int r28) (p30 : r28 = nI (tx2.getD ((7 * k7) + k18) 0)) (c31 : k18 < (rplace - rbegin)) (e35 : y34 = rtapeF (rbegin + k18)) (t36 : bt (rbegin + k18) < 256) (t37 : y34.toInt = ((bt (rbegin + k18) : Nat) : Int) ∨ (128 ≤ bt (rbegin + k18) ∧ y34.toInt = ((bt (rbegin + k18) : Nat) : Int) - 256)) (c38 : r28 ≠ y34) (c39 : k18 ≠ 7) : (k7 + 1) ≤ 11 := by
  have b_r28 := ia_b r28
  have b_y34 := ia_b y34
  try have k_0 := ia_n (tx2.getD ((7 * k7) + k18) 0) (by first | decide | omega)
  try simp only [ia_lt, ia_le, ia_eq, ia_m1, ia_0, ia_1, ne_eq, true_and, and_true, false_and, and_false, or_false, false_or, or_true, true_or, not_true_eq_false, not_false_eq_true] at *
  all_goals omega
set_option maxRecDepth 20000 in
theorem lf_f_wordIn2_16 (bt : Nat → Nat) (rlength : Nat) (rplace : Nat) (rbegin : Nat) (rtapeF : Nat → Int32) (k7 : Nat) (n10 : Nat) (k18 : Nat) (n21 : Nat) (r28 : Int32) (y34 : Int32) (iv_rreader_0 : rlength ≤ 940) (iv_rreader_1 : rplace ≤ rlength) (iv_rreader_3 : rbegin ≤ 940) (hTC : TC bt rtapeF) (hbp : rbegin ≤ rplace) (hlen : rplace - rbegin ≤ 7) (hLET : LET bt rbegin (rplace - rbegin)) (j8 : k7 ≤ 11) (jO : ∀ v, v < k7 → ¬ mtc tx2 v bt rbegin (rplace - rbegin)) (hm12 : 11 - k7 < n10 + 1) (c13 : k7 < 11) (j19 : k18 ≤ 7) (jI : ∀ j, j < k18 → tx2.getD (7 * k7 + j) 0 = if j < rplace - rbegin then bt (rbegin + j) else 32) (hm23 : 7 - k18 < n21 + 1) (c24 : k18 < 7) (p29 : narrow .char (.int r28) = .int r28) (p30 : r28 = nI (tx2.getD ((7 * k7) + k18) 0)) (c31 : k18 < (rplace - rbegin)) (e35 : y34 = rtapeF (rbegin + k18)) (t36 : bt (rbegin + k18) < 256) (t37 : y34.toInt = ((bt (rbegin + k18) : Nat) : Int) ∨ (128 ≤ bt (rbegin + k18) ∧ y34.toInt = ((bt (rbegin + k18) : Nat) : Int) - 256)) (c38 : r28 ≠ y34) (c39 : k18 ≠ 7) : ∀ v, v < (k7 + 1) → ¬ mtc tx2 v bt rbegin (rplace - rbegin) := by
  intro v hv hm
  by_cases hvw : v = k7
  · have h8 := hm k18 (by
      have b_r28 := ia_b r28
      have b_y34 := ia_b y34
      try have k_0 := ia_n (tx2.getD ((7 * k7) + k18) 0) (by first | decide | omega)
      try simp only [ia_lt, ia_le, ia_eq, ia_m1, ia_0, ia_1, ne_eq, true_and, and_true, false_and, and_false, or_false, false_or, or_true, true_or, not_true_eq_false, not_false_eq_true] at *
      all_goals omega)
    rw [hvw] at h8
    have h7 := tx_lt2 (7 * k7 + k18)
    have h6 := ia_n (tx2.getD (7 * k7 + k18) 0) (by omega)
    by_cases h5 : k18 < rplace - rbegin
    · rw [if_pos h5] at h8
      have b_r28 := ia_b r28
      have b_y34 := ia_b y34
      try have k_0 := ia_n (tx2.getD ((7 * k7) + k18) 0) (by first | decide | omega)
      try simp only [ia_lt, ia_le, ia_eq, ia_m1, ia_0, ia_1, ne_eq, true_and, and_true, false_and, and_false, or_false, false_or, or_true, true_or, not_true_eq_false, not_false_eq_true] at *
      all_goals omega
    · rw [if_neg h5] at h8
      have b_r28 := ia_b r28
      have b_y34 := ia_b y34
      try have k_0 := ia_n (tx2.getD ((7 * k7) + k18) 0) (by first | decide | omega)
      try simp only [ia_lt, ia_le, ia_eq, ia_m1, ia_0, ia_1, ne_eq, true_and, and_true, false_and, and_false, or_false, false_or, or_true, true_or, not_true_eq_false, not_false_eq_true] at *
      all_goals omega
  · exact jO v (by omega) hm
set_option maxRecDepth 20000 in
theorem lf_f_wordIn2_17 (bt : Nat → Nat) (rlength : Nat) (rplace : Nat) (rbegin : Nat) (rtapeF : Nat → Int32) (k7 : Nat) (n10 : Nat) (k18 : Nat) (n21 : Nat) (r28 : Int32) (y34 : Int32) (iv_rreader_0 : rlength ≤ 940) (iv_rreader_1 : rplace ≤ rlength) (iv_rreader_3 : rbegin ≤ 940) (hTC : TC bt rtapeF) (hbp : rbegin ≤ rplace) (hlen : rplace - rbegin ≤ 7) (hLET : LET bt rbegin (rplace - rbegin)) (j8 : k7 ≤ 11) (jO : ∀ v, v < k7 → ¬ mtc tx2 v bt rbegin (rplace - rbegin)) (hm12 : 11 - k7 < n10 + 1) (c13 : k7 < 11) (j19 : k18 ≤ 7) (jI : ∀ j, j < k18 → tx2.getD (7 * k7 + j) 0 = if j < rplace - rbegin then bt (rbegin + j) else 32) (hm23 : 7 - k18 < n21 + 1) (c24 : k18 < 7) (p29 : narrow .char (.int r28) = .int r28) (p30 : r28 = nI (tx2.getD ((7 * k7) + k18) 0)) (c31 : k18 < (rplace - rbegin)) (e35 : y34 = rtapeF (rbegin + k18)) (t36 : bt (rbegin + k18) < 256) (t37 : y34.toInt = ((bt (rbegin + k18) : Nat) : Int) ∨ (128 ≤ bt (rbegin + k18) ∧ y34.toInt = ((bt (rbegin + k18) : Nat) : Int) - 256)) (c38 : r28 ≠ y34) (c39 : k18 ≠ 7) : 11 - (k7 + 1) < n10 := by
  have b_r28 := ia_b r28
  have b_y34 := ia_b y34
  try have k_0 := ia_n (tx2.getD ((7 * k7) + k18) 0) (by first | decide | omega)
  try simp only [ia_lt, ia_le, ia_eq, ia_m1, ia_0, ia_1, ne_eq, true_and, and_true, false_and, and_false, or_false, false_or, or_true, true_or, not_true_eq_false, not_false_eq_true] at *
  all_goals omega
set_option maxRecDepth 20000 in
theorem lf_f_wordIn2_18 (bt : Nat → Nat) (rlength : Nat) (rplace : Nat) (rbegin : Nat) (rtapeF : Nat → Int32) (k7 : Nat) (n10 : Nat) (k18 : Nat) (n21 : Nat) (r28 : Int32) (y34 : Int32) (iv_rreader_0 : rlength ≤ 940) (iv_rreader_1 : rplace ≤ rlength) (iv_rreader_3 : rbegin ≤ 940) (hTC : TC bt rtapeF) (hbp : rbegin ≤ rplace) (hlen : rplace - rbegin ≤ 7) (hLET : LET bt rbegin (rplace - rbegin)) (j8 : k7 ≤ 11) (jO : ∀ v, v < k7 → ¬ mtc tx2 v bt rbegin (rplace - rbegin)) (hm12 : 11 - k7 < n10 + 1) (c13 : k7 < 11) (j19 : k18 ≤ 7) (jI : ∀ j, j < k18 → tx2.getD (7 * k7 + j) 0 = if j < rplace - rbegin then bt (rbegin + j) else 32) (hm23 : 7 - k18 < n21 + 1) (c24 : k18 < 7) (p29 : narrow .char (.int r28) = .int r28) (p30 : r28 = nI (tx2.getD ((7 * k7) + k18) 0)) (c31 : k18 < (rplace - rbegin)) (e35 : y34 = rtapeF (rbegin + k18)) (t36 : bt (rbegin + k18) < 256) (t37 : y34.toInt = ((bt (rbegin + k18) : Nat) : Int) ∨ (128 ≤ bt (rbegin + k18) ∧ y34.toInt = ((bt (rbegin + k18) : Nat) : Int) - 256)) (c38 : r28 ≠ y34) (c39 : k18 = 7) : (nI (20 + k7)) = nI (if WT2.idxOf (p8 bt rbegin (rplace - rbegin)) < 11 then 20 + WT2.idxOf (p8 bt rbegin (rplace - rbegin)) else 31) := by
  have hk7 : k18 = 7 ∧ k7 < 11 := by
    have b_r28 := ia_b r28
    have b_y34 := ia_b y34
    try have k_0 := ia_n (tx2.getD ((7 * k7) + k18) 0) (by first | decide | omega)
    try have k_1 := ia_n (20 + k7) (by first | decide | omega)
    try have k_2 := ia_n (if WT2.idxOf (p8 bt rbegin (rplace - rbegin)) < 11 then 20 + WT2.idxOf (p8 bt rbegin (rplace - rbegin)) else 31) (by first | decide | omega)
    try simp only [ia_lt, ia_le, ia_eq, ia_m1, ia_0, ia_1, ne_eq, true_and, and_true, false_and, and_false, or_false, false_or, or_true, true_or, not_true_eq_false, not_false_eq_true] at *
    all_goals omega
  have hm : mtc tx2 k7 bt rbegin (rplace - rbegin) := fun j hj => jI j (by omega)
  have h9 : WT2.idxOf (p8 bt rbegin (rplace - rbegin)) = k7 := idx_hit (fun v hv he => jO v hv ((mtc_iff txok2 (show v < 11 by omega) hLET hlen).mpr he)) (show k7 < 11 by omega) ((mtc_iff txok2 (show k7 < 11 by omega) hLET hlen).mp hm)
  rw [h9, if_pos hk7.2]
  try exact congrArg nI (by omega)
set_option maxRecDepth 20000 in
theorem lf_f_wordIn2_19 (bt : Nat → Nat) (rlength : Nat) (rplace : Nat) (rbegin : Nat) (rtapeF : Nat → Int32) (k7 : Nat) (n10 : Nat) (k18 : Nat) (n21 : Nat) (r28 : Int32) (y34 : Int32) (iv_rreader_0 : rlength ≤ 940) (iv_rreader_1 : rplace ≤ rlength) (iv_rreader_3 : rbegin ≤ 940) (hTC : TC bt rtapeF) (hbp : rbegin ≤ rplace) (hlen : rplace - rbegin ≤ 7) (hLET : LET bt rbegin (rplace - rbegin)) (j8 : k7 ≤ 11) (jO : ∀ v, v < k7 → ¬ mtc tx2 v bt rbegin (rplace - rbegin)) (hm12 : 11 - k7 < n10 + 1) (c13 : k7 < 11) (j19 : k18 ≤ 7) (jI : ∀ j, j < k18 → tx2.getD (7 * k7 + j) 0 = if j < rplace - rbegin then bt (rbegin + j) else 32) (hm23 : 7 - k18 < n21 + 1) (c24 : k18 < 7) (p29 : narrow .char (.int r28) = .int r28) (p30 : r28 = nI (tx2.getD ((7 * k7) + k18) 0)) (c31 : k18 < (rplace - rbegin)) (e35 : y34 = rtapeF (rbegin + k18)) (t36 : bt (rbegin + k18) < 256) (t37 : y34.toInt = ((bt (rbegin + k18) : Nat) : Int) ∨ (128 ≤ bt (rbegin + k18) ∧ y34.toInt = ((bt (rbegin + k18) : Nat) : Int) - 256)) (c38 : r28 = y34) : (k18 + 1) ≤ 7 := by
  have b_r28 := ia_b r28
  have b_y34 := ia_b y34
  try have k_0 := ia_n (tx2.getD ((7 * k7) + k18) 0) (by first | decide | omega)
  try simp only [ia_lt, ia_le, ia_eq, ia_m1, ia_0, ia_1, ne_eq, true_and, and_true, false_and, and_false, or_false, false_or, or_true, true_or, not_true_eq_false, not_false_eq_true] at *
  all_goals omega
set_option maxRecDepth 20000 in
theorem lf_f_wordIn2_20 (bt : Nat → Nat) (rlength : Nat) (rplace : Nat) (rbegin : Nat) (rtapeF : Nat → Int32) (k7 : Nat) (n10 : Nat) (k18 : Nat) (n21 : Nat) (r28 : Int32) (y34 : Int32) (iv_rreader_0 : rlength ≤ 940) (iv_rreader_1 : rplace ≤ rlength) (iv_rreader_3 : rbegin ≤ 940) (hTC : TC bt rtapeF) (hbp : rbegin ≤ rplace) (hlen : rplace - rbegin ≤ 7) (hLET : LET bt rbegin (rplace - rbegin)) (j8 : k7 ≤ 11) (jO : ∀ v, v < k7 → ¬ mtc tx2 v bt rbegin (rplace - rbegin)) (hm12 : 11 - k7 < n10 + 1) (c13 : k7 < 11) (j19 : k18 ≤ 7) (jI : ∀ j, j < k18 → tx2.getD (7 * k7 + j) 0 = if j < rplace - rbegin then bt (rbegin + j) else 32) (hm23 : 7 - k18 < n21 + 1) (c24 : k18 < 7) (p29 : narrow .char (.int r28) = .int r28) (p30 : r28 = nI (tx2.getD ((7 * k7) + k18) 0)) (c31 : k18 < (rplace - rbegin)) (e35 : y34 = rtapeF (rbegin + k18)) (t36 : bt (rbegin + k18) < 256) (t37 : y34.toInt = ((bt (rbegin + k18) : Nat) : Int) ∨ (128 ≤ bt (rbegin + k18) ∧ y34.toInt = ((bt (rbegin + k18) : Nat) : Int) - 256)) (c38 : r28 = y34) : ∀ j, j < (k18 + 1) → tx2.getD (7 * k7 + j) 0 = if j < rplace - rbegin then bt (rbegin + j) else 32 := by
  intro j hj
  by_cases hjk : j = k18
  · rw [hjk]
    have h7 := tx_lt2 (7 * k7 + k18)
    have h6 := ia_n (tx2.getD (7 * k7 + k18) 0) (by omega)
    by_cases h5 : k18 < rplace - rbegin
    · rw [if_pos h5]
      have b_r28 := ia_b r28
      have b_y34 := ia_b y34
      try have k_0 := ia_n (tx2.getD ((7 * k7) + k18) 0) (by first | decide | omega)
      try simp only [ia_lt, ia_le, ia_eq, ia_m1, ia_0, ia_1, ne_eq, true_and, and_true, false_and, and_false, or_false, false_or, or_true, true_or, not_true_eq_false, not_false_eq_true] at *
      all_goals omega
    · rw [if_neg h5]
      have b_r28 := ia_b r28
      have b_y34 := ia_b y34
      try have k_0 := ia_n (tx2.getD ((7 * k7) + k18) 0) (by first | decide | omega)
      try simp only [ia_lt, ia_le, ia_eq, ia_m1, ia_0, ia_1, ne_eq, true_and, and_true, false_and, and_false, or_false, false_or, or_true, true_or, not_true_eq_false, not_false_eq_true] at *
      all_goals omega
  · exact jI j (by omega)
set_option maxRecDepth 20000 in
theorem lf_f_wordIn2_21 (bt : Nat → Nat) (rlength : Nat) (rplace : Nat) (rbegin : Nat) (rtapeF : Nat → Int32) (k7 : Nat) (n10 : Nat) (k18 : Nat) (n21 : Nat) (r28 : Int32) (y34 : Int32) (iv_rreader_0 : rlength ≤ 940) (iv_rreader_1 : rplace ≤ rlength) (iv_rreader_3 : rbegin ≤ 940) (hTC : TC bt rtapeF) (hbp : rbegin ≤ rplace) (hlen : rplace - rbegin ≤ 7) (hLET : LET bt rbegin (rplace - rbegin)) (j8 : k7 ≤ 11) (jO : ∀ v, v < k7 → ¬ mtc tx2 v bt rbegin (rplace - rbegin)) (hm12 : 11 - k7 < n10 + 1) (c13 : k7 < 11) (j19 : k18 ≤ 7) (jI : ∀ j, j < k18 → tx2.getD (7 * k7 + j) 0 = if j < rplace - rbegin then bt (rbegin + j) else 32) (hm23 : 7 - k18 < n21 + 1) (c24 : k18 < 7) (p29 : narrow .char (.int r28) = .int r28) (p30 : r28 = nI (tx2.getD ((7 * k7) + k18) 0)) (c31 : k18 < (rplace - rbegin)) (e35 : y34 = rtapeF (rbegin + k18)) (t36 : bt (rbegin + k18) < 256) (t37 : y34.toInt = ((bt (rbegin + k18) : Nat) : Int) ∨ (128 ≤ bt (rbegin + k18) ∧ y34.toInt = ((bt (rbegin + k18) : Nat) : Int) - 256)) (c38 : r28 = y34) : 7 - (k18 + 1) < n21 := by
  have b_r28 := ia_b r28
  have b_y34 := ia_b y34
  try have k_0 := ia_n (tx2.getD ((7 * k7) + k18) 0) (by first | decide | omega)
  try simp only [ia_lt, ia_le, ia_eq, ia_m1, ia_0, ia_1, ne_eq, true_and, and_true, false_and, and_false, or_false, false_or, or_true, true_or, not_true_eq_false, not_false_eq_true] at *
  all_goals omega
set_option maxRecDepth 20000 in
theorem lf_f_wordIn2_22   : 0 ≤ 7 := by
  try simp only [ia_lt, ia_le, ia_eq, ia_m1, ia_0, ia_1, ne_eq, true_and, and_true, false_and, and_false, or_false, false_or, or_true, true_or, not_true_eq_false, not_false_eq_true] at *
  all_goals omega
set_option maxRecDepth 20000 in
theorem lf_f_wordIn2_23 (bt : Nat → Nat) (rlength : Nat) (rplace : Nat) (rbegin : Nat) (rtapeF : Nat → Int32) (k7 : Nat) (n10 : Nat) (iv_rreader_0 : rlength ≤ 940) (iv_rreader_1 : rplace ≤ rlength) (iv_rreader_3 : rbegin ≤ 940) (hTC : TC bt rtapeF) (hbp : rbegin ≤ rplace) (hlen : rplace - rbegin ≤ 7) (hLET : LET bt rbegin (rplace - rbegin)) (j8 : k7 ≤ 11) (jO : ∀ v, v < k7 → ¬ mtc tx2 v bt rbegin (rplace - rbegin)) (hm12 : 11 - k7 < n10 + 1) (c13 : k7 < 11) : ∀ j, j < 0 → tx2.getD (7 * k7 + j) 0 = if j < rplace - rbegin then bt (rbegin + j) else 32 := by
  intro j hj; exact absurd hj (Nat.not_lt_zero j)
set_option maxRecDepth 20000 in
theorem lf_f_wordIn2_24   : 0 ≤ 11 := by
  try simp only [ia_lt, ia_le, ia_eq, ia_m1, ia_0, ia_1, ne_eq, true_and, and_true, false_and, and_false, or_false, false_or, or_true, true_or, not_true_eq_false, not_false_eq_true] at *
  all_goals omega
set_option maxRecDepth 20000 in
theorem lf_f_wordIn2_25 (bt : Nat → Nat) (rlength : Nat) (rplace : Nat) (rbegin : Nat) (rtapeF : Nat → Int32) (iv_rreader_0 : rlength ≤ 940) (iv_rreader_1 : rplace ≤ rlength) (iv_rreader_3 : rbegin ≤ 940) (hTC : TC bt rtapeF) (hbp : rbegin ≤ rplace) (hlen : rplace - rbegin ≤ 7) (hLET : LET bt rbegin (rplace - rbegin)) : ∀ v, v < 0 → ¬ mtc tx2 v bt rbegin (rplace - rbegin) := by
  intro v hv; exact absurd hv (Nat.not_lt_zero v)
set_option maxHeartbeats 4000000 in
set_option maxRecDepth 100000 in
theorem c_f_wordIn2 (l : Launch) (dC : Nat → ClassId) (dI : Nat → Nat → Nat) (ky : Nat → ClassId) (sz : Nat) (adK : Nat → Nat) (adV : Nat → Nat) (bt : Nat → Nat) (reader : Nat) (rtape : Nat) (rlength : Nat) (rmostBytes : Nat) (rplace : Nat) (rkind : Int32) (rbegin : Nat) (rword : Int32) (rnumber : Int32) (rletters : Int64) (rfaultKind : Int32) (rfaultPlace : Int32) (rtapeF : Nat → Int32) (iv_rreader_0 : rlength ≤ 940) (iv_rreader_1 : rplace ≤ rlength) (iv_rreader_2 : rmostBytes ≤ 900) (iv_rreader_3 : rbegin ≤ 940) (hTC : TC bt rtapeF) (hbp : rbegin ≤ rplace) (hlen : rplace - rbegin ≤ 7) (hLET : LET bt rbegin (rplace - rbegin)) : Met l yX5_wordIn wsX5_wordIn ({ frames := 4, cells := 0, slots := 0, locals := 85 }) (PcUE dC dI ky adK adV [.ref reader, .ref (adK 2), .int (nI 20)] [(reader, .inr (5, [.ref rtape, .int (nI rlength), .int (nI rmostBytes), .int (nI rplace), .int rkind, .int (nI rbegin), .int rword, .int rnumber, .long rletters, .int rfaultKind, .int rfaultPlace])), (rtape, .inl (ky 2, 940, .inl rtapeF))] sz) (va_Qi (fun (r : Int32) (_ : Unit) => r = nI (if WT2.idxOf (p8 bt rbegin (rplace - rbegin)) < 11 then 20 + WT2.idxOf (p8 bt rbegin (rplace - rbegin)) else 31)) (BU dC dI ky (fun (_ : Unit) => [(reader, .inr (5, [.ref rtape, .int (nI rlength), .int (nI rmostBytes), .int (nI rplace), .int rkind, .int (nI rbegin), .int rword, .int rnumber, .long rletters, .int rfaultKind, .int rfaultPlace])), (rtape, .inl (ky 2, 940, .inl rtapeF))]) (va_A [(reader, .inr (5, [.ref rtape, .int (nI rlength), .int (nI rmostBytes), .int (nI rplace), .int rkind, .int (nI rbegin), .int rword, .int rnumber, .long rletters, .int rfaultKind, .int rfaultPlace])), (rtape, .inl (ky 2, 940, .inl rtapeF))] sz)) (va_A [(reader, .inr (5, [.ref rtape, .int (nI rlength), .int (nI rmostBytes), .int (nI rplace), .int rkind, .int (nI rbegin), .int rword, .int rnumber, .long rletters, .int rfaultKind, .int rfaultPlace])), (rtape, .inl (ky 2, 940, .inl rtapeF))] sz)) 0 0 (va_A [(reader, .inr (5, [.ref rtape, .int (nI rlength), .int (nI rmostBytes), .int (nI rplace), .int rkind, .int (nI rbegin), .int rword, .int rnumber, .long rletters, .int rfaultKind, .int rfaultPlace])), (rtape, .inl (ky 2, 940, .inl rtapeF))] sz) := by
  refine Met.ofW (cc := cX5_wordIn) (maxL := 7) (ret := (some .int)) (by decide) rfl ?_
  intro p e s m args below meth c s₁ B hml hv
  obtain ⟨rfl, hsz, hP, hK, hD0, hE⟩ := hv
  have hx := B.exec
  have hb := B.bytes
  have hr := B.returns
  have hts := atoms_spec (ws := wsX5_wordIn) B.pre
  have hown : s.vm.findClass RX5 = some m.cls := findClass_of_methodNamed B.named
  have hlocks := B.notSynchronized
  have hin5 : ∀ w ∈ u_ws RX5 TX5 11, w ∈ wsX5_wordIn := by decide +kernel
  subst hsz
  have hD := hD0.self (sz := s.heap.size)
  generalize hAe : va_A [(reader, .inr (5, [.ref rtape, .int (nI rlength), .int (nI rmostBytes), .int (nI rplace), .int rkind, .int (nI rbegin), .int rword, .int rnumber, .long rletters, .int rfaultKind, .int rfaultPlace])), (rtape, .inl (ky 2, 940, .inl rtapeF))] s.heap.size = A at hD hE ⊢
  have hA : ∀ q : Nat, s.heap.size ≤ q → A q := fun q h => by rw [← hAe]; exact Or.inr h
  have hS : va_S A s.heap s.heap [] := va_S.rf
  have hl := lv_entry ([.ref reader, .ref (adK 2), .int (nI 20)]) (n := 7) (Nat.le_of_ble_eq_true rfl)
  rw [lg_entry_eq]
  generalize (lg_sl ([.ref reader, .ref (adK 2), .int (nI 20)]) ++ List.replicate (7 - (lg_sl ([.ref reader, .ref (adK 2), .int (nI 20)])).length) Slot.unset).toArray = ls at hl ⊢
  have hl : lv_has ls 7 [(0, .ref reader), (1, .ref (adK 2)), (2, .int (nI 20))] := hl
  refine q_name (fun Q hQ => ?_)
  generalize ([.ref reader, .ref (adK 2), .int (nI 20)] : List Value).toArray = args at hts hQ ⊢
  refine lv_aload_n hx hb dX5_wordIn_0 rfl (lv_at hl 1 rfl) ?_
  refine vp_callSi (W.runV (As := []) (rest := []) ⟨hx, hb, hml, hown, hts⟩ (c_j_length2 l dC dI ky adK adV) (cwV 0 hts gX5_wordIn_J0_length_8abf5 rfl rfl rfl (by decide +kernel) ⟨(Nat.le_of_ble_eq_true rfl), (Nat.le_of_ble_eq_true rfl)⟩) (pre_PEV hE hS hK hP [] rfl (vk_recv hE.1 (i := 2) (by decide) hS)) rfl rfl hl.1 rfl (lv_room (Nat.le_of_ble_eq_true rfl)) dX5_wordIn_1 ⟨(Nat.le_of_ble_eq_true rfl), (Nat.le_of_ble_eq_true rfl)⟩) (fun r1 p2 => ?_)
  subst p2
  refine lv_bipush (v := nI 7) hx hb dX5_wordIn_4 (by decide) ?_
  refine lv_idiv hx hb dX5_wordIn_6 (by decide) ?_
  refine r_ti (nI 11) (by decide) ?_
  refine lv_istore_n (lv' := [(3, .int (nI 11)), (0, .ref reader), (1, .ref (adK 2)), (2, .int (nI 20))]) hx hb dX5_wordIn_7 rfl hl (by decide) rfl (fun ls hl => ?_)
  refine lv_aload_n hx hb dX5_wordIn_8 rfl (lv_at hl 1 rfl) ?_
  refine va_get (D := (dC, dI)) (ci := 5) (v := .int (nI rplace)) (C := RX5) (T := TX5) (N := 11) hx hb hts hin5 hown hK hP 0 rfl rfl 3 (by decide) (hts (.fieldLink RX5 28 "PorridgeSea$Reader" "place" "I") (List.mem_of_getElem? (i := 1) rfl)) (fun _ h9 => h9) rfl dX5_wordIn_9 ?_
  refine lv_aload_n hx hb dX5_wordIn_12 rfl (lv_at hl 1 rfl) ?_
  refine va_get (D := (dC, dI)) (ci := 5) (v := .int (nI rbegin)) (C := RX5) (T := TX5) (N := 11) hx hb hts hin5 hown hK hP 0 rfl rfl 5 (by decide) (hts (.fieldLink RX5 40 "PorridgeSea$Reader" "begin" "I") (List.mem_of_getElem? (i := 2) rfl)) (fun _ h9 => h9) rfl dX5_wordIn_13 ?_
  refine lv_isub hx hb dX5_wordIn_16 ?_
  refine r_ti (nI (rplace - rbegin)) (pk_sub (lf_f_wordIn2_1 bt rlength rplace rbegin rtapeF iv_rreader_0 iv_rreader_1 iv_rreader_3 hTC hbp hlen hLET)) ?_
  refine lv_istore (lv' := [(4, .int (nI (rplace - rbegin))), (3, .int (nI 11)), (0, .ref reader), (1, .ref (adK 2)), (2, .int (nI 20))]) hx hb dX5_wordIn_17 hl (by decide) rfl (fun ls hl => ?_)
  refine lv_iconst (v := nI 0) hx hb dX5_wordIn_19 (by decide) ?_
  refine lv_istore (lv' := [(5, .int (nI 0)), (4, .int (nI (rplace - rbegin))), (3, .int (nI 11)), (0, .ref reader), (1, .ref (adK 2)), (2, .int (nI 20))]) hx hb dX5_wordIn_20 hl (by decide) rfl (fun ls hl => ?_)
  have hL9 : ∀ (n10 : Nat) (k7 : Nat), (k7 ≤ 11) → (∀ v, v < k7 → ¬ mtc tx2 v bt rbegin (rplace - rbegin)) → 11 - k7 < n10 → ∀ (H : Heap) (locs : List Loc) (ls : Array Slot), va_P (dC, dI) vwCl [(reader, .inr (5, [.ref rtape, .int (nI rlength), .int (nI rmostBytes), .int (nI rplace), .int rkind, .int (nI rbegin), .int rword, .int rnumber, .long rletters, .int rfaultKind, .int rfaultPlace])), (rtape, .inl (ky 2, 940, .inl rtapeF))] H → va_D A [(reader, .inr (5, [.ref rtape, .int (nI rlength), .int (nI rmostBytes), .int (nI rplace), .int rkind, .int (nI rbegin), .int rword, .int rnumber, .long rletters, .int rfaultKind, .int rfaultPlace])), (rtape, .inl (ky 2, 940, .inl rtapeF))] → va_S A s.heap H locs → lv_has ls 7 [(5, .int (nI k7)), (4, .int (nI (rplace - rbegin))), (3, .int (nI 11)), (0, .ref reader), (1, .ref (adK 2)), (2, .int (nI 20))] → W p l e (headSpec wsX5_wordIn ({ frames := 4, cells := 0, slots := 0, locals := 85 })).room s m args below meth c H locs 0 0 Q (F0 m 22 ls []) := by
    intro n10
    induction n10 with
    | zero => intro k7 _ _ h9; exact absurd h9 (Nat.not_lt_zero _)
    | succ n10 ih11 =>
      intro k7 j8 jO hm12 H locs ls hP hD hS hl
      refine lv_iload hx hb dX5_wordIn_22 (lv_at hl 0 rfl) ?_
      refine lv_iload_n hx hb dX5_wordIn_24 rfl (lv_at hl 2 rfl) ?_
      refine n_icmp_ge (x := k7) (y := 11) (tgt := 101) hx hb (by omega) (by omega) dX5_wordIn_25 (by decide) (fun c13 => ?_) (fun c13 => ?_)
      · refine lv_bipush (v := nI 31) hx hb dX5_wordIn_101 (by decide) ?_
        rw [hQ]
        exact W.iret (v := nI 31) hx hb hr (fun t9 ht9 hW9 => ⟨⟨nI 31, (), rfl, (lf_f_wordIn2_2 bt rlength rplace rbegin rtapeF k7 n10 iv_rreader_0 iv_rreader_1 iv_rreader_3 hTC hbp hlen hLET j8 jO hm12 c13), by rw [ht9]; exact hP, va_K.moved hW9.alike hK, hD⟩, hS.F ht9⟩) hS.2.2 dX5_wordIn_103
      · refine lv_iconst (v := nI 0) hx hb dX5_wordIn_28 (by decide) ?_
        refine lv_istore (lv' := [(6, .int (nI 0)), (5, .int (nI k7)), (4, .int (nI (rplace - rbegin))), (3, .int (nI 11)), (0, .ref reader), (1, .ref (adK 2)), (2, .int (nI 20))]) hx hb dX5_wordIn_29 hl (by decide) rfl (fun ls hl => ?_)
        have hL20 : ∀ (n21 : Nat) (k18 : Nat), (k18 ≤ 7) → (∀ j, j < k18 → tx2.getD (7 * k7 + j) 0 = if j < rplace - rbegin then bt (rbegin + j) else 32) → 7 - k18 < n21 → ∀ (H : Heap) (locs : List Loc) (ls : Array Slot), va_P (dC, dI) vwCl [(reader, .inr (5, [.ref rtape, .int (nI rlength), .int (nI rmostBytes), .int (nI rplace), .int rkind, .int (nI rbegin), .int rword, .int rnumber, .long rletters, .int rfaultKind, .int rfaultPlace])), (rtape, .inl (ky 2, 940, .inl rtapeF))] H → va_D A [(reader, .inr (5, [.ref rtape, .int (nI rlength), .int (nI rmostBytes), .int (nI rplace), .int rkind, .int (nI rbegin), .int rword, .int rnumber, .long rletters, .int rfaultKind, .int rfaultPlace])), (rtape, .inl (ky 2, 940, .inl rtapeF))] → va_S A s.heap H locs → lv_has ls 7 [(6, .int (nI k18)), (5, .int (nI k7)), (4, .int (nI (rplace - rbegin))), (3, .int (nI 11)), (0, .ref reader), (1, .ref (adK 2)), (2, .int (nI 20))] → W p l e (headSpec wsX5_wordIn ({ frames := 4, cells := 0, slots := 0, locals := 85 })).room s m args below meth c H locs 0 0 Q (F0 m 31 ls []) := by
          intro n21
          induction n21 with
          | zero => intro k18 _ _ h9; exact absurd h9 (Nat.not_lt_zero _)
          | succ n21 ih22 =>
            intro k18 j19 jI hm23 H locs ls hP hD hS hl
            refine lv_iload hx hb dX5_wordIn_31 (lv_at hl 0 rfl) ?_
            refine lv_bipush (v := nI 7) hx hb dX5_wordIn_33 (by decide) ?_
            refine n_icmp_ge (x := k18) (y := 7) (tgt := 83) hx hb (by omega) (by omega) dX5_wordIn_35 (by decide) (fun c24 => ?_) (fun c24 => ?_)
            · refine lv_iload hx hb dX5_wordIn_83 (lv_at hl 0 rfl) ?_
              refine lv_bipush (v := nI 7) hx hb dX5_wordIn_85 (by decide) ?_
              refine n_icmp_ne (x := k18) (y := 7) (tgt := 95) hx hb (by omega) (by omega) dX5_wordIn_87 (by decide) (fun c25 => ?_) (fun c25 => ?_)
              · refine lv_iinc (v := nI (k7 + 1)) (lv' := [(5, .int (nI (k7 + 1))), (6, .int (nI k18)), (4, .int (nI (rplace - rbegin))), (3, .int (nI 11)), (0, .ref reader), (1, .ref (adK 2)), (2, .int (nI 20))]) hx hb dX5_wordIn_95 hl (k := 1) rfl (show nI k7 + nI 1 = nI (k7 + 1) from nI_add _ _) (by decide) rfl (fun ls hl => ?_)
                refine lv_goto (tgt := 22) hx hb dX5_wordIn_98 (by decide) ?_
                exact ih11 (k7 + 1) (lf_f_wordIn2_3 bt rlength rplace rbegin rtapeF k7 n10 k18 n21 iv_rreader_0 iv_rreader_1 iv_rreader_3 hTC hbp hlen hLET j8 jO hm12 c13 j19 jI hm23 c24 c25) (lf_f_wordIn2_4 bt rlength rplace rbegin rtapeF k7 n10 k18 n21 iv_rreader_0 iv_rreader_1 iv_rreader_3 hTC hbp hlen hLET j8 jO hm12 c13 j19 jI hm23 c24 c25) (lf_f_wordIn2_5 bt rlength rplace rbegin rtapeF k7 n10 k18 n21 iv_rreader_0 iv_rreader_1 iv_rreader_3 hTC hbp hlen hLET j8 jO hm12 c13 j19 jI hm23 c24 c25) _ _ _ hP hD hS (lv_sub hl [0, 2, 3, 4, 5, 6] rfl)
              · refine lv_iload_n hx hb dX5_wordIn_90 rfl (lv_at hl 6 rfl) ?_
                refine lv_iload hx hb dX5_wordIn_91 (lv_at hl 1 rfl) ?_
                refine lv_iadd hx hb dX5_wordIn_93 ?_
                refine r_ti (nI (20 + k7)) (nI_add _ _) ?_
                rw [hQ]
                exact W.iret (v := nI (20 + k7)) hx hb hr (fun t9 ht9 hW9 => ⟨⟨nI (20 + k7), (), rfl, (lf_f_wordIn2_6 bt rlength rplace rbegin rtapeF k7 n10 k18 n21 iv_rreader_0 iv_rreader_1 iv_rreader_3 hTC hbp hlen hLET j8 jO hm12 c13 j19 jI hm23 c24 c25), by rw [ht9]; exact hP, va_K.moved hW9.alike hK, hD⟩, hS.F ht9⟩) hS.2.2 dX5_wordIn_94
            · refine lv_aload_n hx hb dX5_wordIn_38 rfl (lv_at hl 5 rfl) ?_
              refine lv_bipush (v := nI 7) hx hb dX5_wordIn_39 (by decide) ?_
              refine lv_iload hx hb dX5_wordIn_41 (lv_at hl 1 rfl) ?_
              refine lv_imul hx hb dX5_wordIn_43 ?_
              refine r_ti (nI (7 * k7)) (pk_mul _ _) ?_
              refine lv_iload hx hb dX5_wordIn_44 (lv_at hl 0 rfl) ?_
              refine lv_iadd hx hb dX5_wordIn_46 ?_
              refine r_ti (nI ((7 * k7) + k18)) (nI_add _ _) ?_
              refine r_call_i (wr := [(reader, .inr (5, [.ref rtape, .int (nI rlength), .int (nI rmostBytes), .int (nI rplace), .int rkind, .int (nI rbegin), .int rword, .int rnumber, .long rletters, .int rfaultKind, .int rfaultPlace])), (rtape, .inl (ky 2, 940, .inl rtapeF))]) (va_runV (As := [.int (nI ((7 * k7) + k18))]) (rest := []) ⟨hx, hb, hml, hown, hts⟩ (c_f_ch2 l dC dI ky H.size adK adV ((7 * k7) + k18) (lf_f_wordIn2_7 bt rlength rplace rbegin rtapeF k7 n10 k18 n21 iv_rreader_0 iv_rreader_1 iv_rreader_3 hTC hbp hlen hLET j8 jO hm12 c13 j19 jI hm23 c24)) (cwV 1 hts gX5_wordIn_J0_charAt_5068e rfl rfl rfl (by decide +kernel) ⟨(Nat.le_of_ble_eq_true rfl), (Nat.le_of_ble_eq_true rfl)⟩) (pre_UEV hE hS hA hK hP hD [] (by decide) rfl (vk_recv hE.1 (i := 2) (by decide) hS)) rfl rfl hl.1 rfl (lv_room (Nat.le_of_ble_eq_true rfl)) dX5_wordIn_47 ⟨(Nat.le_of_ble_eq_true rfl), (Nat.le_of_ble_eq_true rfl)⟩) hP hD hS hA [] [0, 1] rfl rfl (by decide) (by decide) (fun r28 u26 H locs p27 hP hD hS => ?_)
              try dsimp only at p27
              obtain ⟨p29, p30⟩ := p27
              refine W.widen (k := 0) (n := 0) (Nat.le_of_ble_eq_true rfl) (Nat.le_of_ble_eq_true rfl) ?_
              have hP : va_P (dC, dI) vwCl [(reader, .inr (5, [.ref rtape, .int (nI rlength), .int (nI rmostBytes), .int (nI rplace), .int rkind, .int (nI rbegin), .int rword, .int rnumber, .long rletters, .int rfaultKind, .int rfaultPlace])), (rtape, .inl (ky 2, 940, .inl rtapeF))] H := hP
              have hD : va_D A [(reader, .inr (5, [.ref rtape, .int (nI rlength), .int (nI rmostBytes), .int (nI rplace), .int rkind, .int (nI rbegin), .int rword, .int rnumber, .long rletters, .int rfaultKind, .int rfaultPlace])), (rtape, .inl (ky 2, 940, .inl rtapeF))] := hD
              refine lv_iload hx hb dX5_wordIn_50 (lv_at hl 0 rfl) ?_
              refine lv_iload hx hb dX5_wordIn_52 (lv_at hl 2 rfl) ?_
              refine n_icmp_ge (x := k18) (y := (rplace - rbegin)) (tgt := 72) hx hb (by omega) (by omega) dX5_wordIn_54 (by decide) (fun c31 => ?_) (fun c31 => ?_)
              · refine lv_bipush (v := nI 32) hx hb dX5_wordIn_72 (by decide) ?_
                refine lv_icmp_ne (tgt := 83) hx hb dX5_wordIn_74 (by decide) (fun c32 => ?_) (fun c32 => ?_)
                · refine lv_iload hx hb dX5_wordIn_83 (lv_at hl 0 rfl) ?_
                  refine lv_bipush (v := nI 7) hx hb dX5_wordIn_85 (by decide) ?_
                  refine n_icmp_ne (x := k18) (y := 7) (tgt := 95) hx hb (by omega) (by omega) dX5_wordIn_87 (by decide) (fun c33 => ?_) (fun c33 => ?_)
                  · refine lv_iinc (v := nI (k7 + 1)) (lv' := [(5, .int (nI (k7 + 1))), (6, .int (nI k18)), (4, .int (nI (rplace - rbegin))), (3, .int (nI 11)), (0, .ref reader), (1, .ref (adK 2)), (2, .int (nI 20))]) hx hb dX5_wordIn_95 hl (k := 1) rfl (show nI k7 + nI 1 = nI (k7 + 1) from nI_add _ _) (by decide) rfl (fun ls hl => ?_)
                    refine lv_goto (tgt := 22) hx hb dX5_wordIn_98 (by decide) ?_
                    exact ih11 (k7 + 1) (lf_f_wordIn2_8 bt rlength rplace rbegin rtapeF k7 n10 k18 n21 r28 iv_rreader_0 iv_rreader_1 iv_rreader_3 hTC hbp hlen hLET j8 jO hm12 c13 j19 jI hm23 c24 p29 p30 c31 c32 c33) (lf_f_wordIn2_9 bt rlength rplace rbegin rtapeF k7 n10 k18 n21 r28 iv_rreader_0 iv_rreader_1 iv_rreader_3 hTC hbp hlen hLET j8 jO hm12 c13 j19 jI hm23 c24 p29 p30 c31 c32 c33) (lf_f_wordIn2_10 bt rlength rplace rbegin rtapeF k7 n10 k18 n21 r28 iv_rreader_0 iv_rreader_1 iv_rreader_3 hTC hbp hlen hLET j8 jO hm12 c13 j19 jI hm23 c24 p29 p30 c31 c32 c33) _ _ _ hP hD hS (lv_sub hl [0, 2, 3, 4, 5, 6] rfl)
                  · refine lv_iload_n hx hb dX5_wordIn_90 rfl (lv_at hl 6 rfl) ?_
                    refine lv_iload hx hb dX5_wordIn_91 (lv_at hl 1 rfl) ?_
                    refine lv_iadd hx hb dX5_wordIn_93 ?_
                    refine r_ti (nI (20 + k7)) (nI_add _ _) ?_
                    rw [hQ]
                    exact W.iret (v := nI (20 + k7)) hx hb hr (fun t9 ht9 hW9 => ⟨⟨nI (20 + k7), (), rfl, (lf_f_wordIn2_11 bt rlength rplace rbegin rtapeF k7 n10 k18 n21 r28 iv_rreader_0 iv_rreader_1 iv_rreader_3 hTC hbp hlen hLET j8 jO hm12 c13 j19 jI hm23 c24 p29 p30 c31 c32 c33), by rw [ht9]; exact hP, va_K.moved hW9.alike hK, hD⟩, hS.F ht9⟩) hS.2.2 dX5_wordIn_94
                · refine lv_iinc (v := nI (k18 + 1)) (lv' := [(6, .int (nI (k18 + 1))), (5, .int (nI k7)), (4, .int (nI (rplace - rbegin))), (3, .int (nI 11)), (0, .ref reader), (1, .ref (adK 2)), (2, .int (nI 20))]) hx hb dX5_wordIn_77 hl (k := 0) rfl (show nI k18 + nI 1 = nI (k18 + 1) from nI_add _ _) (by decide) rfl (fun ls hl => ?_)
                  refine lv_goto (tgt := 31) hx hb dX5_wordIn_80 (by decide) ?_
                  exact ih22 (k18 + 1) (lf_f_wordIn2_12 bt rlength rplace rbegin rtapeF k7 n10 k18 n21 r28 iv_rreader_0 iv_rreader_1 iv_rreader_3 hTC hbp hlen hLET j8 jO hm12 c13 j19 jI hm23 c24 p29 p30 c31 c32) (lf_f_wordIn2_13 bt rlength rplace rbegin rtapeF k7 n10 k18 n21 r28 iv_rreader_0 iv_rreader_1 iv_rreader_3 hTC hbp hlen hLET j8 jO hm12 c13 j19 jI hm23 c24 p29 p30 c31 c32) (lf_f_wordIn2_14 bt rlength rplace rbegin rtapeF k7 n10 k18 n21 r28 iv_rreader_0 iv_rreader_1 iv_rreader_3 hTC hbp hlen hLET j8 jO hm12 c13 j19 jI hm23 c24 p29 p30 c31 c32) _ _ _ hP hD hS (lv_sub hl [0, 1, 2, 3, 4, 5, 6] rfl)
              · refine lv_aload_n hx hb dX5_wordIn_57 rfl (lv_at hl 4 rfl) ?_
                refine va_get (D := (dC, dI)) (ci := 5) (v := .ref rtape) (C := RX5) (T := TX5) (N := 11) hx hb hts hin5 hown hK hP 0 rfl rfl 0 (by decide) (hts (.fieldLink RX5 9 "PorridgeSea$Reader" "tape" "[B") (List.mem_of_getElem? (i := 3) rfl)) (fun _ h9 => h9) rfl dX5_wordIn_58 ?_
                refine lv_aload_n hx hb dX5_wordIn_61 rfl (lv_at hl 4 rfl) ?_
                refine va_get (D := (dC, dI)) (ci := 5) (v := .int (nI rbegin)) (C := RX5) (T := TX5) (N := 11) hx hb hts hin5 hown hK hP 0 rfl rfl 5 (by decide) (hts (.fieldLink RX5 40 "PorridgeSea$Reader" "begin" "I") (List.mem_of_getElem? (i := 2) rfl)) (fun _ h9 => h9) rfl dX5_wordIn_62 ?_
                refine lv_iload hx hb dX5_wordIn_65 (lv_at hl 0 rfl) ?_
                refine lv_iadd hx hb dX5_wordIn_67 ?_
                refine r_ti (nI (rbegin + k18)) (nI_add _ _) ?_
                obtain ⟨y34, e35⟩ : ∃ z9, z9 = rtapeF (rbegin + k18) := ⟨_, rfl⟩
                refine r_bald hx hb hK hP 1 rfl (rbegin + k18) (by omega) (by decide) y34 e35.symm dX5_wordIn_68 ?_
                obtain ⟨t36, t37⟩ : bt (rbegin + k18) < 256 ∧ (y34.toInt = ((bt (rbegin + k18) : Nat) : Int) ∨ (128 ≤ bt (rbegin + k18) ∧ y34.toInt = ((bt (rbegin + k18) : Nat) : Int) - 256)) := by rw [e35]; exact hTC (rbegin + k18) (by omega)
                refine lv_goto (tgt := 74) hx hb dX5_wordIn_69 (by decide) ?_
                refine lv_icmp_ne (tgt := 83) hx hb dX5_wordIn_74 (by decide) (fun c38 => ?_) (fun c38 => ?_)
                · refine lv_iload hx hb dX5_wordIn_83 (lv_at hl 0 rfl) ?_
                  refine lv_bipush (v := nI 7) hx hb dX5_wordIn_85 (by decide) ?_
                  refine n_icmp_ne (x := k18) (y := 7) (tgt := 95) hx hb (by omega) (by omega) dX5_wordIn_87 (by decide) (fun c39 => ?_) (fun c39 => ?_)
                  · refine lv_iinc (v := nI (k7 + 1)) (lv' := [(5, .int (nI (k7 + 1))), (6, .int (nI k18)), (4, .int (nI (rplace - rbegin))), (3, .int (nI 11)), (0, .ref reader), (1, .ref (adK 2)), (2, .int (nI 20))]) hx hb dX5_wordIn_95 hl (k := 1) rfl (show nI k7 + nI 1 = nI (k7 + 1) from nI_add _ _) (by decide) rfl (fun ls hl => ?_)
                    refine lv_goto (tgt := 22) hx hb dX5_wordIn_98 (by decide) ?_
                    exact ih11 (k7 + 1) (lf_f_wordIn2_15 bt rlength rplace rbegin rtapeF k7 n10 k18 n21 r28 y34 iv_rreader_0 iv_rreader_1 iv_rreader_3 hTC hbp hlen hLET j8 jO hm12 c13 j19 jI hm23 c24 p29 p30 c31 e35 t36 t37 c38 c39) (lf_f_wordIn2_16 bt rlength rplace rbegin rtapeF k7 n10 k18 n21 r28 y34 iv_rreader_0 iv_rreader_1 iv_rreader_3 hTC hbp hlen hLET j8 jO hm12 c13 j19 jI hm23 c24 p29 p30 c31 e35 t36 t37 c38 c39) (lf_f_wordIn2_17 bt rlength rplace rbegin rtapeF k7 n10 k18 n21 r28 y34 iv_rreader_0 iv_rreader_1 iv_rreader_3 hTC hbp hlen hLET j8 jO hm12 c13 j19 jI hm23 c24 p29 p30 c31 e35 t36 t37 c38 c39) _ _ _ hP hD hS (lv_sub hl [0, 2, 3, 4, 5, 6] rfl)
                  · refine lv_iload_n hx hb dX5_wordIn_90 rfl (lv_at hl 6 rfl) ?_
                    refine lv_iload hx hb dX5_wordIn_91 (lv_at hl 1 rfl) ?_
                    refine lv_iadd hx hb dX5_wordIn_93 ?_
                    refine r_ti (nI (20 + k7)) (nI_add _ _) ?_
                    rw [hQ]
                    exact W.iret (v := nI (20 + k7)) hx hb hr (fun t9 ht9 hW9 => ⟨⟨nI (20 + k7), (), rfl, (lf_f_wordIn2_18 bt rlength rplace rbegin rtapeF k7 n10 k18 n21 r28 y34 iv_rreader_0 iv_rreader_1 iv_rreader_3 hTC hbp hlen hLET j8 jO hm12 c13 j19 jI hm23 c24 p29 p30 c31 e35 t36 t37 c38 c39), by rw [ht9]; exact hP, va_K.moved hW9.alike hK, hD⟩, hS.F ht9⟩) hS.2.2 dX5_wordIn_94
                · refine lv_iinc (v := nI (k18 + 1)) (lv' := [(6, .int (nI (k18 + 1))), (5, .int (nI k7)), (4, .int (nI (rplace - rbegin))), (3, .int (nI 11)), (0, .ref reader), (1, .ref (adK 2)), (2, .int (nI 20))]) hx hb dX5_wordIn_77 hl (k := 0) rfl (show nI k18 + nI 1 = nI (k18 + 1) from nI_add _ _) (by decide) rfl (fun ls hl => ?_)
                  refine lv_goto (tgt := 31) hx hb dX5_wordIn_80 (by decide) ?_
                  exact ih22 (k18 + 1) (lf_f_wordIn2_19 bt rlength rplace rbegin rtapeF k7 n10 k18 n21 r28 y34 iv_rreader_0 iv_rreader_1 iv_rreader_3 hTC hbp hlen hLET j8 jO hm12 c13 j19 jI hm23 c24 p29 p30 c31 e35 t36 t37 c38) (lf_f_wordIn2_20 bt rlength rplace rbegin rtapeF k7 n10 k18 n21 r28 y34 iv_rreader_0 iv_rreader_1 iv_rreader_3 hTC hbp hlen hLET j8 jO hm12 c13 j19 jI hm23 c24 p29 p30 c31 e35 t36 t37 c38) (lf_f_wordIn2_21 bt rlength rplace rbegin rtapeF k7 n10 k18 n21 r28 y34 iv_rreader_0 iv_rreader_1 iv_rreader_3 hTC hbp hlen hLET j8 jO hm12 c13 j19 jI hm23 c24 p29 p30 c31 e35 t36 t37 c38) _ _ _ hP hD hS (lv_sub hl [0, 1, 2, 3, 4, 5, 6] rfl)
        exact hL20 ((7 - 0) + 1) 0 (lf_f_wordIn2_22) (lf_f_wordIn2_23 bt rlength rplace rbegin rtapeF k7 n10 iv_rreader_0 iv_rreader_1 iv_rreader_3 hTC hbp hlen hLET j8 jO hm12 c13) (Nat.lt_succ_self _) _ _ _ hP hD hS (lv_sub hl [0, 1, 2, 3, 4, 5, 6] rfl)
  exact hL9 ((11 - 0) + 1) 0 (lf_f_wordIn2_24) (lf_f_wordIn2_25 bt rlength rplace rbegin rtapeF iv_rreader_0 iv_rreader_1 iv_rreader_3 hTC hbp hlen hLET) (Nat.lt_succ_self _) _ _ _ hP hD hS (lv_sub hl [0, 1, 2, 3, 4, 5] rfl)
