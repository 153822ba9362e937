theorem dX7_init_0 : decode cX7_init 0 = .ok (.aload_n 0, 1) := by decide +kernel
theorem dX7_init_1 : decode cX7_init 1 = .ok (.invokespecial 3, 3) := by decide +kernel
theorem dX7_init_4 : decode cX7_init 4 = .ok (.aload_n 0, 1) := by decide +kernel
theorem dX7_init_5 : decode cX7_init 5 = .ok (.bipush 36, 2) := by decide +kernel
theorem dX7_init_7 : decode cX7_init 7 = .ok (.newarray .int, 2) := by decide +kernel
theorem dX7_init_9 : decode cX7_init 9 = .ok (.putfield 9, 3) := by decide +kernel
theorem dX7_init_12 : decode cX7_init 12 = .ok (.aload_n 0, 1) := by decide +kernel
theorem dX7_init_13 : decode cX7_init 13 = .ok (.bipush 6, 2) := by decide +kernel
theorem dX7_init_15 : decode cX7_init 15 = .ok (.newarray .long, 2) := by decide +kernel
theorem dX7_init_17 : decode cX7_init 17 = .ok (.putfield 15, 3) := by decide +kernel
theorem dX7_init_20 : decode cX7_init 20 = .ok (.aload_n 0, 1) := by decide +kernel
theorem dX7_init_21 : decode cX7_init 21 = .ok (.bipush 6, 2) := by decide +kernel
theorem dX7_init_23 : decode cX7_init 23 = .ok (.newarray .int, 2) := by decide +kernel
theorem dX7_init_25 : decode cX7_init 25 = .ok (.putfield 19, 3) := by decide +kernel
theorem dX7_init_28 : decode cX7_init 28 = .ok (.aload_n 0, 1) := by decide +kernel
theorem dX7_init_29 : decode cX7_init 29 = .ok (.bipush 6, 2) := by decide +kernel
theorem dX7_init_31 : decode cX7_init 31 = .ok (.newarray .long, 2) := by decide +kernel
theorem dX7_init_33 : decode cX7_init 33 = .ok (.putfield 22, 3) := by decide +kernel
theorem dX7_init_36 : decode cX7_init 36 = .ok (.aload_n 0, 1) := by decide +kernel
theorem dX7_init_37 : decode cX7_init 37 = .ok (.bipush 6, 2) := by decide +kernel
theorem dX7_init_39 : decode cX7_init 39 = .ok (.newarray .int, 2) := by decide +kernel
theorem dX7_init_41 : decode cX7_init 41 = .ok (.putfield 25, 3) := by decide +kernel
theorem dX7_init_44 : decode cX7_init 44 = .ok (.aload_n 0, 1) := by decide +kernel
theorem dX7_init_45 : decode cX7_init 45 = .ok (.bipush 6, 2) := by decide +kernel
theorem dX7_init_47 : decode cX7_init 47 = .ok (.newarray .int, 2) := by decide +kernel
theorem dX7_init_49 : decode cX7_init 49 = .ok (.putfield 28, 3) := by decide +kernel
theorem dX7_init_52 : decode cX7_init 52 = .ok (.aload_n 0, 1) := by decide +kernel
theorem dX7_init_53 : decode cX7_init 53 = .ok (.bipush 6, 2) := by decide +kernel
theorem dX7_init_55 : decode cX7_init 55 = .ok (.newarray .int, 2) := by decide +kernel
theorem dX7_init_57 : decode cX7_init 57 = .ok (.putfield 31, 3) := by decide +kernel
theorem dX7_init_60 : decode cX7_init 60 = .ok (.aload_n 0, 1) := by decide +kernel
theorem dX7_init_61 : decode cX7_init 61 = .ok (.bipush 6, 2) := by decide +kernel
theorem dX7_init_63 : decode cX7_init 63 = .ok (.newarray .int, 2) := by decide +kernel
theorem dX7_init_65 : decode cX7_init 65 = .ok (.putfield 34, 3) := by decide +kernel
theorem dX7_init_68 : decode cX7_init 68 = .ok (.aload_n 0, 1) := by decide +kernel
theorem dX7_init_69 : decode cX7_init 69 = .ok (.bipush 6, 2) := by decide +kernel
theorem dX7_init_71 : decode cX7_init 71 = .ok (.newarray .int, 2) := by decide +kernel
theorem dX7_init_73 : decode cX7_init 73 = .ok (.putfield 37, 3) := by decide +kernel
theorem dX7_init_76 : decode cX7_init 76 = .ok (.aload_n 0, 1) := by decide +kernel
theorem dX7_init_77 : decode cX7_init 77 = .ok (.invokevirtual 40, 3) := by decide +kernel
theorem dX7_init_80 : decode cX7_init 80 = .ok (.return_, 1) := by decide +kernel
theorem dX5_init_0 : decode cX5_init 0 = .ok (.aload_n 0, 1) := by decide +kernel
theorem dX5_init_1 : decode cX5_init 1 = .ok (.invokespecial 3, 3) := by decide +kernel
theorem dX5_init_4 : decode cX5_init 4 = .ok (.aload_n 0, 1) := by decide +kernel
theorem dX5_init_5 : decode cX5_init 5 = .ok (.sipush 940, 3) := by decide +kernel
theorem dX5_init_8 : decode cX5_init 8 = .ok (.newarray .byte, 2) := by decide +kernel
theorem dX5_init_10 : decode cX5_init 10 = .ok (.putfield 9, 3) := by decide +kernel
theorem dX5_init_13 : decode cX5_init 13 = .ok (.return_, 1) := by decide +kernel
theorem dX8_init_0 : decode cX8_init 0 = .ok (.aload_n 0, 1) := by decide +kernel
theorem dX8_init_1 : decode cX8_init 1 = .ok (.invokespecial 5, 3) := by decide +kernel
theorem dX8_init_4 : decode cX8_init 4 = .ok (.return_, 1) := by decide +kernel
theorem dX0_init_0 : decode cX0_init 0 = .ok (.aload_n 0, 1) := by decide +kernel
theorem dX0_init_1 : decode cX0_init 1 = .ok (.invokespecial 3, 3) := by decide +kernel
theorem dX0_init_4 : decode cX0_init 4 = .ok (.aload_n 0, 1) := by decide +kernel
theorem dX0_init_5 : decode cX0_init 5 = .ok (.sipush 160, 3) := by decide +kernel
theorem dX0_init_8 : decode cX0_init 8 = .ok (.newarray .int, 2) := by decide +kernel
theorem dX0_init_10 : decode cX0_init 10 = .ok (.putfield 11, 3) := by decide +kernel
theorem dX0_init_13 : decode cX0_init 13 = .ok (.aload_n 0, 1) := by decide +kernel
theorem dX0_init_14 : decode cX0_init 14 = .ok (.iconst 0, 1) := by decide +kernel
theorem dX0_init_15 : decode cX0_init 15 = .ok (.putfield 15, 3) := by decide +kernel
theorem dX0_init_18 : decode cX0_init 18 = .ok (.aload_n 0, 1) := by decide +kernel
theorem dX0_init_19 : decode cX0_init 19 = .ok (.iconst 0, 1) := by decide +kernel
theorem dX0_init_20 : decode cX0_init 20 = .ok (.putfield 19, 3) := by decide +kernel
theorem dX0_init_23 : decode cX0_init 23 = .ok (.return_, 1) := by decide +kernel
theorem dX9_init_0 : decode cX9_init 0 = .ok (.aload_n 0, 1) := by decide +kernel
theorem dX9_init_1 : decode cX9_init 1 = .ok (.invokespecial 3, 3) := by decide +kernel
theorem dX9_init_4 : decode cX9_init 4 = .ok (.aload_n 0, 1) := by decide +kernel
theorem dX9_init_5 : decode cX9_init 5 = .ok (.bipush 40, 2) := by decide +kernel
theorem dX9_init_7 : decode cX9_init 7 = .ok (.newarray .int, 2) := by decide +kernel
theorem dX9_init_9 : decode cX9_init 9 = .ok (.putfield 11, 3) := by decide +kernel
theorem dX9_init_12 : decode cX9_init 12 = .ok (.aload_n 0, 1) := by decide +kernel
theorem dX9_init_13 : decode cX9_init 13 = .ok (.iconst 0, 1) := by decide +kernel
theorem dX9_init_14 : decode cX9_init 14 = .ok (.putfield 15, 3) := by decide +kernel
theorem dX9_init_17 : decode cX9_init 17 = .ok (.aload_n 0, 1) := by decide +kernel
theorem dX9_init_18 : decode cX9_init 18 = .ok (.iconst 0, 1) := by decide +kernel
theorem dX9_init_19 : decode cX9_init 19 = .ok (.putfield 19, 3) := by decide +kernel
theorem dX9_init_22 : decode cX9_init 22 = .ok (.return_, 1) := by decide +kernel
theorem dX6_init_0 : decode cX6_init 0 = .ok (.aload_n 0, 1) := by decide +kernel
theorem dX6_init_1 : decode cX6_init 1 = .ok (.invokespecial 3, 3) := by decide +kernel
theorem dX6_init_4 : decode cX6_init 4 = .ok (.aload_n 0, 1) := by decide +kernel
theorem dX6_init_5 : decode cX6_init 5 = .ok (.bipush 36, 2) := by decide +kernel
theorem dX6_init_7 : decode cX6_init 7 = .ok (.newarray .int, 2) := by decide +kernel
theorem dX6_init_9 : decode cX6_init 9 = .ok (.putfield 9, 3) := by decide +kernel
theorem dX6_init_12 : decode cX6_init 12 = .ok (.aload_n 0, 1) := by decide +kernel
theorem dX6_init_13 : decode cX6_init 13 = .ok (.bipush 36, 2) := by decide +kernel
theorem dX6_init_15 : decode cX6_init 15 = .ok (.newarray .int, 2) := by decide +kernel
theorem dX6_init_17 : decode cX6_init 17 = .ok (.putfield 15, 3) := by decide +kernel
theorem dX6_init_20 : decode cX6_init 20 = .ok (.aload_n 0, 1) := by decide +kernel
theorem dX6_init_21 : decode cX6_init 21 = .ok (.iconst 0, 1) := by decide +kernel
theorem dX6_init_22 : decode cX6_init 22 = .ok (.putfield 18, 3) := by decide +kernel
theorem dX6_init_25 : decode cX6_init 25 = .ok (.aload_n 0, 1) := by decide +kernel
theorem dX6_init_26 : decode cX6_init 26 = .ok (.iconst (-1), 1) := by decide +kernel
theorem dX6_init_27 : decode cX6_init 27 = .ok (.putfield 22, 3) := by decide +kernel
theorem dX6_init_30 : decode cX6_init 30 = .ok (.return_, 1) := by decide +kernel
theorem dX4_init_0 : decode cX4_init 0 = .ok (.aload_n 0, 1) := by decide +kernel
theorem dX4_init_1 : decode cX4_init 1 = .ok (.invokespecial 3, 3) := by decide +kernel
theorem dX4_init_4 : decode cX4_init 4 = .ok (.aload_n 0, 1) := by decide +kernel
theorem dX4_init_5 : decode cX4_init 5 = .ok (.iconst 3, 1) := by decide +kernel
theorem dX4_init_6 : decode cX4_init 6 = .ok (.newarray .int, 2) := by decide +kernel
theorem dX4_init_8 : decode cX4_init 8 = .ok (.putfield 11, 3) := by decide +kernel
theorem dX4_init_11 : decode cX4_init 11 = .ok (.aload_n 0, 1) := by decide +kernel
theorem dX4_init_12 : decode cX4_init 12 = .ok (.iconst 3, 1) := by decide +kernel
theorem dX4_init_13 : decode cX4_init 13 = .ok (.newarray .int, 2) := by decide +kernel
theorem dX4_init_15 : decode cX4_init 15 = .ok (.putfield 15, 3) := by decide +kernel
theorem dX4_init_18 : decode cX4_init 18 = .ok (.aload_n 0, 1) := by decide +kernel
theorem dX4_init_19 : decode cX4_init 19 = .ok (.iconst 0, 1) := by decide +kernel
theorem dX4_init_20 : decode cX4_init 20 = .ok (.putfield 18, 3) := by decide +kernel
theorem dX4_init_23 : decode cX4_init 23 = .ok (.return_, 1) := by decide +kernel
theorem dX10_init_0 : decode cX10_init 0 = .ok (.aload_n 0, 1) := by decide +kernel
theorem dX10_init_1 : decode cX10_init 1 = .ok (.invokespecial 3, 3) := by decide +kernel
theorem dX10_init_4 : decode cX10_init 4 = .ok (.aload_n 0, 1) := by decide +kernel
theorem dX10_init_5 : decode cX10_init 5 = .ok (.lconst 0, 1) := by decide +kernel
theorem dX10_init_6 : decode cX10_init 6 = .ok (.putfield 9, 3) := by decide +kernel
theorem dX10_init_9 : decode cX10_init 9 = .ok (.aload_n 0, 1) := by decide +kernel
theorem dX10_init_10 : decode cX10_init 10 = .ok (.iconst (-1), 1) := by decide +kernel
theorem dX10_init_11 : decode cX10_init 11 = .ok (.putfield 15, 3) := by decide +kernel
theorem dX10_init_14 : decode cX10_init 14 = .ok (.return_, 1) := by decide +kernel
theorem dX1_init_0 : decode cX1_init 0 = .ok (.aload_n 0, 1) := by decide +kernel
theorem dX1_init_1 : decode cX1_init 1 = .ok (.invokespecial 3, 3) := by decide +kernel
theorem dX1_init_4 : decode cX1_init 4 = .ok (.return_, 1) := by decide +kernel
set_option maxRecDepth 100000 in
theorem ggX7_init_X7_empty : GoodIn wsX7_init wsX7_empty := goodIn_r _ [19, 20, 21, 22, 23, 24, 25, 26, 27, 28, 29, 5, 30, 31, 32, 33, 34, 35, 36, 37, 38, 39, 40, 41, 42, 43, 44, 45, 46, 47, 48] rfl (by decide +kernel)
set_option maxRecDepth 100000 in
theorem gX7_init_X7_empty : GoodIn wsX7_init (wsV RX7 40 RX7 yX7_empty wsX7_empty) := goodIn_app (goodIn_of _ (by decide +kernel)) ggX7_init_X7_empty
def hd0f : Nat → Nat := hdN s0 (fun _ => 0)
theorem hd0f_ok {LN BN : Nat → Int64} : HCl hd0f 0 0 LN BN := ⟨rfl, rfl, fun k hk => absurd hk (Nat.not_lt_zero k), fun k hk => absurd hk (Nat.not_lt_zero k)⟩
theorem hd0f_m {f g : Nat → Int32} {gn : Nat → Int64} (h : MSr s0 f) (e : ∀ j, j < 67 → g j = f j) : HMo hd0f g gn := HMo_new h (MSn_0 gn) SW_0 e (fun _ _ => rfl)
theorem Q7_of {ky : Nat → ClassId} {a : Nat} {hd : Nat → Nat} {w : va_W} (h : Q7h ky a hd w) : Q7 ky a w := by
  obtain ⟨a0, a1, a2, a3, a4, a5, a6, a7, a8, a9, a10, a11, a12, a13, a14, a15, a16, a17, a18, a19, a20, a21, a22, a23, a24, a25, a26, a27, rfl, b0, b1, b2, b3, b4, b5, b6⟩ := h
  exact ⟨a0, a1, a2, a3, a4, a5, a6, a7, a8, a9, a10, a11, a12, a13, a14, a15, a16, a17, a18, a19, a20, a21, a22, a23, a24, a25, a26, a27, rfl, b0, b1, b2, b3, b4, b5⟩
theorem z_TC : TC (fun _ => 0) (fun _ => 0) := fun j _ => ⟨by show 0 < 256; decide, Or.inl ia_0⟩
theorem z_TM : TM (fun _ => 0) (fun _ => 0) := fun j _ => ⟨by show 0 < 256; decide, by show (0 : Int32) = nI 0; decide⟩
set_option maxRecDepth 20000 in
theorem lf_s_empty0_1 (k7 : Nat) (n11 : Nat) (j9 : k7 ≤ 36) (hm13 : 36 - k7 < n11 + 1) (c14 : k7 < 36) : (k7 + 1) ≤ 36 := by
  try simp only [ia_lt, ia_le, ia_eq, ia_m1, ia_0, ia_1, ne_eq, true_and, and_true, false_and, and_false, or_false, false_or, or_true, true_or, not_true_eq_false, not_false_eq_true] at *
  all_goals omega
set_option maxRecDepth 20000 in
theorem lf_s_empty0_2 (k7 : Nat) (n11 : Nat) (j9 : k7 ≤ 36) (hm13 : 36 - k7 < n11 + 1) (c14 : k7 < 36) : 36 - (k7 + 1) < n11 := by
  try simp only [ia_lt, ia_le, ia_eq, ia_m1, ia_0, ia_1, ne_eq, true_and, and_true, false_and, and_false, or_false, false_or, or_true, true_or, not_true_eq_false, not_false_eq_true] at *
  all_goals omega
set_option maxRecDepth 20000 in
theorem lf_s_empty0_3   : 0 ≤ 36 := by
  try simp only [ia_lt, ia_le, ia_eq, ia_m1, ia_0, ia_1, ne_eq, true_and, and_true, false_and, and_false, or_false, false_or, or_true, true_or, not_true_eq_false, not_false_eq_true] at *
  all_goals omega
set_option maxHeartbeats 4000000 in
set_option maxRecDepth 100000 in
theorem c_s_empty0 (l : Launch) (dC : Nat → ClassId) (dI : Nat → Nat → Nat) (ky : Nat → ClassId) (sz : Nat) (a : Nat) (wide : Int32) (high : Int32) (heat : Int32) (cools : Int32) (skinHeat : Int32) (today : Int32) (stirs : Int32) (steps : Int32) (lumps : Int32) (boats : Int32) (thickness : Nat) (lumpNames : Nat) (lumpCells : Nat) (boatNames : Nat) (boatCells : Nat) (loads : Nat) (spoons : Nat) (spoonsLeft : Nat) (depths : Nat) (thicknessF : Nat → Int32)  : Met l yX7_empty wsX7_empty ({ frames := 0, cells := 0, slots := 0, locals := 0 }) (PcU dC dI ky [.ref a] [(a, .inr (7, [.int wide, .int high, .int heat, .int cools, .int skinHeat, .int today, .int stirs, .int steps, .int lumps, .int boats, .ref thickness, .ref lumpNames, .ref lumpCells, .ref boatNames, .ref boatCells, .ref loads, .ref spoons, .ref spoonsLeft, .ref depths])), (thickness, .inl (ky 0, 36, .inl thicknessF))] sz) (va_Qv (fun (u : Int32 × Int32 × Int32 × Int32 × Int32 × Int32 × Int32 × Int32 × Int32 × Int32 × (Nat → Int32)) => match u with | (wideG, highG, heatG, coolsG, skinHeatG, todayG, stirsG, stepsG, lumpsG, boatsG, thicknessG) => (wideG = nI 4) ∧ (highG = nI 4) ∧ (lumpsG = nI 0) ∧ (boatsG = nI 0) ∧ (coolsG = nI 1) ∧ (skinHeatG = nI 3)) (BU dC dI ky (fun (u : Int32 × Int32 × Int32 × Int32 × Int32 × Int32 × Int32 × Int32 × Int32 × Int32 × (Nat → Int32)) => match u with | (wideG, highG, heatG, coolsG, skinHeatG, todayG, stirsG, stepsG, lumpsG, boatsG, thicknessG) => [(a, .inr (7, [.int wideG, .int highG, .int heatG, .int coolsG, .int skinHeatG, .int todayG, .int stirsG, .int stepsG, .int lumpsG, .int boatsG, .ref thickness, .ref lumpNames, .ref lumpCells, .ref boatNames, .ref boatCells, .ref loads, .ref spoons, .ref spoonsLeft, .ref depths])), (thickness, .inl (ky 0, 36, .inl thicknessG))]) (va_A [(a, .inr (7, [.int wide, .int high, .int heat, .int cools, .int skinHeat, .int today, .int stirs, .int steps, .int lumps, .int boats, .ref thickness, .ref lumpNames, .ref lumpCells, .ref boatNames, .ref boatCells, .ref loads, .ref spoons, .ref spoonsLeft, .ref depths])), (thickness, .inl (ky 0, 36, .inl thicknessF))] sz)) (va_A [(a, .inr (7, [.int wide, .int high, .int heat, .int cools, .int skinHeat, .int today, .int stirs, .int steps, .int lumps, .int boats, .ref thickness, .ref lumpNames, .ref lumpCells, .ref boatNames, .ref boatCells, .ref loads, .ref spoons, .ref spoonsLeft, .ref depths])), (thickness, .inl (ky 0, 36, .inl thicknessF))] sz)) 0 0 (va_A [(a, .inr (7, [.int wide, .int high, .int heat, .int cools, .int skinHeat, .int today, .int stirs, .int steps, .int lumps, .int boats, .ref thickness, .ref lumpNames, .ref lumpCells, .ref boatNames, .ref boatCells, .ref loads, .ref spoons, .ref spoonsLeft, .ref depths])), (thickness, .inl (ky 0, 36, .inl thicknessF))] sz) := by
  refine Met.ofW (cc := cX7_empty) (maxL := 2) (ret := none) (by decide) rfl ?_
  intro p e s m args below meth c s₁ B hml hv
  obtain ⟨rfl, hsz, hP, hK, hD0⟩ := hv
  have hx := B.exec
  have hb := B.bytes
  have hr := B.returns
  have hts := atoms_spec (ws := wsX7_empty) B.pre
  have hown : s.vm.findClass RX7 = some m.cls := findClass_of_methodNamed B.named
  have hlocks := B.notSynchronized
  have hin7 : ∀ w ∈ u_ws RX7 TX7 19, w ∈ wsX7_empty := by decide +kernel
  subst hsz
  have hD := hD0.self (sz := s.heap.size)
  generalize hAe : va_A [(a, .inr (7, [.int wide, .int high, .int heat, .int cools, .int skinHeat, .int today, .int stirs, .int steps, .int lumps, .int boats, .ref thickness, .ref lumpNames, .ref lumpCells, .ref boatNames, .ref boatCells, .ref loads, .ref spoons, .ref spoonsLeft, .ref depths])), (thickness, .inl (ky 0, 36, .inl thicknessF))] s.heap.size = A at hD ⊢
  have hA : ∀ q : Nat, s.heap.size ≤ q → A q := fun q h => by rw [← hAe]; exact Or.inr h
  have hS : va_S A s.heap s.heap [] := va_S.rf
  have hl := lv_entry ([.ref a]) (n := 2) (Nat.le_of_ble_eq_true rfl)
  rw [lg_entry_eq]
  generalize (lg_sl ([.ref a]) ++ List.replicate (2 - (lg_sl ([.ref a])).length) Slot.unset).toArray = ls at hl ⊢
  have hl : lv_has ls 2 [(0, .ref a)] := hl
  refine q_name (fun Q hQ => ?_)
  generalize ([.ref a] : List Value).toArray = args at hts hQ ⊢
  refine lv_aload_n hx hb dX7_empty_0 rfl (lv_at hl 0 rfl) ?_
  refine lv_iconst (v := nI 4) hx hb dX7_empty_1 (by decide) ?_
  refine va_put (D := (dC, dI)) (ci := 7) (v := .int (nI 4)) (ty := .int) (C := RX7) (T := TX7) (N := 19) hx hb hts hin7 tyX7 tyX7_ok nmX7 hown hK hP hD hS 0 rfl rfl 0 (by decide) (hts (.fieldLink RX7 43 "PorridgeSea$Sea" "wide" "I") (List.mem_of_getElem? (i := 1) rfl)) (fun _ h9 => h9) rfl (by decide +kernel) rfl rfl (Nat.le_of_ble_eq_true rfl) dX7_empty_2 (fun H locs hP hD hS => ?_)
  have hP : va_P (dC, dI) vwCl [(a, .inr (7, [.int (nI 4), .int high, .int heat, .int cools, .int skinHeat, .int today, .int stirs, .int steps, .int lumps, .int boats, .ref thickness, .ref lumpNames, .ref lumpCells, .ref boatNames, .ref boatCells, .ref loads, .ref spoons, .ref spoonsLeft, .ref depths])), (thickness, .inl (ky 0, 36, .inl thicknessF))] H := hP
  have hD : va_D A [(a, .inr (7, [.int (nI 4), .int high, .int heat, .int cools, .int skinHeat, .int today, .int stirs, .int steps, .int lumps, .int boats, .ref thickness, .ref lumpNames, .ref lumpCells, .ref boatNames, .ref boatCells, .ref loads, .ref spoons, .ref spoonsLeft, .ref depths])), (thickness, .inl (ky 0, 36, .inl thicknessF))] := hD
  refine lv_aload_n hx hb dX7_empty_5 rfl (lv_at hl 0 rfl) ?_
  refine lv_iconst (v := nI 4) hx hb dX7_empty_6 (by decide) ?_
  refine va_put (D := (dC, dI)) (ci := 7) (v := .int (nI 4)) (ty := .int) (C := RX7) (T := TX7) (N := 19) hx hb hts hin7 tyX7 tyX7_ok nmX7 hown hK hP hD hS 0 rfl rfl 1 (by decide) (hts (.fieldLink RX7 47 "PorridgeSea$Sea" "high" "I") (List.mem_of_getElem? (i := 2) rfl)) (fun _ h9 => h9) rfl (by decide +kernel) rfl rfl (Nat.le_of_ble_eq_true rfl) dX7_empty_7 (fun H locs hP hD hS => ?_)
  have hP : va_P (dC, dI) vwCl [(a, .inr (7, [.int (nI 4), .int (nI 4), .int heat, .int cools, .int skinHeat, .int today, .int stirs, .int steps, .int lumps, .int boats, .ref thickness, .ref lumpNames, .ref lumpCells, .ref boatNames, .ref boatCells, .ref loads, .ref spoons, .ref spoonsLeft, .ref depths])), (thickness, .inl (ky 0, 36, .inl thicknessF))] H := hP
  have hD : va_D A [(a, .inr (7, [.int (nI 4), .int (nI 4), .int heat, .int cools, .int skinHeat, .int today, .int stirs, .int steps, .int lumps, .int boats, .ref thickness, .ref lumpNames, .ref lumpCells, .ref boatNames, .ref boatCells, .ref loads, .ref spoons, .ref spoonsLeft, .ref depths])), (thickness, .inl (ky 0, 36, .inl thicknessF))] := hD
  refine lv_aload_n hx hb dX7_empty_10 rfl (lv_at hl 0 rfl) ?_
  refine lv_bipush (v := nI 10) hx hb dX7_empty_11 (by decide) ?_
  refine va_put (D := (dC, dI)) (ci := 7) (v := .int (nI 10)) (ty := .int) (C := RX7) (T := TX7) (N := 19) hx hb hts hin7 tyX7 tyX7_ok nmX7 hown hK hP hD hS 0 rfl rfl 2 (by decide) (hts (.fieldLink RX7 50 "PorridgeSea$Sea" "heat" "I") (List.mem_of_getElem? (i := 3) rfl)) (fun _ h9 => h9) rfl (by decide +kernel) rfl rfl (Nat.le_of_ble_eq_true rfl) dX7_empty_13 (fun H locs hP hD hS => ?_)
  have hP : va_P (dC, dI) vwCl [(a, .inr (7, [.int (nI 4), .int (nI 4), .int (nI 10), .int cools, .int skinHeat, .int today, .int stirs, .int steps, .int lumps, .int boats, .ref thickness, .ref lumpNames, .ref lumpCells, .ref boatNames, .ref boatCells, .ref loads, .ref spoons, .ref spoonsLeft, .ref depths])), (thickness, .inl (ky 0, 36, .inl thicknessF))] H := hP
  have hD : va_D A [(a, .inr (7, [.int (nI 4), .int (nI 4), .int (nI 10), .int cools, .int skinHeat, .int today, .int stirs, .int steps, .int lumps, .int boats, .ref thickness, .ref lumpNames, .ref lumpCells, .ref boatNames, .ref boatCells, .ref loads, .ref spoons, .ref spoonsLeft, .ref depths])), (thickness, .inl (ky 0, 36, .inl thicknessF))] := hD
  refine lv_aload_n hx hb dX7_empty_16 rfl (lv_at hl 0 rfl) ?_
  refine lv_iconst (v := nI 1) hx hb dX7_empty_17 (by decide) ?_
  refine va_put (D := (dC, dI)) (ci := 7) (v := .int (nI 1)) (ty := .int) (C := RX7) (T := TX7) (N := 19) hx hb hts hin7 tyX7 tyX7_ok nmX7 hown hK hP hD hS 0 rfl rfl 3 (by decide) (hts (.fieldLink RX7 53 "PorridgeSea$Sea" "cools" "I") (List.mem_of_getElem? (i := 4) rfl)) (fun _ h9 => h9) rfl (by decide +kernel) rfl rfl (Nat.le_of_ble_eq_true rfl) dX7_empty_18 (fun H locs hP hD hS => ?_)
  have hP : va_P (dC, dI) vwCl [(a, .inr (7, [.int (nI 4), .int (nI 4), .int (nI 10), .int (nI 1), .int skinHeat, .int today, .int stirs, .int steps, .int lumps, .int boats, .ref thickness, .ref lumpNames, .ref lumpCells, .ref boatNames, .ref boatCells, .ref loads, .ref spoons, .ref spoonsLeft, .ref depths])), (thickness, .inl (ky 0, 36, .inl thicknessF))] H := hP
  have hD : va_D A [(a, .inr (7, [.int (nI 4), .int (nI 4), .int (nI 10), .int (nI 1), .int skinHeat, .int today, .int stirs, .int steps, .int lumps, .int boats, .ref thickness, .ref lumpNames, .ref lumpCells, .ref boatNames, .ref boatCells, .ref loads, .ref spoons, .ref spoonsLeft, .ref depths])), (thickness, .inl (ky 0, 36, .inl thicknessF))] := hD
  refine lv_aload_n hx hb dX7_empty_21 rfl (lv_at hl 0 rfl) ?_
  refine lv_iconst (v := nI 3) hx hb dX7_empty_22 (by decide) ?_
  refine va_put (D := (dC, dI)) (ci := 7) (v := .int (nI 3)) (ty := .int) (C := RX7) (T := TX7) (N := 19) hx hb hts hin7 tyX7 tyX7_ok nmX7 hown hK hP hD hS 0 rfl rfl 4 (by decide) (hts (.fieldLink RX7 56 "PorridgeSea$Sea" "skinHeat" "I") (List.mem_of_getElem? (i := 5) rfl)) (fun _ h9 => h9) rfl (by decide +kernel) rfl rfl (Nat.le_of_ble_eq_true rfl) dX7_empty_23 (fun H locs hP hD hS => ?_)
  have hP : va_P (dC, dI) vwCl [(a, .inr (7, [.int (nI 4), .int (nI 4), .int (nI 10), .int (nI 1), .int (nI 3), .int today, .int stirs, .int steps, .int lumps, .int boats, .ref thickness, .ref lumpNames, .ref lumpCells, .ref boatNames, .ref boatCells, .ref loads, .ref spoons, .ref spoonsLeft, .ref depths])), (thickness, .inl (ky 0, 36, .inl thicknessF))] H := hP
  have hD : va_D A [(a, .inr (7, [.int (nI 4), .int (nI 4), .int (nI 10), .int (nI 1), .int (nI 3), .int today, .int stirs, .int steps, .int lumps, .int boats, .ref thickness, .ref lumpNames, .ref lumpCells, .ref boatNames, .ref boatCells, .ref loads, .ref spoons, .ref spoonsLeft, .ref depths])), (thickness, .inl (ky 0, 36, .inl thicknessF))] := hD
  refine lv_aload_n hx hb dX7_empty_26 rfl (lv_at hl 0 rfl) ?_
  refine lv_iconst (v := nI 0) hx hb dX7_empty_27 (by decide) ?_
  refine va_put (D := (dC, dI)) (ci := 7) (v := .int (nI 0)) (ty := .int) (C := RX7) (T := TX7) (N := 19) hx hb hts hin7 tyX7 tyX7_ok nmX7 hown hK hP hD hS 0 rfl rfl 5 (by decide) (hts (.fieldLink RX7 59 "PorridgeSea$Sea" "today" "I") (List.mem_of_getElem? (i := 6) rfl)) (fun _ h9 => h9) rfl (by decide +kernel) rfl rfl (Nat.le_of_ble_eq_true rfl) dX7_empty_28 (fun H locs hP hD hS => ?_)
  have hP : va_P (dC, dI) vwCl [(a, .inr (7, [.int (nI 4), .int (nI 4), .int (nI 10), .int (nI 1), .int (nI 3), .int (nI 0), .int stirs, .int steps, .int lumps, .int boats, .ref thickness, .ref lumpNames, .ref lumpCells, .ref boatNames, .ref boatCells, .ref loads, .ref spoons, .ref spoonsLeft, .ref depths])), (thickness, .inl (ky 0, 36, .inl thicknessF))] H := hP
  have hD : va_D A [(a, .inr (7, [.int (nI 4), .int (nI 4), .int (nI 10), .int (nI 1), .int (nI 3), .int (nI 0), .int stirs, .int steps, .int lumps, .int boats, .ref thickness, .ref lumpNames, .ref lumpCells, .ref boatNames, .ref boatCells, .ref loads, .ref spoons, .ref spoonsLeft, .ref depths])), (thickness, .inl (ky 0, 36, .inl thicknessF))] := hD
  refine lv_aload_n hx hb dX7_empty_31 rfl (lv_at hl 0 rfl) ?_
  refine lv_iconst (v := nI 0) hx hb dX7_empty_32 (by decide) ?_
  refine va_put (D := (dC, dI)) (ci := 7) (v := .int (nI 0)) (ty := .int) (C := RX7) (T := TX7) (N := 19) hx hb hts hin7 tyX7 tyX7_ok nmX7 hown hK hP hD hS 0 rfl rfl 6 (by decide) (hts (.fieldLink RX7 62 "PorridgeSea$Sea" "stirs" "I") (List.mem_of_getElem? (i := 7) rfl)) (fun _ h9 => h9) rfl (by decide +kernel) rfl rfl (Nat.le_of_ble_eq_true rfl) dX7_empty_33 (fun H locs hP hD hS => ?_)
  have hP : va_P (dC, dI) vwCl [(a, .inr (7, [.int (nI 4), .int (nI 4), .int (nI 10), .int (nI 1), .int (nI 3), .int (nI 0), .int (nI 0), .int steps, .int lumps, .int boats, .ref thickness, .ref lumpNames, .ref lumpCells, .ref boatNames, .ref boatCells, .ref loads, .ref spoons, .ref spoonsLeft, .ref depths])), (thickness, .inl (ky 0, 36, .inl thicknessF))] H := hP
  have hD : va_D A [(a, .inr (7, [.int (nI 4), .int (nI 4), .int (nI 10), .int (nI 1), .int (nI 3), .int (nI 0), .int (nI 0), .int steps, .int lumps, .int boats, .ref thickness, .ref lumpNames, .ref lumpCells, .ref boatNames, .ref boatCells, .ref loads, .ref spoons, .ref spoonsLeft, .ref depths])), (thickness, .inl (ky 0, 36, .inl thicknessF))] := hD
  refine lv_aload_n hx hb dX7_empty_36 rfl (lv_at hl 0 rfl) ?_
  refine lv_iconst (v := nI 0) hx hb dX7_empty_37 (by decide) ?_
  refine va_put (D := (dC, dI)) (ci := 7) (v := .int (nI 0)) (ty := .int) (C := RX7) (T := TX7) (N := 19) hx hb hts hin7 tyX7 tyX7_ok nmX7 hown hK hP hD hS 0 rfl rfl 7 (by decide) (hts (.fieldLink RX7 65 "PorridgeSea$Sea" "steps" "I") (List.mem_of_getElem? (i := 8) rfl)) (fun _ h9 => h9) rfl (by decide +kernel) rfl rfl (Nat.le_of_ble_eq_true rfl) dX7_empty_38 (fun H locs hP hD hS => ?_)
  have hP : va_P (dC, dI) vwCl [(a, .inr (7, [.int (nI 4), .int (nI 4), .int (nI 10), .int (nI 1), .int (nI 3), .int (nI 0), .int (nI 0), .int (nI 0), .int lumps, .int boats, .ref thickness, .ref lumpNames, .ref lumpCells, .ref boatNames, .ref boatCells, .ref loads, .ref spoons, .ref spoonsLeft, .ref depths])), (thickness, .inl (ky 0, 36, .inl thicknessF))] H := hP
  have hD : va_D A [(a, .inr (7, [.int (nI 4), .int (nI 4), .int (nI 10), .int (nI 1), .int (nI 3), .int (nI 0), .int (nI 0), .int (nI 0), .int lumps, .int boats, .ref thickness, .ref lumpNames, .ref lumpCells, .ref boatNames, .ref boatCells, .ref loads, .ref spoons, .ref spoonsLeft, .ref depths])), (thickness, .inl (ky 0, 36, .inl thicknessF))] := hD
  refine lv_aload_n hx hb dX7_empty_41 rfl (lv_at hl 0 rfl) ?_
  refine lv_iconst (v := nI 0) hx hb dX7_empty_42 (by decide) ?_
  refine va_put (D := (dC, dI)) (ci := 7) (v := .int (nI 0)) (ty := .int) (C := RX7) (T := TX7) (N := 19) hx hb hts hin7 tyX7 tyX7_ok nmX7 hown hK hP hD hS 0 rfl rfl 8 (by decide) (hts (.fieldLink RX7 68 "PorridgeSea$Sea" "lumps" "I") (List.mem_of_getElem? (i := 9) rfl)) (fun _ h9 => h9) rfl (by decide +kernel) rfl rfl (Nat.le_of_ble_eq_true rfl) dX7_empty_43 (fun H locs hP hD hS => ?_)
  have hP : va_P (dC, dI) vwCl [(a, .inr (7, [.int (nI 4), .int (nI 4), .int (nI 10), .int (nI 1), .int (nI 3), .int (nI 0), .int (nI 0), .int (nI 0), .int (nI 0), .int boats, .ref thickness, .ref lumpNames, .ref lumpCells, .ref boatNames, .ref boatCells, .ref loads, .ref spoons, .ref spoonsLeft, .ref depths])), (thickness, .inl (ky 0, 36, .inl thicknessF))] H := hP
  have hD : va_D A [(a, .inr (7, [.int (nI 4), .int (nI 4), .int (nI 10), .int (nI 1), .int (nI 3), .int (nI 0), .int (nI 0), .int (nI 0), .int (nI 0), .int boats, .ref thickness, .ref lumpNames, .ref lumpCells, .ref boatNames, .ref boatCells, .ref loads, .ref spoons, .ref spoonsLeft, .ref depths])), (thickness, .inl (ky 0, 36, .inl thicknessF))] := hD
  refine lv_aload_n hx hb dX7_empty_46 rfl (lv_at hl 0 rfl) ?_
  refine lv_iconst (v := nI 0) hx hb dX7_empty_47 (by decide) ?_
  refine va_put (D := (dC, dI)) (ci := 7) (v := .int (nI 0)) (ty := .int) (C := RX7) (T := TX7) (N := 19) hx hb hts hin7 tyX7 tyX7_ok nmX7 hown hK hP hD hS 0 rfl rfl 9 (by decide) (hts (.fieldLink RX7 71 "PorridgeSea$Sea" "boats" "I") (List.mem_of_getElem? (i := 10) rfl)) (fun _ h9 => h9) rfl (by decide +kernel) rfl rfl (Nat.le_of_ble_eq_true rfl) dX7_empty_48 (fun H locs hP hD hS => ?_)
  have hP : va_P (dC, dI) vwCl [(a, .inr (7, [.int (nI 4), .int (nI 4), .int (nI 10), .int (nI 1), .int (nI 3), .int (nI 0), .int (nI 0), .int (nI 0), .int (nI 0), .int (nI 0), .ref thickness, .ref lumpNames, .ref lumpCells, .ref boatNames, .ref boatCells, .ref loads, .ref spoons, .ref spoonsLeft, .ref depths])), (thickness, .inl (ky 0, 36, .inl thicknessF))] H := hP
  have hD : va_D A [(a, .inr (7, [.int (nI 4), .int (nI 4), .int (nI 10), .int (nI 1), .int (nI 3), .int (nI 0), .int (nI 0), .int (nI 0), .int (nI 0), .int (nI 0), .ref thickness, .ref lumpNames, .ref lumpCells, .ref boatNames, .ref boatCells, .ref loads, .ref spoons, .ref spoonsLeft, .ref depths])), (thickness, .inl (ky 0, 36, .inl thicknessF))] := hD
  refine lv_iconst (v := nI 0) hx hb dX7_empty_51 (by decide) ?_
  refine lv_istore_n (lv' := [(1, .int (nI 0)), (0, .ref a)]) hx hb dX7_empty_52 rfl hl (by decide) rfl (fun ls hl => ?_)
  have hL10 : ∀ (n11 : Nat) (k7 : Nat) (f8 : Nat → Int32), (k7 ≤ 36) → 36 - k7 < n11 → ∀ (H : Heap) (locs : List Loc) (ls : Array Slot), va_P (dC, dI) vwCl [(a, .inr (7, [.int (nI 4), .int (nI 4), .int (nI 10), .int (nI 1), .int (nI 3), .int (nI 0), .int (nI 0), .int (nI 0), .int (nI 0), .int (nI 0), .ref thickness, .ref lumpNames, .ref lumpCells, .ref boatNames, .ref boatCells, .ref loads, .ref spoons, .ref spoonsLeft, .ref depths])), (thickness, .inl (ky 0, 36, .inl f8))] H → va_D A [(a, .inr (7, [.int (nI 4), .int (nI 4), .int (nI 10), .int (nI 1), .int (nI 3), .int (nI 0), .int (nI 0), .int (nI 0), .int (nI 0), .int (nI 0), .ref thickness, .ref lumpNames, .ref lumpCells, .ref boatNames, .ref boatCells, .ref loads, .ref spoons, .ref spoonsLeft, .ref depths])), (thickness, .inl (ky 0, 36, .inl f8))] → va_S A s.heap H locs → lv_has ls 2 [(1, .int (nI k7)), (0, .ref a)] → W p l e (headSpec wsX7_empty ({ frames := 0, cells := 0, slots := 0, locals := 0 })).room s m args below meth c H locs 0 0 Q (F0 m 53 ls []) := by
    intro n11
    induction n11 with
    | zero => intro k7 f8 _ h9; exact absurd h9 (Nat.not_lt_zero _)
    | succ n11 ih12 =>
      intro k7 f8 j9 hm13 H locs ls hP hD hS hl
      refine lv_iload_n hx hb dX7_empty_53 rfl (lv_at hl 0 rfl) ?_
      refine lv_bipush (v := nI 36) hx hb dX7_empty_54 (by decide) ?_
      refine n_icmp_ge (x := k7) (y := 36) (tgt := 72) hx hb (by omega) (by omega) dX7_empty_56 (by decide) (fun c14 => ?_) (fun c14 => ?_)
      · rw [hQ]
        exact W.vret hx hb hr (fun t9 ht9 hW9 => ⟨⟨(nI 4, nI 4, nI 10, nI 1, nI 3, nI 0, nI 0, nI 0, nI 0, nI 0, f8), rfl, ⟨rfl, rfl, rfl, rfl, rfl, rfl⟩, by rw [ht9]; exact hP, va_K.moved hW9.alike hK, hD⟩, hS.F ht9⟩) hS.2.2 dX7_empty_72
      · refine lv_aload_n hx hb dX7_empty_59 rfl (lv_at hl 1 rfl) ?_
        refine va_get (D := (dC, dI)) (ci := 7) (v := .ref thickness) (C := RX7) (T := TX7) (N := 19) hx hb hts hin7 hown hK hP 0 rfl rfl 10 (by decide) (hts (.fieldLink RX7 9 "PorridgeSea$Sea" "thickness" "[I") (List.mem_of_getElem? (i := 11) rfl)) (fun _ h9 => h9) rfl dX7_empty_60 ?_
        refine lv_iload_n hx hb dX7_empty_63 rfl (lv_at hl 0 rfl) ?_
        refine lv_iconst (v := nI 0) hx hb dX7_empty_64 (by decide) ?_
        refine r_iast (x := (nI 0)) hx hb hK hP hD hS 1 rfl k7 (by omega) (by decide) dX7_empty_65 (fun H locs hP hD hS => ?_)
        obtain ⟨g15, e16⟩ : ∃ z9, z9 = upd f8 k7 (nI 0) := ⟨_, rfl⟩
        rw [← e16] at hP hD
        have hP : va_P (dC, dI) vwCl [(a, .inr (7, [.int (nI 4), .int (nI 4), .int (nI 10), .int (nI 1), .int (nI 3), .int (nI 0), .int (nI 0), .int (nI 0), .int (nI 0), .int (nI 0), .ref thickness, .ref lumpNames, .ref lumpCells, .ref boatNames, .ref boatCells, .ref loads, .ref spoons, .ref spoonsLeft, .ref depths])), (thickness, .inl (ky 0, 36, .inl g15))] H := hP
        have hD : va_D A [(a, .inr (7, [.int (nI 4), .int (nI 4), .int (nI 10), .int (nI 1), .int (nI 3), .int (nI 0), .int (nI 0), .int (nI 0), .int (nI 0), .int (nI 0), .ref thickness, .ref lumpNames, .ref lumpCells, .ref boatNames, .ref boatCells, .ref loads, .ref spoons, .ref spoonsLeft, .ref depths])), (thickness, .inl (ky 0, 36, .inl g15))] := hD
        refine lv_iinc (v := nI (k7 + 1)) (lv' := [(1, .int (nI (k7 + 1))), (0, .ref a)]) hx hb dX7_empty_66 hl (k := 0) rfl (show nI k7 + nI 1 = nI (k7 + 1) from nI_add _ _) (by decide) rfl (fun ls hl => ?_)
        refine lv_goto (tgt := 53) hx hb dX7_empty_69 (by decide) ?_
        exact ih12 (k7 + 1) g15 (lf_s_empty0_1 k7 n11 j9 hm13 c14) (lf_s_empty0_2 k7 n11 j9 hm13 c14) _ _ _ hP hD hS (lv_sub hl [0, 1] rfl)
  exact hL10 ((36 - 0) + 1) 0 thicknessF (lf_s_empty0_3) (Nat.lt_succ_self _) _ _ _ hP hD hS (lv_sub hl [0, 1] rfl)
set_option maxRecDepth 20000 in
theorem lf_i_Sea_1 (sea : Nat) (q1 : Nat) (q2 : Nat) (q3 : Nat) (q4 : Nat) (q5 : Nat) (q6 : Nat) (q7 : Nat) (q8 : Nat) (q9 : Nat) (wideG_12 : Int32) (highG_13 : Int32) (heatG_14 : Int32) (coolsG_15 : Int32) (skinHeatG_16 : Int32) (todayG_17 : Int32) (stirsG_18 : Int32) (stepsG_19 : Int32) (lumpsG_20 : Int32) (boatsG_21 : Int32) (thicknessG_22 : Nat → Int32) (p23 : wideG_12 = nI 4) (p24 : highG_13 = nI 4) (p25 : lumpsG_20 = nI 0) (p26 : boatsG_21 = nI 0) (p27 : coolsG_15 = nI 1) (p28 : skinHeatG_16 = nI 3) : wideG_12 = nI 4 := by
  have k_0 := ia_n 4 (by decide)
  have k_1 := ia_n 0 (by decide)
  have k_2 := ia_n 1 (by decide)
  have k_3 := ia_n 3 (by decide)
  simp only [ia_lt, ia_le, ia_eq, ia_m1, ia_0, ia_1, ne_eq, true_and, and_true, false_and, and_false, or_false, false_or, or_true, true_or, not_true_eq_false, not_false_eq_true] at *
  all_goals omega
set_option maxRecDepth 20000 in
theorem lf_i_Sea_2 (sea : Nat) (q1 : Nat) (q2 : Nat) (q3 : Nat) (q4 : Nat) (q5 : Nat) (q6 : Nat) (q7 : Nat) (q8 : Nat) (q9 : Nat) (wideG_12 : Int32) (highG_13 : Int32) (heatG_14 : Int32) (coolsG_15 : Int32) (skinHeatG_16 : Int32) (todayG_17 : Int32) (stirsG_18 : Int32) (stepsG_19 : Int32) (lumpsG_20 : Int32) (boatsG_21 : Int32) (thicknessG_22 : Nat → Int32) (p23 : wideG_12 = nI 4) (p24 : highG_13 = nI 4) (p25 : lumpsG_20 = nI 0) (p26 : boatsG_21 = nI 0) (p27 : coolsG_15 = nI 1) (p28 : skinHeatG_16 = nI 3) : highG_13 = nI 4 := by
  have k_0 := ia_n 4 (by decide)
  have k_1 := ia_n 0 (by decide)
  have k_2 := ia_n 1 (by decide)
  have k_3 := ia_n 3 (by decide)
  simp only [ia_lt, ia_le, ia_eq, ia_m1, ia_0, ia_1, ne_eq, true_and, and_true, false_and, and_false, or_false, false_or, or_true, true_or, not_true_eq_false, not_false_eq_true] at *
  all_goals omega
set_option maxRecDepth 20000 in
theorem lf_i_Sea_3 (sea : Nat) (q1 : Nat) (q2 : Nat) (q3 : Nat) (q4 : Nat) (q5 : Nat) (q6 : Nat) (q7 : Nat) (q8 : Nat) (q9 : Nat) (wideG_12 : Int32) (highG_13 : Int32) (heatG_14 : Int32) (coolsG_15 : Int32) (skinHeatG_16 : Int32) (todayG_17 : Int32) (stirsG_18 : Int32) (stepsG_19 : Int32) (lumpsG_20 : Int32) (boatsG_21 : Int32) (thicknessG_22 : Nat → Int32) (p23 : wideG_12 = nI 4) (p24 : highG_13 = nI 4) (p25 : lumpsG_20 = nI 0) (p26 : boatsG_21 = nI 0) (p27 : coolsG_15 = nI 1) (p28 : skinHeatG_16 = nI 3) : lumpsG_20 = nI 0 := by
  have k_0 := ia_n 4 (by decide)
  have k_1 := ia_n 0 (by decide)
  have k_2 := ia_n 1 (by decide)
  have k_3 := ia_n 3 (by decide)
  simp only [ia_lt, ia_le, ia_eq, ia_m1, ia_0, ia_1, ne_eq, true_and, and_true, false_and, and_false, or_false, false_or, or_true, true_or, not_true_eq_false, not_false_eq_true] at *
  all_goals omega
set_option maxRecDepth 20000 in
theorem lf_i_Sea_4 (sea : Nat) (q1 : Nat) (q2 : Nat) (q3 : Nat) (q4 : Nat) (q5 : Nat) (q6 : Nat) (q7 : Nat) (q8 : Nat) (q9 : Nat) (wideG_12 : Int32) (highG_13 : Int32) (heatG_14 : Int32) (coolsG_15 : Int32) (skinHeatG_16 : Int32) (todayG_17 : Int32) (stirsG_18 : Int32) (stepsG_19 : Int32) (lumpsG_20 : Int32) (boatsG_21 : Int32) (thicknessG_22 : Nat → Int32) (p23 : wideG_12 = nI 4) (p24 : highG_13 = nI 4) (p25 : lumpsG_20 = nI 0) (p26 : boatsG_21 = nI 0) (p27 : coolsG_15 = nI 1) (p28 : skinHeatG_16 = nI 3) : boatsG_21 = nI 0 := by
  have k_0 := ia_n 4 (by decide)
  have k_1 := ia_n 0 (by decide)
  have k_2 := ia_n 1 (by decide)
  have k_3 := ia_n 3 (by decide)
  simp only [ia_lt, ia_le, ia_eq, ia_m1, ia_0, ia_1, ne_eq, true_and, and_true, false_and, and_false, or_false, false_or, or_true, true_or, not_true_eq_false, not_false_eq_true] at *
  all_goals omega
set_option maxRecDepth 20000 in
theorem lf_i_Sea_5 (sea : Nat) (q1 : Nat) (q2 : Nat) (q3 : Nat) (q4 : Nat) (q5 : Nat) (q6 : Nat) (q7 : Nat) (q8 : Nat) (q9 : Nat) (wideG_12 : Int32) (highG_13 : Int32) (heatG_14 : Int32) (coolsG_15 : Int32) (skinHeatG_16 : Int32) (todayG_17 : Int32) (stirsG_18 : Int32) (stepsG_19 : Int32) (lumpsG_20 : Int32) (boatsG_21 : Int32) (thicknessG_22 : Nat → Int32) (p23 : wideG_12 = nI 4) (p24 : highG_13 = nI 4) (p25 : lumpsG_20 = nI 0) (p26 : boatsG_21 = nI 0) (p27 : coolsG_15 = nI 1) (p28 : skinHeatG_16 = nI 3) : coolsG_15 = nI 1 := by
  have k_0 := ia_n 4 (by decide)
  have k_1 := ia_n 0 (by decide)
  have k_2 := ia_n 1 (by decide)
  have k_3 := ia_n 3 (by decide)
  simp only [ia_lt, ia_le, ia_eq, ia_m1, ia_0, ia_1, ne_eq, true_and, and_true, false_and, and_false, or_false, false_or, or_true, true_or, not_true_eq_false, not_false_eq_true] at *
  all_goals omega
set_option maxRecDepth 20000 in
theorem lf_i_Sea_6 (sea : Nat) (q1 : Nat) (q2 : Nat) (q3 : Nat) (q4 : Nat) (q5 : Nat) (q6 : Nat) (q7 : Nat) (q8 : Nat) (q9 : Nat) (wideG_12 : Int32) (highG_13 : Int32) (heatG_14 : Int32) (coolsG_15 : Int32) (skinHeatG_16 : Int32) (todayG_17 : Int32) (stirsG_18 : Int32) (stepsG_19 : Int32) (lumpsG_20 : Int32) (boatsG_21 : Int32) (thicknessG_22 : Nat → Int32) (p23 : wideG_12 = nI 4) (p24 : highG_13 = nI 4) (p25 : lumpsG_20 = nI 0) (p26 : boatsG_21 = nI 0) (p27 : coolsG_15 = nI 1) (p28 : skinHeatG_16 = nI 3) : skinHeatG_16 = nI 3 := by
  have k_0 := ia_n 4 (by decide)
  have k_1 := ia_n 0 (by decide)
  have k_2 := ia_n 1 (by decide)
  have k_3 := ia_n 3 (by decide)
  simp only [ia_lt, ia_le, ia_eq, ia_m1, ia_0, ia_1, ne_eq, true_and, and_true, false_and, and_false, or_false, false_or, or_true, true_or, not_true_eq_false, not_false_eq_true] at *
  all_goals omega
set_option maxHeartbeats 4000000 in
set_option maxRecDepth 100000 in
theorem c_i_Sea (l : Launch) (dC : Nat → ClassId) (dI : Nat → Nat → Nat) (ky : Nat → ClassId) (sz : Nat) (sea : Nat)  : Met l yX7_init wsX7_init ({ frames := 1, cells := 9, slots := 84, locals := 21 }) (PcU dC dI ky [.ref sea] [(sea, .inr (7, [.int (nI 0), .int (nI 0), .int (nI 0), .int (nI 0), .int (nI 0), .int (nI 0), .int (nI 0), .int (nI 0), .int (nI 0), .int (nI 0), .null, .null, .null, .null, .null, .null, .null, .null, .null]))] sz) (va_Qv (fun (u : Int32 × Int32 × Int32 × Int32 × Int32 × Int32 × Int32 × Int32 × Int32 × Int32 × Nat × Nat × Nat × Nat × Nat × Nat × Nat × Nat × Nat × (Nat → Int32)) => match u with | (wide, high, heat, cools, skinHeat, today, stirs, steps, lumps, boats, thickness, lumpNames, lumpCells, boatNames, boatCells, loads, spoons, spoonsLeft, depths, thicknessG) => (wide = nI 4) ∧ (high = nI 4) ∧ (lumps = nI 0) ∧ (boats = nI 0) ∧ (cools = nI 1) ∧ (skinHeat = nI 3)) (BU dC dI ky (fun (u : Int32 × Int32 × Int32 × Int32 × Int32 × Int32 × Int32 × Int32 × Int32 × Int32 × Nat × Nat × Nat × Nat × Nat × Nat × Nat × Nat × Nat × (Nat → Int32)) => match u with | (wide, high, heat, cools, skinHeat, today, stirs, steps, lumps, boats, thickness, lumpNames, lumpCells, boatNames, boatCells, loads, spoons, spoonsLeft, depths, thicknessG) => [(sea, .inr (7, [.int wide, .int high, .int heat, .int cools, .int skinHeat, .int today, .int stirs, .int steps, .int lumps, .int boats, .ref thickness, .ref lumpNames, .ref lumpCells, .ref boatNames, .ref boatCells, .ref loads, .ref spoons, .ref spoonsLeft, .ref depths])), (thickness, .inl (ky 0, 36, .inl thicknessG)), (lumpNames, .inl (ky 1, 6, .inr (.inl (fun _ => 0)))), (lumpCells, .inl (ky 0, 6, .inl (fun _ => 0))), (boatNames, .inl (ky 1, 6, .inr (.inl (fun _ => 0)))), (boatCells, .inl (ky 0, 6, .inl (fun _ => 0))), (loads, .inl (ky 0, 6, .inl (fun _ => 0))), (spoons, .inl (ky 0, 6, .inl (fun _ => 0))), (spoonsLeft, .inl (ky 0, 6, .inl (fun _ => 0))), (depths, .inl (ky 0, 6, .inl (fun _ => 0)))]) (va_A [(sea, .inr (7, [.int (nI 0), .int (nI 0), .int (nI 0), .int (nI 0), .int (nI 0), .int (nI 0), .int (nI 0), .int (nI 0), .int (nI 0), .int (nI 0), .null, .null, .null, .null, .null, .null, .null, .null, .null]))] sz)) (va_A [(sea, .inr (7, [.int (nI 0), .int (nI 0), .int (nI 0), .int (nI 0), .int (nI 0), .int (nI 0), .int (nI 0), .int (nI 0), .int (nI 0), .int (nI 0), .null, .null, .null, .null, .null, .null, .null, .null, .null]))] sz)) 9 84 (va_A [(sea, .inr (7, [.int (nI 0), .int (nI 0), .int (nI 0), .int (nI 0), .int (nI 0), .int (nI 0), .int (nI 0), .int (nI 0), .int (nI 0), .int (nI 0), .null, .null, .null, .null, .null, .null, .null, .null, .null]))] sz) := by
  refine Met.ofW (cc := cX7_init) (maxL := 1) (ret := none) (by decide) rfl ?_
  intro p e s m args below meth c s₁ B hml hv
  obtain ⟨rfl, hsz, hP, hK, hD0⟩ := hv
  have hx := B.exec
  have hb := B.bytes
  have hr := B.returns
  have hts := atoms_spec (ws := wsX7_init) B.pre
  have hown : s.vm.findClass RX7 = some m.cls := findClass_of_methodNamed B.named
  have hlocks := B.notSynchronized
  have hini0 : meth.name = "<init>" := (name_of_methodNamed B.named B.method).1
  have hin7 : ∀ w ∈ u_ws RX7 TX7 19, w ∈ wsX7_init := by decide +kernel
  subst hsz
  have hD := hD0.self (sz := s.heap.size)
  generalize hAe : va_A [(sea, .inr (7, [.int (nI 0), .int (nI 0), .int (nI 0), .int (nI 0), .int (nI 0), .int (nI 0), .int (nI 0), .int (nI 0), .int (nI 0), .int (nI 0), .null, .null, .null, .null, .null, .null, .null, .null, .null]))] s.heap.size = A at hD ⊢
  have hA : ∀ q : Nat, s.heap.size ≤ q → A q := fun q h => by rw [← hAe]; exact Or.inr h
  have hS : va_S A s.heap s.heap [] := va_S.rf
  have hP : va_P (dC, dI) vwCl [(sea, .inr (7, [.int (nI 0), .int (nI 0), .int (nI 0), .int (nI 0), .int (nI 0), .int (nI 0), .int (nI 0), .int (nI 0), .int (nI 0), .int (nI 0), .null, .null, .null, .null, .null, .null, .null, .null, .null]))] s.heap := hP
  have hl := lv_entry ([.ref sea]) (n := 1) (Nat.le_of_ble_eq_true rfl)
  rw [lg_entry_eq]
  generalize (lg_sl ([.ref sea]) ++ List.replicate (1 - (lg_sl ([.ref sea])).length) Slot.unset).toArray = ls at hl ⊢
  have hl : lv_has ls 1 [(0, .ref sea)] := hl
  have hH0 : True := trivial
  refine lv_aload_n hx hb dX7_init_0 rfl (lv_at hl 0 rfl) ?_
  refine W.objInit hx hb hown (hts _ (List.mem_of_getElem? (i := 1) rfl)) (hts _ (List.mem_of_getElem? (i := 2) rfl)) (hts _ (List.mem_of_getElem? (i := 3) rfl)) rfl (by rw [hml]; exact hl.1) rfl dX7_init_1 (Nat.le_of_ble_eq_true rfl) (Nat.le_of_ble_eq_true rfl) ?_
  refine W.eq (g2 := F0 m 4 ls []) rfl ?_
  refine lv_aload_n hx hb dX7_init_4 rfl (lv_at hl 0 rfl) ?_
  refine lv_bipush (v := nI 36) hx hb dX7_init_5 (by decide) ?_
  refine r_newI hx hb (hts (.arrayClass .int) (List.mem_of_getElem? (i := 4) rfl)) hK hP hD hS hA (by decide) (by decide) (Nat.le_of_ble_eq_true rfl) (Nat.le_of_ble_eq_true rfl) dX7_init_7 (fun q1 H hP hD hS => ?_)
  refine W.widen (k := 1) (n := 36) (Nat.le_of_ble_eq_true rfl) (Nat.le_of_ble_eq_true rfl) ?_
  have hP : va_P (dC, dI) vwCl [(sea, .inr (7, [.int (nI 0), .int (nI 0), .int (nI 0), .int (nI 0), .int (nI 0), .int (nI 0), .int (nI 0), .int (nI 0), .int (nI 0), .int (nI 0), .null, .null, .null, .null, .null, .null, .null, .null, .null])), (q1, .inl (ky 0, 36, .inl (fun _ => 0)))] H := hP
  have hD : va_D A [(sea, .inr (7, [.int (nI 0), .int (nI 0), .int (nI 0), .int (nI 0), .int (nI 0), .int (nI 0), .int (nI 0), .int (nI 0), .int (nI 0), .int (nI 0), .null, .null, .null, .null, .null, .null, .null, .null, .null])), (q1, .inl (ky 0, 36, .inl (fun _ => 0)))] := hD
  refine va_putF (D := (dC, dI)) (ci := 7) (v := .ref q1) (ty := .array .int) (C := RX7) (T := TX7) (N := 19) hx hb hts hin7 tyX7 tyX7_ok nmX7 hown hK hP hD hS 0 rfl rfl 10 (by decide) (hts (.fieldLink RX7 9 "PorridgeSea$Sea" "thickness" "[I") (List.mem_of_getElem? (i := 5) rfl)) (fun _ h9 => h9) rfl hini0 rfl (by decide +kernel) rfl rfl (Nat.le_of_ble_eq_true rfl) dX7_init_9 (fun H locs hP hD hS => ?_)
  have hP : va_P (dC, dI) vwCl [(sea, .inr (7, [.int (nI 0), .int (nI 0), .int (nI 0), .int (nI 0), .int (nI 0), .int (nI 0), .int (nI 0), .int (nI 0), .int (nI 0), .int (nI 0), .ref q1, .null, .null, .null, .null, .null, .null, .null, .null])), (q1, .inl (ky 0, 36, .inl (fun _ => 0)))] H := hP
  have hD : va_D A [(sea, .inr (7, [.int (nI 0), .int (nI 0), .int (nI 0), .int (nI 0), .int (nI 0), .int (nI 0), .int (nI 0), .int (nI 0), .int (nI 0), .int (nI 0), .ref q1, .null, .null, .null, .null, .null, .null, .null, .null])), (q1, .inl (ky 0, 36, .inl (fun _ => 0)))] := hD
  refine lv_aload_n hx hb dX7_init_12 rfl (lv_at hl 0 rfl) ?_
  refine lv_bipush (v := nI 6) hx hb dX7_init_13 (by decide) ?_
  refine r_newJ hx hb (hts (.arrayClass .long) (List.mem_of_getElem? (i := 6) rfl)) hK hP hD hS hA (by decide) (by decide) (Nat.le_of_ble_eq_true rfl) (Nat.le_of_ble_eq_true rfl) dX7_init_15 (fun q2 H hP hD hS => ?_)
  refine W.widen (k := 2) (n := 42) (Nat.le_of_ble_eq_true rfl) (Nat.le_of_ble_eq_true rfl) ?_
  have hP : va_P (dC, dI) vwCl [(sea, .inr (7, [.int (nI 0), .int (nI 0), .int (nI 0), .int (nI 0), .int (nI 0), .int (nI 0), .int (nI 0), .int (nI 0), .int (nI 0), .int (nI 0), .ref q1, .null, .null, .null, .null, .null, .null, .null, .null])), (q1, .inl (ky 0, 36, .inl (fun _ => 0))), (q2, .inl (ky 1, 6, .inr (.inl (fun _ => 0))))] H := hP
  have hD : va_D A [(sea, .inr (7, [.int (nI 0), .int (nI 0), .int (nI 0), .int (nI 0), .int (nI 0), .int (nI 0), .int (nI 0), .int (nI 0), .int (nI 0), .int (nI 0), .ref q1, .null, .null, .null, .null, .null, .null, .null, .null])), (q1, .inl (ky 0, 36, .inl (fun _ => 0))), (q2, .inl (ky 1, 6, .inr (.inl (fun _ => 0))))] := hD
  refine va_putF (D := (dC, dI)) (ci := 7) (v := .ref q2) (ty := .array .long) (C := RX7) (T := TX7) (N := 19) hx hb hts hin7 tyX7 tyX7_ok nmX7 hown hK hP hD hS 0 rfl rfl 11 (by decide) (hts (.fieldLink RX7 15 "PorridgeSea$Sea" "lumpNames" "[J") (List.mem_of_getElem? (i := 7) rfl)) (fun _ h9 => h9) rfl hini0 rfl (by decide +kernel) rfl rfl (Nat.le_of_ble_eq_true rfl) dX7_init_17 (fun H locs hP hD hS => ?_)
  have hP : va_P (dC, dI) vwCl [(sea, .inr (7, [.int (nI 0), .int (nI 0), .int (nI 0), .int (nI 0), .int (nI 0), .int (nI 0), .int (nI 0), .int (nI 0), .int (nI 0), .int (nI 0), .ref q1, .ref q2, .null, .null, .null, .null, .null, .null, .null])), (q1, .inl (ky 0, 36, .inl (fun _ => 0))), (q2, .inl (ky 1, 6, .inr (.inl (fun _ => 0))))] H := hP
  have hD : va_D A [(sea, .inr (7, [.int (nI 0), .int (nI 0), .int (nI 0), .int (nI 0), .int (nI 0), .int (nI 0), .int (nI 0), .int (nI 0), .int (nI 0), .int (nI 0), .ref q1, .ref q2, .null, .null, .null, .null, .null, .null, .null])), (q1, .inl (ky 0, 36, .inl (fun _ => 0))), (q2, .inl (ky 1, 6, .inr (.inl (fun _ => 0))))] := hD
  refine lv_aload_n hx hb dX7_init_20 rfl (lv_at hl 0 rfl) ?_
  refine lv_bipush (v := nI 6) hx hb dX7_init_21 (by decide) ?_
  refine r_newI hx hb (hts (.arrayClass .int) (List.mem_of_getElem? (i := 4) rfl)) hK hP hD hS hA (by decide) (by decide) (Nat.le_of_ble_eq_true rfl) (Nat.le_of_ble_eq_true rfl) dX7_init_23 (fun q3 H hP hD hS => ?_)
  refine W.widen (k := 3) (n := 48) (Nat.le_of_ble_eq_true rfl) (Nat.le_of_ble_eq_true rfl) ?_
  have hP : va_P (dC, dI) vwCl [(sea, .inr (7, [.int (nI 0), .int (nI 0), .int (nI 0), .int (nI 0), .int (nI 0), .int (nI 0), .int (nI 0), .int (nI 0), .int (nI 0), .int (nI 0), .ref q1, .ref q2, .null, .null, .null, .null, .null, .null, .null])), (q1, .inl (ky 0, 36, .inl (fun _ => 0))), (q2, .inl (ky 1, 6, .inr (.inl (fun _ => 0)))), (q3, .inl (ky 0, 6, .inl (fun _ => 0)))] H := hP
  have hD : va_D A [(sea, .inr (7, [.int (nI 0), .int (nI 0), .int (nI 0), .int (nI 0), .int (nI 0), .int (nI 0), .int (nI 0), .int (nI 0), .int (nI 0), .int (nI 0), .ref q1, .ref q2, .null, .null, .null, .null, .null, .null, .null])), (q1, .inl (ky 0, 36, .inl (fun _ => 0))), (q2, .inl (ky 1, 6, .inr (.inl (fun _ => 0)))), (q3, .inl (ky 0, 6, .inl (fun _ => 0)))] := hD
  refine va_putF (D := (dC, dI)) (ci := 7) (v := .ref q3) (ty := .array .int) (C := RX7) (T := TX7) (N := 19) hx hb hts hin7 tyX7 tyX7_ok nmX7 hown hK hP hD hS 0 rfl rfl 12 (by decide) (hts (.fieldLink RX7 19 "PorridgeSea$Sea" "lumpCells" "[I") (List.mem_of_getElem? (i := 8) rfl)) (fun _ h9 => h9) rfl hini0 rfl (by decide +kernel) rfl rfl (Nat.le_of_ble_eq_true rfl) dX7_init_25 (fun H locs hP hD hS => ?_)
  have hP : va_P (dC, dI) vwCl [(sea, .inr (7, [.int (nI 0), .int (nI 0), .int (nI 0), .int (nI 0), .int (nI 0), .int (nI 0), .int (nI 0), .int (nI 0), .int (nI 0), .int (nI 0), .ref q1, .ref q2, .ref q3, .null, .null, .null, .null, .null, .null])), (q1, .inl (ky 0, 36, .inl (fun _ => 0))), (q2, .inl (ky 1, 6, .inr (.inl (fun _ => 0)))), (q3, .inl (ky 0, 6, .inl (fun _ => 0)))] H := hP
  have hD : va_D A [(sea, .inr (7, [.int (nI 0), .int (nI 0), .int (nI 0), .int (nI 0), .int (nI 0), .int (nI 0), .int (nI 0), .int (nI 0), .int (nI 0), .int (nI 0), .ref q1, .ref q2, .ref q3, .null, .null, .null, .null, .null, .null])), (q1, .inl (ky 0, 36, .inl (fun _ => 0))), (q2, .inl (ky 1, 6, .inr (.inl (fun _ => 0)))), (q3, .inl (ky 0, 6, .inl (fun _ => 0)))] := hD
  refine lv_aload_n hx hb dX7_init_28 rfl (lv_at hl 0 rfl) ?_
  refine lv_bipush (v := nI 6) hx hb dX7_init_29 (by decide) ?_
  refine r_newJ hx hb (hts (.arrayClass .long) (List.mem_of_getElem? (i := 6) rfl)) hK hP hD hS hA (by decide) (by decide) (Nat.le_of_ble_eq_true rfl) (Nat.le_of_ble_eq_true rfl) dX7_init_31 (fun q4 H hP hD hS => ?_)
  refine W.widen (k := 4) (n := 54) (Nat.le_of_ble_eq_true rfl) (Nat.le_of_ble_eq_true rfl) ?_
  have hP : va_P (dC, dI) vwCl [(sea, .inr (7, [.int (nI 0), .int (nI 0), .int (nI 0), .int (nI 0), .int (nI 0), .int (nI 0), .int (nI 0), .int (nI 0), .int (nI 0), .int (nI 0), .ref q1, .ref q2, .ref q3, .null, .null, .null, .null, .null, .null])), (q1, .inl (ky 0, 36, .inl (fun _ => 0))), (q2, .inl (ky 1, 6, .inr (.inl (fun _ => 0)))), (q3, .inl (ky 0, 6, .inl (fun _ => 0))), (q4, .inl (ky 1, 6, .inr (.inl (fun _ => 0))))] H := hP
  have hD : va_D A [(sea, .inr (7, [.int (nI 0), .int (nI 0), .int (nI 0), .int (nI 0), .int (nI 0), .int (nI 0), .int (nI 0), .int (nI 0), .int (nI 0), .int (nI 0), .ref q1, .ref q2, .ref q3, .null, .null, .null, .null, .null, .null])), (q1, .inl (ky 0, 36, .inl (fun _ => 0))), (q2, .inl (ky 1, 6, .inr (.inl (fun _ => 0)))), (q3, .inl (ky 0, 6, .inl (fun _ => 0))), (q4, .inl (ky 1, 6, .inr (.inl (fun _ => 0))))] := hD
  refine va_putF (D := (dC, dI)) (ci := 7) (v := .ref q4) (ty := .array .long) (C := RX7) (T := TX7) (N := 19) hx hb hts hin7 tyX7 tyX7_ok nmX7 hown hK hP hD hS 0 rfl rfl 13 (by decide) (hts (.fieldLink RX7 22 "PorridgeSea$Sea" "boatNames" "[J") (List.mem_of_getElem? (i := 9) rfl)) (fun _ h9 => h9) rfl hini0 rfl (by decide +kernel) rfl rfl (Nat.le_of_ble_eq_true rfl) dX7_init_33 (fun H locs hP hD hS => ?_)
  have hP : va_P (dC, dI) vwCl [(sea, .inr (7, [.int (nI 0), .int (nI 0), .int (nI 0), .int (nI 0), .int (nI 0), .int (nI 0), .int (nI 0), .int (nI 0), .int (nI 0), .int (nI 0), .ref q1, .ref q2, .ref q3, .ref q4, .null, .null, .null, .null, .null])), (q1, .inl (ky 0, 36, .inl (fun _ => 0))), (q2, .inl (ky 1, 6, .inr (.inl (fun _ => 0)))), (q3, .inl (ky 0, 6, .inl (fun _ => 0))), (q4, .inl (ky 1, 6, .inr (.inl (fun _ => 0))))] H := hP
  have hD : va_D A [(sea, .inr (7, [.int (nI 0), .int (nI 0), .int (nI 0), .int (nI 0), .int (nI 0), .int (nI 0), .int (nI 0), .int (nI 0), .int (nI 0), .int (nI 0), .ref q1, .ref q2, .ref q3, .ref q4, .null, .null, .null, .null, .null])), (q1, .inl (ky 0, 36, .inl (fun _ => 0))), (q2, .inl (ky 1, 6, .inr (.inl (fun _ => 0)))), (q3, .inl (ky 0, 6, .inl (fun _ => 0))), (q4, .inl (ky 1, 6, .inr (.inl (fun _ => 0))))] := hD
  refine lv_aload_n hx hb dX7_init_36 rfl (lv_at hl 0 rfl) ?_
  refine lv_bipush (v := nI 6) hx hb dX7_init_37 (by decide) ?_
  refine r_newI hx hb (hts (.arrayClass .int) (List.mem_of_getElem? (i := 4) rfl)) hK hP hD hS hA (by decide) (by decide) (Nat.le_of_ble_eq_true rfl) (Nat.le_of_ble_eq_true rfl) dX7_init_39 (fun q5 H hP hD hS => ?_)
  refine W.widen (k := 5) (n := 60) (Nat.le_of_ble_eq_true rfl) (Nat.le_of_ble_eq_true rfl) ?_
  have hP : va_P (dC, dI) vwCl [(sea, .inr (7, [.int (nI 0), .int (nI 0), .int (nI 0), .int (nI 0), .int (nI 0), .int (nI 0), .int (nI 0), .int (nI 0), .int (nI 0), .int (nI 0), .ref q1, .ref q2, .ref q3, .ref q4, .null, .null, .null, .null, .null])), (q1, .inl (ky 0, 36, .inl (fun _ => 0))), (q2, .inl (ky 1, 6, .inr (.inl (fun _ => 0)))), (q3, .inl (ky 0, 6, .inl (fun _ => 0))), (q4, .inl (ky 1, 6, .inr (.inl (fun _ => 0)))), (q5, .inl (ky 0, 6, .inl (fun _ => 0)))] H := hP
  have hD : va_D A [(sea, .inr (7, [.int (nI 0), .int (nI 0), .int (nI 0), .int (nI 0), .int (nI 0), .int (nI 0), .int (nI 0), .int (nI 0), .int (nI 0), .int (nI 0), .ref q1, .ref q2, .ref q3, .ref q4, .null, .null, .null, .null, .null])), (q1, .inl (ky 0, 36, .inl (fun _ => 0))), (q2, .inl (ky 1, 6, .inr (.inl (fun _ => 0)))), (q3, .inl (ky 0, 6, .inl (fun _ => 0))), (q4, .inl (ky 1, 6, .inr (.inl (fun _ => 0)))), (q5, .inl (ky 0, 6, .inl (fun _ => 0)))] := hD
  refine va_putF (D := (dC, dI)) (ci := 7) (v := .ref q5) (ty := .array .int) (C := RX7) (T := TX7) (N := 19) hx hb hts hin7 tyX7 tyX7_ok nmX7 hown hK hP hD hS 0 rfl rfl 14 (by decide) (hts (.fieldLink RX7 25 "PorridgeSea$Sea" "boatCells" "[I") (List.mem_of_getElem? (i := 10) rfl)) (fun _ h9 => h9) rfl hini0 rfl (by decide +kernel) rfl rfl (Nat.le_of_ble_eq_true rfl) dX7_init_41 (fun H locs hP hD hS => ?_)
  have hP : va_P (dC, dI) vwCl [(sea, .inr (7, [.int (nI 0), .int (nI 0), .int (nI 0), .int (nI 0), .int (nI 0), .int (nI 0), .int (nI 0), .int (nI 0), .int (nI 0), .int (nI 0), .ref q1, .ref q2, .ref q3, .ref q4, .ref q5, .null, .null, .null, .null])), (q1, .inl (ky 0, 36, .inl (fun _ => 0))), (q2, .inl (ky 1, 6, .inr (.inl (fun _ => 0)))), (q3, .inl (ky 0, 6, .inl (fun _ => 0))), (q4, .inl (ky 1, 6, .inr (.inl (fun _ => 0)))), (q5, .inl (ky 0, 6, .inl (fun _ => 0)))] H := hP
  have hD : va_D A [(sea, .inr (7, [.int (nI 0), .int (nI 0), .int (nI 0), .int (nI 0), .int (nI 0), .int (nI 0), .int (nI 0), .int (nI 0), .int (nI 0), .int (nI 0), .ref q1, .ref q2, .ref q3, .ref q4, .ref q5, .null, .null, .null, .null])), (q1, .inl (ky 0, 36, .inl (fun _ => 0))), (q2, .inl (ky 1, 6, .inr (.inl (fun _ => 0)))), (q3, .inl (ky 0, 6, .inl (fun _ => 0))), (q4, .inl (ky 1, 6, .inr (.inl (fun _ => 0)))), (q5, .inl (ky 0, 6, .inl (fun _ => 0)))] := hD
  refine lv_aload_n hx hb dX7_init_44 rfl (lv_at hl 0 rfl) ?_
  refine lv_bipush (v := nI 6) hx hb dX7_init_45 (by decide) ?_
  refine r_newI hx hb (hts (.arrayClass .int) (List.mem_of_getElem? (i := 4) rfl)) hK hP hD hS hA (by decide) (by decide) (Nat.le_of_ble_eq_true rfl) (Nat.le_of_ble_eq_true rfl) dX7_init_47 (fun q6 H hP hD hS => ?_)
  refine W.widen (k := 6) (n := 66) (Nat.le_of_ble_eq_true rfl) (Nat.le_of_ble_eq_true rfl) ?_
  have hP : va_P (dC, dI) vwCl [(sea, .inr (7, [.int (nI 0), .int (nI 0), .int (nI 0), .int (nI 0), .int (nI 0), .int (nI 0), .int (nI 0), .int (nI 0), .int (nI 0), .int (nI 0), .ref q1, .ref q2, .ref q3, .ref q4, .ref q5, .null, .null, .null, .null])), (q1, .inl (ky 0, 36, .inl (fun _ => 0))), (q2, .inl (ky 1, 6, .inr (.inl (fun _ => 0)))), (q3, .inl (ky 0, 6, .inl (fun _ => 0))), (q4, .inl (ky 1, 6, .inr (.inl (fun _ => 0)))), (q5, .inl (ky 0, 6, .inl (fun _ => 0))), (q6, .inl (ky 0, 6, .inl (fun _ => 0)))] H := hP
  have hD : va_D A [(sea, .inr (7, [.int (nI 0), .int (nI 0), .int (nI 0), .int (nI 0), .int (nI 0), .int (nI 0), .int (nI 0), .int (nI 0), .int (nI 0), .int (nI 0), .ref q1, .ref q2, .ref q3, .ref q4, .ref q5, .null, .null, .null, .null])), (q1, .inl (ky 0, 36, .inl (fun _ => 0))), (q2, .inl (ky 1, 6, .inr (.inl (fun _ => 0)))), (q3, .inl (ky 0, 6, .inl (fun _ => 0))), (q4, .inl (ky 1, 6, .inr (.inl (fun _ => 0)))), (q5, .inl (ky 0, 6, .inl (fun _ => 0))), (q6, .inl (ky 0, 6, .inl (fun _ => 0)))] := hD
  refine va_putF (D := (dC, dI)) (ci := 7) (v := .ref q6) (ty := .array .int) (C := RX7) (T := TX7) (N := 19) hx hb hts hin7 tyX7 tyX7_ok nmX7 hown hK hP hD hS 0 rfl rfl 15 (by decide) (hts (.fieldLink RX7 28 "PorridgeSea$Sea" "loads" "[I") (List.mem_of_getElem? (i := 11) rfl)) (fun _ h9 => h9) rfl hini0 rfl (by decide +kernel) rfl rfl (Nat.le_of_ble_eq_true rfl) dX7_init_49 (fun H locs hP hD hS => ?_)
  have hP : va_P (dC, dI) vwCl [(sea, .inr (7, [.int (nI 0), .int (nI 0), .int (nI 0), .int (nI 0), .int (nI 0), .int (nI 0), .int (nI 0), .int (nI 0), .int (nI 0), .int (nI 0), .ref q1, .ref q2, .ref q3, .ref q4, .ref q5, .ref q6, .null, .null, .null])), (q1, .inl (ky 0, 36, .inl (fun _ => 0))), (q2, .inl (ky 1, 6, .inr (.inl (fun _ => 0)))), (q3, .inl (ky 0, 6, .inl (fun _ => 0))), (q4, .inl (ky 1, 6, .inr (.inl (fun _ => 0)))), (q5, .inl (ky 0, 6, .inl (fun _ => 0))), (q6, .inl (ky 0, 6, .inl (fun _ => 0)))] H := hP
  have hD : va_D A [(sea, .inr (7, [.int (nI 0), .int (nI 0), .int (nI 0), .int (nI 0), .int (nI 0), .int (nI 0), .int (nI 0), .int (nI 0), .int (nI 0), .int (nI 0), .ref q1, .ref q2, .ref q3, .ref q4, .ref q5, .ref q6, .null, .null, .null])), (q1, .inl (ky 0, 36, .inl (fun _ => 0))), (q2, .inl (ky 1, 6, .inr (.inl (fun _ => 0)))), (q3, .inl (ky 0, 6, .inl (fun _ => 0))), (q4, .inl (ky 1, 6, .inr (.inl (fun _ => 0)))), (q5, .inl (ky 0, 6, .inl (fun _ => 0))), (q6, .inl (ky 0, 6, .inl (fun _ => 0)))] := hD
  refine lv_aload_n hx hb dX7_init_52 rfl (lv_at hl 0 rfl) ?_
  refine lv_bipush (v := nI 6) hx hb dX7_init_53 (by decide) ?_
  refine r_newI hx hb (hts (.arrayClass .int) (List.mem_of_getElem? (i := 4) rfl)) hK hP hD hS hA (by decide) (by decide) (Nat.le_of_ble_eq_true rfl) (Nat.le_of_ble_eq_true rfl) dX7_init_55 (fun q7 H hP hD hS => ?_)
  refine W.widen (k := 7) (n := 72) (Nat.le_of_ble_eq_true rfl) (Nat.le_of_ble_eq_true rfl) ?_
  have hP : va_P (dC, dI) vwCl [(sea, .inr (7, [.int (nI 0), .int (nI 0), .int (nI 0), .int (nI 0), .int (nI 0), .int (nI 0), .int (nI 0), .int (nI 0), .int (nI 0), .int (nI 0), .ref q1, .ref q2, .ref q3, .ref q4, .ref q5, .ref q6, .null, .null, .null])), (q1, .inl (ky 0, 36, .inl (fun _ => 0))), (q2, .inl (ky 1, 6, .inr (.inl (fun _ => 0)))), (q3, .inl (ky 0, 6, .inl (fun _ => 0))), (q4, .inl (ky 1, 6, .inr (.inl (fun _ => 0)))), (q5, .inl (ky 0, 6, .inl (fun _ => 0))), (q6, .inl (ky 0, 6, .inl (fun _ => 0))), (q7, .inl (ky 0, 6, .inl (fun _ => 0)))] H := hP
  have hD : va_D A [(sea, .inr (7, [.int (nI 0), .int (nI 0), .int (nI 0), .int (nI 0), .int (nI 0), .int (nI 0), .int (nI 0), .int (nI 0), .int (nI 0), .int (nI 0), .ref q1, .ref q2, .ref q3, .ref q4, .ref q5, .ref q6, .null, .null, .null])), (q1, .inl (ky 0, 36, .inl (fun _ => 0))), (q2, .inl (ky 1, 6, .inr (.inl (fun _ => 0)))), (q3, .inl (ky 0, 6, .inl (fun _ => 0))), (q4, .inl (ky 1, 6, .inr (.inl (fun _ => 0)))), (q5, .inl (ky 0, 6, .inl (fun _ => 0))), (q6, .inl (ky 0, 6, .inl (fun _ => 0))), (q7, .inl (ky 0, 6, .inl (fun _ => 0)))] := hD
  refine va_putF (D := (dC, dI)) (ci := 7) (v := .ref q7) (ty := .array .int) (C := RX7) (T := TX7) (N := 19) hx hb hts hin7 tyX7 tyX7_ok nmX7 hown hK hP hD hS 0 rfl rfl 16 (by decide) (hts (.fieldLink RX7 31 "PorridgeSea$Sea" "spoons" "[I") (List.mem_of_getElem? (i := 12) rfl)) (fun _ h9 => h9) rfl hini0 rfl (by decide +kernel) rfl rfl (Nat.le_of_ble_eq_true rfl) dX7_init_57 (fun H locs hP hD hS => ?_)
  have hP : va_P (dC, dI) vwCl [(sea, .inr (7, [.int (nI 0), .int (nI 0), .int (nI 0), .int (nI 0), .int (nI 0), .int (nI 0), .int (nI 0), .int (nI 0), .int (nI 0), .int (nI 0), .ref q1, .ref q2, .ref q3, .ref q4, .ref q5, .ref q6, .ref q7, .null, .null])), (q1, .inl (ky 0, 36, .inl (fun _ => 0))), (q2, .inl (ky 1, 6, .inr (.inl (fun _ => 0)))), (q3, .inl (ky 0, 6, .inl (fun _ => 0))), (q4, .inl (ky 1, 6, .inr (.inl (fun _ => 0)))), (q5, .inl (ky 0, 6, .inl (fun _ => 0))), (q6, .inl (ky 0, 6, .inl (fun _ => 0))), (q7, .inl (ky 0, 6, .inl (fun _ => 0)))] H := hP
  have hD : va_D A [(sea, .inr (7, [.int (nI 0), .int (nI 0), .int (nI 0), .int (nI 0), .int (nI 0), .int (nI 0), .int (nI 0), .int (nI 0), .int (nI 0), .int (nI 0), .ref q1, .ref q2, .ref q3, .ref q4, .ref q5, .ref q6, .ref q7, .null, .null])), (q1, .inl (ky 0, 36, .inl (fun _ => 0))), (q2, .inl (ky 1, 6, .inr (.inl (fun _ => 0)))), (q3, .inl (ky 0, 6, .inl (fun _ => 0))), (q4, .inl (ky 1, 6, .inr (.inl (fun _ => 0)))), (q5, .inl (ky 0, 6, .inl (fun _ => 0))), (q6, .inl (ky 0, 6, .inl (fun _ => 0))), (q7, .inl (ky 0, 6, .inl (fun _ => 0)))] := hD
  refine lv_aload_n hx hb dX7_init_60 rfl (lv_at hl 0 rfl) ?_
  refine lv_bipush (v := nI 6) hx hb dX7_init_61 (by decide) ?_
  refine r_newI hx hb (hts (.arrayClass .int) (List.mem_of_getElem? (i := 4) rfl)) hK hP hD hS hA (by decide) (by decide) (Nat.le_of_ble_eq_true rfl) (Nat.le_of_ble_eq_true rfl) dX7_init_63 (fun q8 H hP hD hS => ?_)
  refine W.widen (k := 8) (n := 78) (Nat.le_of_ble_eq_true rfl) (Nat.le_of_ble_eq_true rfl) ?_
  have hP : va_P (dC, dI) vwCl [(sea, .inr (7, [.int (nI 0), .int (nI 0), .int (nI 0), .int (nI 0), .int (nI 0), .int (nI 0), .int (nI 0), .int (nI 0), .int (nI 0), .int (nI 0), .ref q1, .ref q2, .ref q3, .ref q4, .ref q5, .ref q6, .ref q7, .null, .null])), (q1, .inl (ky 0, 36, .inl (fun _ => 0))), (q2, .inl (ky 1, 6, .inr (.inl (fun _ => 0)))), (q3, .inl (ky 0, 6, .inl (fun _ => 0))), (q4, .inl (ky 1, 6, .inr (.inl (fun _ => 0)))), (q5, .inl (ky 0, 6, .inl (fun _ => 0))), (q6, .inl (ky 0, 6, .inl (fun _ => 0))), (q7, .inl (ky 0, 6, .inl (fun _ => 0))), (q8, .inl (ky 0, 6, .inl (fun _ => 0)))] H := hP
  have hD : va_D A [(sea, .inr (7, [.int (nI 0), .int (nI 0), .int (nI 0), .int (nI 0), .int (nI 0), .int (nI 0), .int (nI 0), .int (nI 0), .int (nI 0), .int (nI 0), .ref q1, .ref q2, .ref q3, .ref q4, .ref q5, .ref q6, .ref q7, .null, .null])), (q1, .inl (ky 0, 36, .inl (fun _ => 0))), (q2, .inl (ky 1, 6, .inr (.inl (fun _ => 0)))), (q3, .inl (ky 0, 6, .inl (fun _ => 0))), (q4, .inl (ky 1, 6, .inr (.inl (fun _ => 0)))), (q5, .inl (ky 0, 6, .inl (fun _ => 0))), (q6, .inl (ky 0, 6, .inl (fun _ => 0))), (q7, .inl (ky 0, 6, .inl (fun _ => 0))), (q8, .inl (ky 0, 6, .inl (fun _ => 0)))] := hD
  refine va_putF (D := (dC, dI)) (ci := 7) (v := .ref q8) (ty := .array .int) (C := RX7) (T := TX7) (N := 19) hx hb hts hin7 tyX7 tyX7_ok nmX7 hown hK hP hD hS 0 rfl rfl 17 (by decide) (hts (.fieldLink RX7 34 "PorridgeSea$Sea" "spoonsLeft" "[I") (List.mem_of_getElem? (i := 13) rfl)) (fun _ h9 => h9) rfl hini0 rfl (by decide +kernel) rfl rfl (Nat.le_of_ble_eq_true rfl) dX7_init_65 (fun H locs hP hD hS => ?_)
  have hP : va_P (dC, dI) vwCl [(sea, .inr (7, [.int (nI 0), .int (nI 0), .int (nI 0), .int (nI 0), .int (nI 0), .int (nI 0), .int (nI 0), .int (nI 0), .int (nI 0), .int (nI 0), .ref q1, .ref q2, .ref q3, .ref q4, .ref q5, .ref q6, .ref q7, .ref q8, .null])), (q1, .inl (ky 0, 36, .inl (fun _ => 0))), (q2, .inl (ky 1, 6, .inr (.inl (fun _ => 0)))), (q3, .inl (ky 0, 6, .inl (fun _ => 0))), (q4, .inl (ky 1, 6, .inr (.inl (fun _ => 0)))), (q5, .inl (ky 0, 6, .inl (fun _ => 0))), (q6, .inl (ky 0, 6, .inl (fun _ => 0))), (q7, .inl (ky 0, 6, .inl (fun _ => 0))), (q8, .inl (ky 0, 6, .inl (fun _ => 0)))] H := hP
  have hD : va_D A [(sea, .inr (7, [.int (nI 0), .int (nI 0), .int (nI 0), .int (nI 0), .int (nI 0), .int (nI 0), .int (nI 0), .int (nI 0), .int (nI 0), .int (nI 0), .ref q1, .ref q2, .ref q3, .ref q4, .ref q5, .ref q6, .ref q7, .ref q8, .null])), (q1, .inl (ky 0, 36, .inl (fun _ => 0))), (q2, .inl (ky 1, 6, .inr (.inl (fun _ => 0)))), (q3, .inl (ky 0, 6, .inl (fun _ => 0))), (q4, .inl (ky 1, 6, .inr (.inl (fun _ => 0)))), (q5, .inl (ky 0, 6, .inl (fun _ => 0))), (q6, .inl (ky 0, 6, .inl (fun _ => 0))), (q7, .inl (ky 0, 6, .inl (fun _ => 0))), (q8, .inl (ky 0, 6, .inl (fun _ => 0)))] := hD
  refine lv_aload_n hx hb dX7_init_68 rfl (lv_at hl 0 rfl) ?_
  refine lv_bipush (v := nI 6) hx hb dX7_init_69 (by decide) ?_
  refine r_newI hx hb (hts (.arrayClass .int) (List.mem_of_getElem? (i := 4) rfl)) hK hP hD hS hA (by decide) (by decide) (Nat.le_of_ble_eq_true rfl) (Nat.le_of_ble_eq_true rfl) dX7_init_71 (fun q9 H hP hD hS => ?_)
  refine W.widen (k := 9) (n := 84) (Nat.le_of_ble_eq_true rfl) (Nat.le_of_ble_eq_true rfl) ?_
  have hP : va_P (dC, dI) vwCl [(sea, .inr (7, [.int (nI 0), .int (nI 0), .int (nI 0), .int (nI 0), .int (nI 0), .int (nI 0), .int (nI 0), .int (nI 0), .int (nI 0), .int (nI 0), .ref q1, .ref q2, .ref q3, .ref q4, .ref q5, .ref q6, .ref q7, .ref q8, .null])), (q1, .inl (ky 0, 36, .inl (fun _ => 0))), (q2, .inl (ky 1, 6, .inr (.inl (fun _ => 0)))), (q3, .inl (ky 0, 6, .inl (fun _ => 0))), (q4, .inl (ky 1, 6, .inr (.inl (fun _ => 0)))), (q5, .inl (ky 0, 6, .inl (fun _ => 0))), (q6, .inl (ky 0, 6, .inl (fun _ => 0))), (q7, .inl (ky 0, 6, .inl (fun _ => 0))), (q8, .inl (ky 0, 6, .inl (fun _ => 0))), (q9, .inl (ky 0, 6, .inl (fun _ => 0)))] H := hP
  have hD : va_D A [(sea, .inr (7, [.int (nI 0), .int (nI 0), .int (nI 0), .int (nI 0), .int (nI 0), .int (nI 0), .int (nI 0), .int (nI 0), .int (nI 0), .int (nI 0), .ref q1, .ref q2, .ref q3, .ref q4, .ref q5, .ref q6, .ref q7, .ref q8, .null])), (q1, .inl (ky 0, 36, .inl (fun _ => 0))), (q2, .inl (ky 1, 6, .inr (.inl (fun _ => 0)))), (q3, .inl (ky 0, 6, .inl (fun _ => 0))), (q4, .inl (ky 1, 6, .inr (.inl (fun _ => 0)))), (q5, .inl (ky 0, 6, .inl (fun _ => 0))), (q6, .inl (ky 0, 6, .inl (fun _ => 0))), (q7, .inl (ky 0, 6, .inl (fun _ => 0))), (q8, .inl (ky 0, 6, .inl (fun _ => 0))), (q9, .inl (ky 0, 6, .inl (fun _ => 0)))] := hD
  refine va_putF (D := (dC, dI)) (ci := 7) (v := .ref q9) (ty := .array .int) (C := RX7) (T := TX7) (N := 19) hx hb hts hin7 tyX7 tyX7_ok nmX7 hown hK hP hD hS 0 rfl rfl 18 (by decide) (hts (.fieldLink RX7 37 "PorridgeSea$Sea" "depths" "[I") (List.mem_of_getElem? (i := 14) rfl)) (fun _ h9 => h9) rfl hini0 rfl (by decide +kernel) rfl rfl (Nat.le_of_ble_eq_true rfl) dX7_init_73 (fun H locs hP hD hS => ?_)
  have hP : va_P (dC, dI) vwCl [(sea, .inr (7, [.int (nI 0), .int (nI 0), .int (nI 0), .int (nI 0), .int (nI 0), .int (nI 0), .int (nI 0), .int (nI 0), .int (nI 0), .int (nI 0), .ref q1, .ref q2, .ref q3, .ref q4, .ref q5, .ref q6, .ref q7, .ref q8, .ref q9])), (q1, .inl (ky 0, 36, .inl (fun _ => 0))), (q2, .inl (ky 1, 6, .inr (.inl (fun _ => 0)))), (q3, .inl (ky 0, 6, .inl (fun _ => 0))), (q4, .inl (ky 1, 6, .inr (.inl (fun _ => 0)))), (q5, .inl (ky 0, 6, .inl (fun _ => 0))), (q6, .inl (ky 0, 6, .inl (fun _ => 0))), (q7, .inl (ky 0, 6, .inl (fun _ => 0))), (q8, .inl (ky 0, 6, .inl (fun _ => 0))), (q9, .inl (ky 0, 6, .inl (fun _ => 0)))] H := hP
  have hD : va_D A [(sea, .inr (7, [.int (nI 0), .int (nI 0), .int (nI 0), .int (nI 0), .int (nI 0), .int (nI 0), .int (nI 0), .int (nI 0), .int (nI 0), .int (nI 0), .ref q1, .ref q2, .ref q3, .ref q4, .ref q5, .ref q6, .ref q7, .ref q8, .ref q9])), (q1, .inl (ky 0, 36, .inl (fun _ => 0))), (q2, .inl (ky 1, 6, .inr (.inl (fun _ => 0)))), (q3, .inl (ky 0, 6, .inl (fun _ => 0))), (q4, .inl (ky 1, 6, .inr (.inl (fun _ => 0)))), (q5, .inl (ky 0, 6, .inl (fun _ => 0))), (q6, .inl (ky 0, 6, .inl (fun _ => 0))), (q7, .inl (ky 0, 6, .inl (fun _ => 0))), (q8, .inl (ky 0, 6, .inl (fun _ => 0))), (q9, .inl (ky 0, 6, .inl (fun _ => 0)))] := hD
  refine lv_aload_n hx hb dX7_init_76 rfl (lv_at hl 0 rfl) ?_
  refine r_call_v (wr := [(q2, .inl (ky 1, 6, .inr (.inl (fun _ => 0)))), (q3, .inl (ky 0, 6, .inl (fun _ => 0))), (q4, .inl (ky 1, 6, .inr (.inl (fun _ => 0)))), (q5, .inl (ky 0, 6, .inl (fun _ => 0))), (q6, .inl (ky 0, 6, .inl (fun _ => 0))), (q7, .inl (ky 0, 6, .inl (fun _ => 0))), (q8, .inl (ky 0, 6, .inl (fun _ => 0))), (q9, .inl (ky 0, 6, .inl (fun _ => 0)))]) (va_runV (As := []) (rest := []) ⟨hx, hb, hml, hown, hts⟩ (c_s_empty0 l dC dI ky H.size sea (nI 0) (nI 0) (nI 0) (nI 0) (nI 0) (nI 0) (nI 0) (nI 0) (nI 0) (nI 0) q1 q2 q3 q4 q5 q6 q7 q8 q9 (fun _ => 0)) (cwV 0 hts gX7_init_X7_empty rfl rfl rfl (by decide +kernel) ⟨(Nat.le_of_ble_eq_true rfl), (Nat.le_of_ble_eq_true rfl)⟩) (pre_UV hK hP hD [0, 1] (by decide) rfl (ci := 7) (q0 := 0) rfl rfl) rfl rfl hl.1 rfl (lv_room (Nat.le_of_ble_eq_true rfl)) dX7_init_77 ⟨(Nat.le_of_ble_eq_true rfl), (Nat.le_of_ble_eq_true rfl)⟩) hP hD hS hA [0, 1] [2, 3, 4, 5, 6, 7, 8, 9] rfl rfl (by decide) (by decide) (fun  u10 H locs p11 hP hD hS => ?_)
  obtain ⟨wideG_12, highG_13, heatG_14, coolsG_15, skinHeatG_16, todayG_17, stirsG_18, stepsG_19, lumpsG_20, boatsG_21, thicknessG_22⟩ := u10
  try dsimp only at p11
  obtain ⟨p23, p24, p25, p26, p27, p28⟩ := p11
  refine W.widen (k := 9) (n := 84) (Nat.le_of_ble_eq_true rfl) (Nat.le_of_ble_eq_true rfl) ?_
  have hP : va_P (dC, dI) vwCl [(q2, .inl (ky 1, 6, .inr (.inl (fun _ => 0)))), (q3, .inl (ky 0, 6, .inl (fun _ => 0))), (q4, .inl (ky 1, 6, .inr (.inl (fun _ => 0)))), (q5, .inl (ky 0, 6, .inl (fun _ => 0))), (q6, .inl (ky 0, 6, .inl (fun _ => 0))), (q7, .inl (ky 0, 6, .inl (fun _ => 0))), (q8, .inl (ky 0, 6, .inl (fun _ => 0))), (q9, .inl (ky 0, 6, .inl (fun _ => 0))), (sea, .inr (7, [.int wideG_12, .int highG_13, .int heatG_14, .int coolsG_15, .int skinHeatG_16, .int todayG_17, .int stirsG_18, .int stepsG_19, .int lumpsG_20, .int boatsG_21, .ref q1, .ref q2, .ref q3, .ref q4, .ref q5, .ref q6, .ref q7, .ref q8, .ref q9])), (q1, .inl (ky 0, 36, .inl thicknessG_22))] H := hP
  have hD : va_D A [(q2, .inl (ky 1, 6, .inr (.inl (fun _ => 0)))), (q3, .inl (ky 0, 6, .inl (fun _ => 0))), (q4, .inl (ky 1, 6, .inr (.inl (fun _ => 0)))), (q5, .inl (ky 0, 6, .inl (fun _ => 0))), (q6, .inl (ky 0, 6, .inl (fun _ => 0))), (q7, .inl (ky 0, 6, .inl (fun _ => 0))), (q8, .inl (ky 0, 6, .inl (fun _ => 0))), (q9, .inl (ky 0, 6, .inl (fun _ => 0))), (sea, .inr (7, [.int wideG_12, .int highG_13, .int heatG_14, .int coolsG_15, .int skinHeatG_16, .int todayG_17, .int stirsG_18, .int stepsG_19, .int lumpsG_20, .int boatsG_21, .ref q1, .ref q2, .ref q3, .ref q4, .ref q5, .ref q6, .ref q7, .ref q8, .ref q9])), (q1, .inl (ky 0, 36, .inl thicknessG_22))] := hD
  have hP9 := hP.sub (ws' := [(sea, .inr (7, [.int wideG_12, .int highG_13, .int heatG_14, .int coolsG_15, .int skinHeatG_16, .int todayG_17, .int stirsG_18, .int stepsG_19, .int lumpsG_20, .int boatsG_21, .ref q1, .ref q2, .ref q3, .ref q4, .ref q5, .ref q6, .ref q7, .ref q8, .ref q9])), (q1, .inl (ky 0, 36, .inl thicknessG_22)), (q2, .inl (ky 1, 6, .inr (.inl (fun _ => 0)))), (q3, .inl (ky 0, 6, .inl (fun _ => 0))), (q4, .inl (ky 1, 6, .inr (.inl (fun _ => 0)))), (q5, .inl (ky 0, 6, .inl (fun _ => 0))), (q6, .inl (ky 0, 6, .inl (fun _ => 0))), (q7, .inl (ky 0, 6, .inl (fun _ => 0))), (q8, .inl (ky 0, 6, .inl (fun _ => 0))), (q9, .inl (ky 0, 6, .inl (fun _ => 0)))]) [8, 9, 0, 1, 2, 3, 4, 5, 6, 7] rfl
  have hD9 := hD.sub (ws' := [(sea, .inr (7, [.int wideG_12, .int highG_13, .int heatG_14, .int coolsG_15, .int skinHeatG_16, .int todayG_17, .int stirsG_18, .int stepsG_19, .int lumpsG_20, .int boatsG_21, .ref q1, .ref q2, .ref q3, .ref q4, .ref q5, .ref q6, .ref q7, .ref q8, .ref q9])), (q1, .inl (ky 0, 36, .inl thicknessG_22)), (q2, .inl (ky 1, 6, .inr (.inl (fun _ => 0)))), (q3, .inl (ky 0, 6, .inl (fun _ => 0))), (q4, .inl (ky 1, 6, .inr (.inl (fun _ => 0)))), (q5, .inl (ky 0, 6, .inl (fun _ => 0))), (q6, .inl (ky 0, 6, .inl (fun _ => 0))), (q7, .inl (ky 0, 6, .inl (fun _ => 0))), (q8, .inl (ky 0, 6, .inl (fun _ => 0))), (q9, .inl (ky 0, 6, .inl (fun _ => 0)))]) [8, 9, 0, 1, 2, 3, 4, 5, 6, 7] (by decide) rfl
  refine W.widen (k := 9) (n := 84) (Nat.le_of_ble_eq_true rfl) (Nat.le_of_ble_eq_true rfl) ?_
  exact W.vret hx hb hr (fun t ht9 hW9 => ⟨⟨(wideG_12, highG_13, heatG_14, coolsG_15, skinHeatG_16, todayG_17, stirsG_18, stepsG_19, lumpsG_20, boatsG_21, q1, q2, q3, q4, q5, q6, q7, q8, q9, thicknessG_22), rfl, ⟨(lf_i_Sea_1 sea q1 q2 q3 q4 q5 q6 q7 q8 q9 wideG_12 highG_13 heatG_14 coolsG_15 skinHeatG_16 todayG_17 stirsG_18 stepsG_19 lumpsG_20 boatsG_21 thicknessG_22 p23 p24 p25 p26 p27 p28), (lf_i_Sea_2 sea q1 q2 q3 q4 q5 q6 q7 q8 q9 wideG_12 highG_13 heatG_14 coolsG_15 skinHeatG_16 todayG_17 stirsG_18 stepsG_19 lumpsG_20 boatsG_21 thicknessG_22 p23 p24 p25 p26 p27 p28), (lf_i_Sea_3 sea q1 q2 q3 q4 q5 q6 q7 q8 q9 wideG_12 highG_13 heatG_14 coolsG_15 skinHeatG_16 todayG_17 stirsG_18 stepsG_19 lumpsG_20 boatsG_21 thicknessG_22 p23 p24 p25 p26 p27 p28), (lf_i_Sea_4 sea q1 q2 q3 q4 q5 q6 q7 q8 q9 wideG_12 highG_13 heatG_14 coolsG_15 skinHeatG_16 todayG_17 stirsG_18 stepsG_19 lumpsG_20 boatsG_21 thicknessG_22 p23 p24 p25 p26 p27 p28), (lf_i_Sea_5 sea q1 q2 q3 q4 q5 q6 q7 q8 q9 wideG_12 highG_13 heatG_14 coolsG_15 skinHeatG_16 todayG_17 stirsG_18 stepsG_19 lumpsG_20 boatsG_21 thicknessG_22 p23 p24 p25 p26 p27 p28), (lf_i_Sea_6 sea q1 q2 q3 q4 q5 q6 q7 q8 q9 wideG_12 highG_13 heatG_14 coolsG_15 skinHeatG_16 todayG_17 stirsG_18 stepsG_19 lumpsG_20 boatsG_21 thicknessG_22 p23 p24 p25 p26 p27 p28)⟩, by rw [ht9]; exact hP9, va_K.moved hW9.alike hK, hD9⟩, hS.F ht9⟩) hS.2.2 dX7_init_80
set_option maxHeartbeats 4000000 in
set_option maxRecDepth 100000 in
theorem c_i_Reader (l : Launch) (dC : Nat → ClassId) (dI : Nat → Nat → Nat) (ky : Nat → ClassId) (sz : Nat) (reader : Nat)  : Met l yX5_init wsX5_init ({ frames := 1, cells := 1, slots := 940, locals := 12 }) (PcU dC dI ky [.ref reader] [(reader, .inr (5, [.null, .int (nI 0), .int (nI 0), .int (nI 0), .int (nI 0), .int (nI 0), .int (nI 0), .int (nI 0), .long 0, .int (nI 0), .int (nI 0)]))] sz) (va_Qv (fun (rtape : Nat) => True) (BU dC dI ky (fun (rtape : Nat) => [(reader, .inr (5, [.ref rtape, .int (nI 0), .int (nI 0), .int (nI 0), .int (nI 0), .int (nI 0), .int (nI 0), .int (nI 0), .long 0, .int (nI 0), .int (nI 0)])), (rtape, .inl (ky 2, 940, .inl (fun _ => 0)))]) (va_A [(reader, .inr (5, [.null, .int (nI 0), .int (nI 0), .int (nI 0), .int (nI 0), .int (nI 0), .int (nI 0), .int (nI 0), .long 0, .int (nI 0), .int (nI 0)]))] sz)) (va_A [(reader, .inr (5, [.null, .int (nI 0), .int (nI 0), .int (nI 0), .int (nI 0), .int (nI 0), .int (nI 0), .int (nI 0), .long 0, .int (nI 0), .int (nI 0)]))] sz)) 1 940 (va_A [(reader, .inr (5, [.null, .int (nI 0), .int (nI 0), .int (nI 0), .int (nI 0), .int (nI 0), .int (nI 0), .int (nI 0), .long 0, .int (nI 0), .int (nI 0)]))] sz) := by
  refine Met.ofW (cc := cX5_init) (maxL := 1) (ret := none) (by decide) rfl ?_
  intro p e s m args below meth c s₁ B hml hv
  obtain ⟨rfl, hsz, hP, hK, hD0⟩ := hv
  have hx := B.exec
  have hb := B.bytes
  have hr := B.returns
  have hts := atoms_spec (ws := wsX5_init) B.pre
  have hown : s.vm.findClass RX5 = some m.cls := findClass_of_methodNamed B.named
  have hlocks := B.notSynchronized
  have hini0 : meth.name = "<init>" := (name_of_methodNamed B.named B.method).1
  have hin5 : ∀ w ∈ u_ws RX5 TX5 11, w ∈ wsX5_init := by decide +kernel
  subst hsz
  have hD := hD0.self (sz := s.heap.size)
  generalize hAe : va_A [(reader, .inr (5, [.null, .int (nI 0), .int (nI 0), .int (nI 0), .int (nI 0), .int (nI 0), .int (nI 0), .int (nI 0), .long 0, .int (nI 0), .int (nI 0)]))] s.heap.size = A at hD ⊢
  have hA : ∀ q : Nat, s.heap.size ≤ q → A q := fun q h => by rw [← hAe]; exact Or.inr h
  have hS : va_S A s.heap s.heap [] := va_S.rf
  have hP : va_P (dC, dI) vwCl [(reader, .inr (5, [.null, .int (nI 0), .int (nI 0), .int (nI 0), .int (nI 0), .int (nI 0), .int (nI 0), .int (nI 0), .long 0, .int (nI 0), .int (nI 0)]))] s.heap := hP
  have hl := lv_entry ([.ref reader]) (n := 1) (Nat.le_of_ble_eq_true rfl)
  rw [lg_entry_eq]
  generalize (lg_sl ([.ref reader]) ++ List.replicate (1 - (lg_sl ([.ref reader])).length) Slot.unset).toArray = ls at hl ⊢
  have hl : lv_has ls 1 [(0, .ref reader)] := hl
  have hH0 : True := trivial
  refine lv_aload_n hx hb dX5_init_0 rfl (lv_at hl 0 rfl) ?_
  refine W.objInit hx hb hown (hts _ (List.mem_of_getElem? (i := 1) rfl)) (hts _ (List.mem_of_getElem? (i := 2) rfl)) (hts _ (List.mem_of_getElem? (i := 3) rfl)) rfl (by rw [hml]; exact hl.1) rfl dX5_init_1 (Nat.le_of_ble_eq_true rfl) (Nat.le_of_ble_eq_true rfl) ?_
  refine W.eq (g2 := F0 m 4 ls []) rfl ?_
  refine lv_aload_n hx hb dX5_init_4 rfl (lv_at hl 0 rfl) ?_
  refine lv_sipush (v := nI 940) hx hb dX5_init_5 (by decide) ?_
  refine r_newB hx hb (hts (.arrayClass .byte) (List.mem_of_getElem? (i := 4) rfl)) hK hP hD hS hA (by decide) (by decide) (Nat.le_of_ble_eq_true rfl) (Nat.le_of_ble_eq_true rfl) dX5_init_8 (fun q1 H hP hD hS => ?_)
  refine W.widen (k := 1) (n := 940) (Nat.le_of_ble_eq_true rfl) (Nat.le_of_ble_eq_true rfl) ?_
  have hP : va_P (dC, dI) vwCl [(reader, .inr (5, [.null, .int (nI 0), .int (nI 0), .int (nI 0), .int (nI 0), .int (nI 0), .int (nI 0), .int (nI 0), .long 0, .int (nI 0), .int (nI 0)])), (q1, .inl (ky 2, 940, .inl (fun _ => 0)))] H := hP
  have hD : va_D A [(reader, .inr (5, [.null, .int (nI 0), .int (nI 0), .int (nI 0), .int (nI 0), .int (nI 0), .int (nI 0), .int (nI 0), .long 0, .int (nI 0), .int (nI 0)])), (q1, .inl (ky 2, 940, .inl (fun _ => 0)))] := hD
  refine va_putF (D := (dC, dI)) (ci := 5) (v := .ref q1) (ty := .array .byte) (C := RX5) (T := TX5) (N := 11) hx hb hts hin5 tyX5 tyX5_ok nmX5 hown hK hP hD hS 0 rfl rfl 0 (by decide) (hts (.fieldLink RX5 9 "PorridgeSea$Reader" "tape" "[B") (List.mem_of_getElem? (i := 5) rfl)) (fun _ h9 => h9) rfl hini0 rfl (by decide +kernel) rfl rfl (Nat.le_of_ble_eq_true rfl) dX5_init_10 (fun H locs hP hD hS => ?_)
  have hP : va_P (dC, dI) vwCl [(reader, .inr (5, [.ref q1, .int (nI 0), .int (nI 0), .int (nI 0), .int (nI 0), .int (nI 0), .int (nI 0), .int (nI 0), .long 0, .int (nI 0), .int (nI 0)])), (q1, .inl (ky 2, 940, .inl (fun _ => 0)))] H := hP
  have hD : va_D A [(reader, .inr (5, [.ref q1, .int (nI 0), .int (nI 0), .int (nI 0), .int (nI 0), .int (nI 0), .int (nI 0), .int (nI 0), .long 0, .int (nI 0), .int (nI 0)])), (q1, .inl (ky 2, 940, .inl (fun _ => 0)))] := hD
  have hP9 := hP.sub (ws' := [(reader, .inr (5, [.ref q1, .int (nI 0), .int (nI 0), .int (nI 0), .int (nI 0), .int (nI 0), .int (nI 0), .int (nI 0), .long 0, .int (nI 0), .int (nI 0)])), (q1, .inl (ky 2, 940, .inl (fun _ => 0)))]) [0, 1] rfl
  have hD9 := hD.sub (ws' := [(reader, .inr (5, [.ref q1, .int (nI 0), .int (nI 0), .int (nI 0), .int (nI 0), .int (nI 0), .int (nI 0), .int (nI 0), .long 0, .int (nI 0), .int (nI 0)])), (q1, .inl (ky 2, 940, .inl (fun _ => 0)))]) [0, 1] (by decide) rfl
  refine W.widen (k := 1) (n := 940) (Nat.le_of_ble_eq_true rfl) (Nat.le_of_ble_eq_true rfl) ?_
  exact W.vret hx hb hr (fun t ht9 hW9 => ⟨⟨q1, rfl, trivial, by rw [ht9]; exact hP9, va_K.moved hW9.alike hK, hD9⟩, hS.F ht9⟩) hS.2.2 dX5_init_13
set_option maxHeartbeats 4000000 in
set_option maxRecDepth 100000 in
theorem c_i_Text (l : Launch) (dC : Nat → ClassId) (dI : Nat → Nat → Nat) (ky : Nat → ClassId) (sz : Nat) (seaText : Nat)  : Met l yX8_init wsX8_init ({ frames := 1, cells := 0, slots := 0, locals := 12 }) (PcU dC dI ky [.ref seaText] [(seaText, .inr (8, [.int (nI 0)]))] sz) (va_Qv (fun (_ : Unit) => True) (BU dC dI ky (fun (_ : Unit) => [(seaText, .inr (8, [.int (nI 0)]))]) (va_A [(seaText, .inr (8, [.int (nI 0)]))] sz)) (va_A [(seaText, .inr (8, [.int (nI 0)]))] sz)) 0 0 (va_A [(seaText, .inr (8, [.int (nI 0)]))] sz) := by
  refine Met.ofW (cc := cX8_init) (maxL := 1) (ret := none) (by decide) rfl ?_
  intro p e s m args below meth c s₁ B hml hv
  obtain ⟨rfl, hsz, hP, hK, hD0⟩ := hv
  have hx := B.exec
  have hb := B.bytes
  have hr := B.returns
  have hts := atoms_spec (ws := wsX8_init) B.pre
  have hown : s.vm.findClass RX8 = some m.cls := findClass_of_methodNamed B.named
  have hlocks := B.notSynchronized
  have hini0 : meth.name = "<init>" := (name_of_methodNamed B.named B.method).1
  subst hsz
  have hD := hD0.self (sz := s.heap.size)
  generalize hAe : va_A [(seaText, .inr (8, [.int (nI 0)]))] s.heap.size = A at hD ⊢
  have hA : ∀ q : Nat, s.heap.size ≤ q → A q := fun q h => by rw [← hAe]; exact Or.inr h
  have hS : va_S A s.heap s.heap [] := va_S.rf
  have hP : va_P (dC, dI) vwCl [(seaText, .inr (8, [.int (nI 0)]))] s.heap := hP
  have hl := lv_entry ([.ref seaText]) (n := 1) (Nat.le_of_ble_eq_true rfl)
  rw [lg_entry_eq]
  generalize (lg_sl ([.ref seaText]) ++ List.replicate (1 - (lg_sl ([.ref seaText])).length) Slot.unset).toArray = ls at hl ⊢
  have hl : lv_has ls 1 [(0, .ref seaText)] := hl
  have hH0 : True := trivial
  refine lv_aload_n hx hb dX8_init_0 rfl (lv_at hl 0 rfl) ?_
  refine W.objInit hx hb hown (hts _ (List.mem_of_getElem? (i := 1) rfl)) (hts _ (List.mem_of_getElem? (i := 2) rfl)) (hts _ (List.mem_of_getElem? (i := 3) rfl)) rfl (by rw [hml]; exact hl.1) rfl dX8_init_1 (Nat.le_of_ble_eq_true rfl) (Nat.le_of_ble_eq_true rfl) ?_
  refine W.eq (g2 := F0 m 4 ls []) rfl ?_
  have hP9 := hP.sub (ws' := [(seaText, .inr (8, [.int (nI 0)]))]) [0] rfl
  have hD9 := hD.sub (ws' := [(seaText, .inr (8, [.int (nI 0)]))]) [0] (by decide) rfl
  refine W.widen (k := 0) (n := 0) (Nat.le_of_ble_eq_true rfl) (Nat.le_of_ble_eq_true rfl) ?_
  exact W.vret hx hb hr (fun t ht9 hW9 => ⟨⟨(), rfl, trivial, by rw [ht9]; exact hP9, va_K.moved hW9.alike hK, hD9⟩, hS.F ht9⟩) hS.2.2 dX8_init_4
set_option maxHeartbeats 4000000 in
set_option maxRecDepth 100000 in
theorem c_i_Book (l : Launch) (dC : Nat → ClassId) (dI : Nat → Nat → Nat) (ky : Nat → ClassId) (sz : Nat) (book : Nat)  : Met l yX0_init wsX0_init ({ frames := 1, cells := 1, slots := 160, locals := 12 }) (PcU dC dI ky [.ref book] [(book, .inr (0, [.null, .int (nI 0), .int (nI 0), .int (nI 0), .int (nI 0), .int (nI 0), .int (nI 0)]))] sz) (va_Qv (fun (blines : Nat) => True) (BU dC dI ky (fun (blines : Nat) => [(book, .inr (0, [.ref blines, .int (nI 0), .int (nI 0), .int (nI 0), .int (nI 0), .int (nI 0), .int (nI 0)])), (blines, .inl (ky 0, 160, .inl (fun _ => 0)))]) (va_A [(book, .inr (0, [.null, .int (nI 0), .int (nI 0), .int (nI 0), .int (nI 0), .int (nI 0), .int (nI 0)]))] sz)) (va_A [(book, .inr (0, [.null, .int (nI 0), .int (nI 0), .int (nI 0), .int (nI 0), .int (nI 0), .int (nI 0)]))] sz)) 1 160 (va_A [(book, .inr (0, [.null, .int (nI 0), .int (nI 0), .int (nI 0), .int (nI 0), .int (nI 0), .int (nI 0)]))] sz) := by
  refine Met.ofW (cc := cX0_init) (maxL := 1) (ret := none) (by decide) rfl ?_
  intro p e s m args below meth c s₁ B hml hv
  obtain ⟨rfl, hsz, hP, hK, hD0⟩ := hv
  have hx := B.exec
  have hb := B.bytes
  have hr := B.returns
  have hts := atoms_spec (ws := wsX0_init) B.pre
  have hown : s.vm.findClass RX0 = some m.cls := findClass_of_methodNamed B.named
  have hlocks := B.notSynchronized
  have hini0 : meth.name = "<init>" := (name_of_methodNamed B.named B.method).1
  have hin0 : ∀ w ∈ u_ws RX0 TX0 7, w ∈ wsX0_init := by decide +kernel
  subst hsz
  have hD := hD0.self (sz := s.heap.size)
  generalize hAe : va_A [(book, .inr (0, [.null, .int (nI 0), .int (nI 0), .int (nI 0), .int (nI 0), .int (nI 0), .int (nI 0)]))] s.heap.size = A at hD ⊢
  have hA : ∀ q : Nat, s.heap.size ≤ q → A q := fun q h => by rw [← hAe]; exact Or.inr h
  have hS : va_S A s.heap s.heap [] := va_S.rf
  have hP : va_P (dC, dI) vwCl [(book, .inr (0, [.null, .int (nI 0), .int (nI 0), .int (nI 0), .int (nI 0), .int (nI 0), .int (nI 0)]))] s.heap := hP
  have hl := lv_entry ([.ref book]) (n := 1) (Nat.le_of_ble_eq_true rfl)
  rw [lg_entry_eq]
  generalize (lg_sl ([.ref book]) ++ List.replicate (1 - (lg_sl ([.ref book])).length) Slot.unset).toArray = ls at hl ⊢
  have hl : lv_has ls 1 [(0, .ref book)] := hl
  have hH0 : True := trivial
  refine lv_aload_n hx hb dX0_init_0 rfl (lv_at hl 0 rfl) ?_
  refine W.objInit hx hb hown (hts _ (List.mem_of_getElem? (i := 1) rfl)) (hts _ (List.mem_of_getElem? (i := 2) rfl)) (hts _ (List.mem_of_getElem? (i := 3) rfl)) rfl (by rw [hml]; exact hl.1) rfl dX0_init_1 (Nat.le_of_ble_eq_true rfl) (Nat.le_of_ble_eq_true rfl) ?_
  refine W.eq (g2 := F0 m 4 ls []) rfl ?_
  refine lv_aload_n hx hb dX0_init_4 rfl (lv_at hl 0 rfl) ?_
  refine lv_sipush (v := nI 160) hx hb dX0_init_5 (by decide) ?_
  refine r_newI hx hb (hts (.arrayClass .int) (List.mem_of_getElem? (i := 4) rfl)) hK hP hD hS hA (by decide) (by decide) (Nat.le_of_ble_eq_true rfl) (Nat.le_of_ble_eq_true rfl) dX0_init_8 (fun q1 H hP hD hS => ?_)
  refine W.widen (k := 1) (n := 160) (Nat.le_of_ble_eq_true rfl) (Nat.le_of_ble_eq_true rfl) ?_
  have hP : va_P (dC, dI) vwCl [(book, .inr (0, [.null, .int (nI 0), .int (nI 0), .int (nI 0), .int (nI 0), .int (nI 0), .int (nI 0)])), (q1, .inl (ky 0, 160, .inl (fun _ => 0)))] H := hP
  have hD : va_D A [(book, .inr (0, [.null, .int (nI 0), .int (nI 0), .int (nI 0), .int (nI 0), .int (nI 0), .int (nI 0)])), (q1, .inl (ky 0, 160, .inl (fun _ => 0)))] := hD
  refine va_putF (D := (dC, dI)) (ci := 0) (v := .ref q1) (ty := .array .int) (C := RX0) (T := TX0) (N := 7) hx hb hts hin0 tyX0 tyX0_ok nmX0 hown hK hP hD hS 0 rfl rfl 0 (by decide) (hts (.fieldLink RX0 11 "PorridgeSea$Book" "lines" "[I") (List.mem_of_getElem? (i := 5) rfl)) (fun _ h9 => h9) rfl hini0 rfl (by decide +kernel) rfl rfl (Nat.le_of_ble_eq_true rfl) dX0_init_10 (fun H locs hP hD hS => ?_)
  have hP : va_P (dC, dI) vwCl [(book, .inr (0, [.ref q1, .int (nI 0), .int (nI 0), .int (nI 0), .int (nI 0), .int (nI 0), .int (nI 0)])), (q1, .inl (ky 0, 160, .inl (fun _ => 0)))] H := hP
  have hD : va_D A [(book, .inr (0, [.ref q1, .int (nI 0), .int (nI 0), .int (nI 0), .int (nI 0), .int (nI 0), .int (nI 0)])), (q1, .inl (ky 0, 160, .inl (fun _ => 0)))] := hD
  refine lv_aload_n hx hb dX0_init_13 rfl (lv_at hl 0 rfl) ?_
  refine lv_iconst (v := nI 0) hx hb dX0_init_14 (by decide) ?_
  refine va_put (D := (dC, dI)) (ci := 0) (v := .int (nI 0)) (ty := .int) (C := RX0) (T := TX0) (N := 7) hx hb hts hin0 tyX0 tyX0_ok nmX0 hown hK hP hD hS 0 rfl rfl 1 (by decide) (hts (.fieldLink RX0 15 "PorridgeSea$Book" "lineCount" "I") (List.mem_of_getElem? (i := 6) rfl)) (fun _ h9 => h9) rfl (by decide +kernel) rfl rfl (Nat.le_of_ble_eq_true rfl) dX0_init_15 (fun H locs hP hD hS => ?_)
  have hP : va_P (dC, dI) vwCl [(book, .inr (0, [.ref q1, .int (nI 0), .int (nI 0), .int (nI 0), .int (nI 0), .int (nI 0), .int (nI 0)])), (q1, .inl (ky 0, 160, .inl (fun _ => 0)))] H := hP
  have hD : va_D A [(book, .inr (0, [.ref q1, .int (nI 0), .int (nI 0), .int (nI 0), .int (nI 0), .int (nI 0), .int (nI 0)])), (q1, .inl (ky 0, 160, .inl (fun _ => 0)))] := hD
  refine lv_aload_n hx hb dX0_init_18 rfl (lv_at hl 0 rfl) ?_
  refine lv_iconst (v := nI 0) hx hb dX0_init_19 (by decide) ?_
  refine va_put (D := (dC, dI)) (ci := 0) (v := .int (nI 0)) (ty := .boolean) (C := RX0) (T := TX0) (N := 7) hx hb hts hin0 tyX0 tyX0_ok nmX0 hown hK hP hD hS 0 rfl rfl 2 (by decide) (hts (.fieldLink RX0 19 "PorridgeSea$Book" "lived" "Z") (List.mem_of_getElem? (i := 7) rfl)) (fun _ h9 => h9) rfl (by decide +kernel) (by decide) (by decide) (Nat.le_of_ble_eq_true rfl) dX0_init_20 (fun H locs hP hD hS => ?_)
  have hP : va_P (dC, dI) vwCl [(book, .inr (0, [.ref q1, .int (nI 0), .int (nI 0), .int (nI 0), .int (nI 0), .int (nI 0), .int (nI 0)])), (q1, .inl (ky 0, 160, .inl (fun _ => 0)))] H := hP
  have hD : va_D A [(book, .inr (0, [.ref q1, .int (nI 0), .int (nI 0), .int (nI 0), .int (nI 0), .int (nI 0), .int (nI 0)])), (q1, .inl (ky 0, 160, .inl (fun _ => 0)))] := hD
  have hP9 := hP.sub (ws' := [(book, .inr (0, [.ref q1, .int (nI 0), .int (nI 0), .int (nI 0), .int (nI 0), .int (nI 0), .int (nI 0)])), (q1, .inl (ky 0, 160, .inl (fun _ => 0)))]) [0, 1] rfl
  have hD9 := hD.sub (ws' := [(book, .inr (0, [.ref q1, .int (nI 0), .int (nI 0), .int (nI 0), .int (nI 0), .int (nI 0), .int (nI 0)])), (q1, .inl (ky 0, 160, .inl (fun _ => 0)))]) [0, 1] (by decide) rfl
  refine W.widen (k := 1) (n := 160) (Nat.le_of_ble_eq_true rfl) (Nat.le_of_ble_eq_true rfl) ?_
  exact W.vret hx hb hr (fun t ht9 hW9 => ⟨⟨q1, rfl, trivial, by rw [ht9]; exact hP9, va_K.moved hW9.alike hK, hD9⟩, hS.F ht9⟩) hS.2.2 dX0_init_23
set_option maxHeartbeats 4000000 in
set_option maxRecDepth 100000 in
theorem c_i_Sent (l : Launch) (dC : Nat → ClassId) (dI : Nat → Nat → Nat) (ky : Nat → ClassId) (sz : Nat) (sentence : Nat)  : Met l yX9_init wsX9_init ({ frames := 1, cells := 1, slots := 40, locals := 12 }) (PcU dC dI ky [.ref sentence] [(sentence, .inr (9, [.null, .int (nI 0), .int (nI 0)]))] sz) (va_Qv (fun (ccodes : Nat) => True) (BU dC dI ky (fun (ccodes : Nat) => [(sentence, .inr (9, [.ref ccodes, .int (nI 0), .int (nI 0)])), (ccodes, .inl (ky 0, 40, .inl (fun _ => 0)))]) (va_A [(sentence, .inr (9, [.null, .int (nI 0), .int (nI 0)]))] sz)) (va_A [(sentence, .inr (9, [.null, .int (nI 0), .int (nI 0)]))] sz)) 1 40 (va_A [(sentence, .inr (9, [.null, .int (nI 0), .int (nI 0)]))] sz) := by
  refine Met.ofW (cc := cX9_init) (maxL := 1) (ret := none) (by decide) rfl ?_
  intro p e s m args below meth c s₁ B hml hv
  obtain ⟨rfl, hsz, hP, hK, hD0⟩ := hv
  have hx := B.exec
  have hb := B.bytes
  have hr := B.returns
  have hts := atoms_spec (ws := wsX9_init) B.pre
  have hown : s.vm.findClass RX9 = some m.cls := findClass_of_methodNamed B.named
  have hlocks := B.notSynchronized
  have hini0 : meth.name = "<init>" := (name_of_methodNamed B.named B.method).1
  have hin9 : ∀ w ∈ u_ws RX9 TX9 3, w ∈ wsX9_init := by decide +kernel
  subst hsz
  have hD := hD0.self (sz := s.heap.size)
  generalize hAe : va_A [(sentence, .inr (9, [.null, .int (nI 0), .int (nI 0)]))] s.heap.size = A at hD ⊢
  have hA : ∀ q : Nat, s.heap.size ≤ q → A q := fun q h => by rw [← hAe]; exact Or.inr h
  have hS : va_S A s.heap s.heap [] := va_S.rf
  have hP : va_P (dC, dI) vwCl [(sentence, .inr (9, [.null, .int (nI 0), .int (nI 0)]))] s.heap := hP
  have hl := lv_entry ([.ref sentence]) (n := 1) (Nat.le_of_ble_eq_true rfl)
  rw [lg_entry_eq]
  generalize (lg_sl ([.ref sentence]) ++ List.replicate (1 - (lg_sl ([.ref sentence])).length) Slot.unset).toArray = ls at hl ⊢
  have hl : lv_has ls 1 [(0, .ref sentence)] := hl
  have hH0 : True := trivial
  refine lv_aload_n hx hb dX9_init_0 rfl (lv_at hl 0 rfl) ?_
  refine W.objInit hx hb hown (hts _ (List.mem_of_getElem? (i := 1) rfl)) (hts _ (List.mem_of_getElem? (i := 2) rfl)) (hts _ (List.mem_of_getElem? (i := 3) rfl)) rfl (by rw [hml]; exact hl.1) rfl dX9_init_1 (Nat.le_of_ble_eq_true rfl) (Nat.le_of_ble_eq_true rfl) ?_
  refine W.eq (g2 := F0 m 4 ls []) rfl ?_
  refine lv_aload_n hx hb dX9_init_4 rfl (lv_at hl 0 rfl) ?_
  refine lv_bipush (v := nI 40) hx hb dX9_init_5 (by decide) ?_
  refine r_newI hx hb (hts (.arrayClass .int) (List.mem_of_getElem? (i := 4) rfl)) hK hP hD hS hA (by decide) (by decide) (Nat.le_of_ble_eq_true rfl) (Nat.le_of_ble_eq_true rfl) dX9_init_7 (fun q1 H hP hD hS => ?_)
  refine W.widen (k := 1) (n := 40) (Nat.le_of_ble_eq_true rfl) (Nat.le_of_ble_eq_true rfl) ?_
  have hP : va_P (dC, dI) vwCl [(sentence, .inr (9, [.null, .int (nI 0), .int (nI 0)])), (q1, .inl (ky 0, 40, .inl (fun _ => 0)))] H := hP
  have hD : va_D A [(sentence, .inr (9, [.null, .int (nI 0), .int (nI 0)])), (q1, .inl (ky 0, 40, .inl (fun _ => 0)))] := hD
  refine va_putF (D := (dC, dI)) (ci := 9) (v := .ref q1) (ty := .array .int) (C := RX9) (T := TX9) (N := 3) hx hb hts hin9 tyX9 tyX9_ok nmX9 hown hK hP hD hS 0 rfl rfl 0 (by decide) (hts (.fieldLink RX9 11 "PorridgeSea$Sentence" "codes" "[I") (List.mem_of_getElem? (i := 5) rfl)) (fun _ h9 => h9) rfl hini0 rfl (by decide +kernel) rfl rfl (Nat.le_of_ble_eq_true rfl) dX9_init_9 (fun H locs hP hD hS => ?_)
  have hP : va_P (dC, dI) vwCl [(sentence, .inr (9, [.ref q1, .int (nI 0), .int (nI 0)])), (q1, .inl (ky 0, 40, .inl (fun _ => 0)))] H := hP
  have hD : va_D A [(sentence, .inr (9, [.ref q1, .int (nI 0), .int (nI 0)])), (q1, .inl (ky 0, 40, .inl (fun _ => 0)))] := hD
  refine lv_aload_n hx hb dX9_init_12 rfl (lv_at hl 0 rfl) ?_
  refine lv_iconst (v := nI 0) hx hb dX9_init_13 (by decide) ?_
  refine va_put (D := (dC, dI)) (ci := 9) (v := .int (nI 0)) (ty := .int) (C := RX9) (T := TX9) (N := 3) hx hb hts hin9 tyX9 tyX9_ok nmX9 hown hK hP hD hS 0 rfl rfl 1 (by decide) (hts (.fieldLink RX9 15 "PorridgeSea$Sentence" "codeCount" "I") (List.mem_of_getElem? (i := 6) rfl)) (fun _ h9 => h9) rfl (by decide +kernel) rfl rfl (Nat.le_of_ble_eq_true rfl) dX9_init_14 (fun H locs hP hD hS => ?_)
  have hP : va_P (dC, dI) vwCl [(sentence, .inr (9, [.ref q1, .int (nI 0), .int (nI 0)])), (q1, .inl (ky 0, 40, .inl (fun _ => 0)))] H := hP
  have hD : va_D A [(sentence, .inr (9, [.ref q1, .int (nI 0), .int (nI 0)])), (q1, .inl (ky 0, 40, .inl (fun _ => 0)))] := hD
  refine lv_aload_n hx hb dX9_init_17 rfl (lv_at hl 0 rfl) ?_
  refine lv_iconst (v := nI 0) hx hb dX9_init_18 (by decide) ?_
  refine va_put (D := (dC, dI)) (ci := 9) (v := .int (nI 0)) (ty := .int) (C := RX9) (T := TX9) (N := 3) hx hb hts hin9 tyX9 tyX9_ok nmX9 hown hK hP hD hS 0 rfl rfl 2 (by decide) (hts (.fieldLink RX9 19 "PorridgeSea$Sentence" "ones" "I") (List.mem_of_getElem? (i := 7) rfl)) (fun _ h9 => h9) rfl (by decide +kernel) rfl rfl (Nat.le_of_ble_eq_true rfl) dX9_init_19 (fun H locs hP hD hS => ?_)
  have hP : va_P (dC, dI) vwCl [(sentence, .inr (9, [.ref q1, .int (nI 0), .int (nI 0)])), (q1, .inl (ky 0, 40, .inl (fun _ => 0)))] H := hP
  have hD : va_D A [(sentence, .inr (9, [.ref q1, .int (nI 0), .int (nI 0)])), (q1, .inl (ky 0, 40, .inl (fun _ => 0)))] := hD
  have hP9 := hP.sub (ws' := [(sentence, .inr (9, [.ref q1, .int (nI 0), .int (nI 0)])), (q1, .inl (ky 0, 40, .inl (fun _ => 0)))]) [0, 1] rfl
  have hD9 := hD.sub (ws' := [(sentence, .inr (9, [.ref q1, .int (nI 0), .int (nI 0)])), (q1, .inl (ky 0, 40, .inl (fun _ => 0)))]) [0, 1] (by decide) rfl
  refine W.widen (k := 1) (n := 40) (Nat.le_of_ble_eq_true rfl) (Nat.le_of_ble_eq_true rfl) ?_
  exact W.vret hx hb hr (fun t ht9 hW9 => ⟨⟨q1, rfl, trivial, by rw [ht9]; exact hP9, va_K.moved hW9.alike hK, hD9⟩, hS.F ht9⟩) hS.2.2 dX9_init_22
set_option maxHeartbeats 4000000 in
set_option maxRecDepth 100000 in
theorem c_i_Route (l : Launch) (dC : Nat → ClassId) (dI : Nat → Nat → Nat) (ky : Nat → ClassId) (sz : Nat) (route : Nat)  : Met l yX6_init wsX6_init ({ frames := 1, cells := 2, slots := 72, locals := 12 }) (PcU dC dI ky [.ref route] [(route, .inr (6, [.null, .null, .int (nI 0), .int (nI 0)]))] sz) (va_Qv (fun (u : Nat × Nat) => match u with | (ofarness, osides) => True) (BU dC dI ky (fun (u : Nat × Nat) => match u with | (ofarness, osides) => [(route, .inr (6, [.ref ofarness, .ref osides, .int (nI 0), .int (-1 : Int32)])), (ofarness, .inl (ky 0, 36, .inl (fun _ => 0))), (osides, .inl (ky 0, 36, .inl (fun _ => 0)))]) (va_A [(route, .inr (6, [.null, .null, .int (nI 0), .int (nI 0)]))] sz)) (va_A [(route, .inr (6, [.null, .null, .int (nI 0), .int (nI 0)]))] sz)) 2 72 (va_A [(route, .inr (6, [.null, .null, .int (nI 0), .int (nI 0)]))] sz) := by
  refine Met.ofW (cc := cX6_init) (maxL := 1) (ret := none) (by decide) rfl ?_
  intro p e s m args below meth c s₁ B hml hv
  obtain ⟨rfl, hsz, hP, hK, hD0⟩ := hv
  have hx := B.exec
  have hb := B.bytes
  have hr := B.returns
  have hts := atoms_spec (ws := wsX6_init) B.pre
  have hown : s.vm.findClass RX6 = some m.cls := findClass_of_methodNamed B.named
  have hlocks := B.notSynchronized
  have hini0 : meth.name = "<init>" := (name_of_methodNamed B.named B.method).1
  have hin6 : ∀ w ∈ u_ws RX6 TX6 4, w ∈ wsX6_init := by decide +kernel
  subst hsz
  have hD := hD0.self (sz := s.heap.size)
  generalize hAe : va_A [(route, .inr (6, [.null, .null, .int (nI 0), .int (nI 0)]))] s.heap.size = A at hD ⊢
  have hA : ∀ q : Nat, s.heap.size ≤ q → A q := fun q h => by rw [← hAe]; exact Or.inr h
  have hS : va_S A s.heap s.heap [] := va_S.rf
  have hP : va_P (dC, dI) vwCl [(route, .inr (6, [.null, .null, .int (nI 0), .int (nI 0)]))] s.heap := hP
  have hl := lv_entry ([.ref route]) (n := 1) (Nat.le_of_ble_eq_true rfl)
  rw [lg_entry_eq]
  generalize (lg_sl ([.ref route]) ++ List.replicate (1 - (lg_sl ([.ref route])).length) Slot.unset).toArray = ls at hl ⊢
  have hl : lv_has ls 1 [(0, .ref route)] := hl
  have hH0 : True := trivial
  refine lv_aload_n hx hb dX6_init_0 rfl (lv_at hl 0 rfl) ?_
  refine W.objInit hx hb hown (hts _ (List.mem_of_getElem? (i := 1) rfl)) (hts _ (List.mem_of_getElem? (i := 2) rfl)) (hts _ (List.mem_of_getElem? (i := 3) rfl)) rfl (by rw [hml]; exact hl.1) rfl dX6_init_1 (Nat.le_of_ble_eq_true rfl) (Nat.le_of_ble_eq_true rfl) ?_
  refine W.eq (g2 := F0 m 4 ls []) rfl ?_
  refine lv_aload_n hx hb dX6_init_4 rfl (lv_at hl 0 rfl) ?_
  refine lv_bipush (v := nI 36) hx hb dX6_init_5 (by decide) ?_
  refine r_newI hx hb (hts (.arrayClass .int) (List.mem_of_getElem? (i := 4) rfl)) hK hP hD hS hA (by decide) (by decide) (Nat.le_of_ble_eq_true rfl) (Nat.le_of_ble_eq_true rfl) dX6_init_7 (fun q1 H hP hD hS => ?_)
  refine W.widen (k := 1) (n := 36) (Nat.le_of_ble_eq_true rfl) (Nat.le_of_ble_eq_true rfl) ?_
  have hP : va_P (dC, dI) vwCl [(route, .inr (6, [.null, .null, .int (nI 0), .int (nI 0)])), (q1, .inl (ky 0, 36, .inl (fun _ => 0)))] H := hP
  have hD : va_D A [(route, .inr (6, [.null, .null, .int (nI 0), .int (nI 0)])), (q1, .inl (ky 0, 36, .inl (fun _ => 0)))] := hD
  refine va_putF (D := (dC, dI)) (ci := 6) (v := .ref q1) (ty := .array .int) (C := RX6) (T := TX6) (N := 4) hx hb hts hin6 tyX6 tyX6_ok nmX6 hown hK hP hD hS 0 rfl rfl 0 (by decide) (hts (.fieldLink RX6 9 "PorridgeSea$Route" "farness" "[I") (List.mem_of_getElem? (i := 5) rfl)) (fun _ h9 => h9) rfl hini0 rfl (by decide +kernel) rfl rfl (Nat.le_of_ble_eq_true rfl) dX6_init_9 (fun H locs hP hD hS => ?_)
  have hP : va_P (dC, dI) vwCl [(route, .inr (6, [.ref q1, .null, .int (nI 0), .int (nI 0)])), (q1, .inl (ky 0, 36, .inl (fun _ => 0)))] H := hP
  have hD : va_D A [(route, .inr (6, [.ref q1, .null, .int (nI 0), .int (nI 0)])), (q1, .inl (ky 0, 36, .inl (fun _ => 0)))] := hD
  refine lv_aload_n hx hb dX6_init_12 rfl (lv_at hl 0 rfl) ?_
  refine lv_bipush (v := nI 36) hx hb dX6_init_13 (by decide) ?_
  refine r_newI hx hb (hts (.arrayClass .int) (List.mem_of_getElem? (i := 4) rfl)) hK hP hD hS hA (by decide) (by decide) (Nat.le_of_ble_eq_true rfl) (Nat.le_of_ble_eq_true rfl) dX6_init_15 (fun q2 H hP hD hS => ?_)
  refine W.widen (k := 2) (n := 72) (Nat.le_of_ble_eq_true rfl) (Nat.le_of_ble_eq_true rfl) ?_
  have hP : va_P (dC, dI) vwCl [(route, .inr (6, [.ref q1, .null, .int (nI 0), .int (nI 0)])), (q1, .inl (ky 0, 36, .inl (fun _ => 0))), (q2, .inl (ky 0, 36, .inl (fun _ => 0)))] H := hP
  have hD : va_D A [(route, .inr (6, [.ref q1, .null, .int (nI 0), .int (nI 0)])), (q1, .inl (ky 0, 36, .inl (fun _ => 0))), (q2, .inl (ky 0, 36, .inl (fun _ => 0)))] := hD
  refine va_putF (D := (dC, dI)) (ci := 6) (v := .ref q2) (ty := .array .int) (C := RX6) (T := TX6) (N := 4) hx hb hts hin6 tyX6 tyX6_ok nmX6 hown hK hP hD hS 0 rfl rfl 1 (by decide) (hts (.fieldLink RX6 15 "PorridgeSea$Route" "sides" "[I") (List.mem_of_getElem? (i := 6) rfl)) (fun _ h9 => h9) rfl hini0 rfl (by decide +kernel) rfl rfl (Nat.le_of_ble_eq_true rfl) dX6_init_17 (fun H locs hP hD hS => ?_)
  have hP : va_P (dC, dI) vwCl [(route, .inr (6, [.ref q1, .ref q2, .int (nI 0), .int (nI 0)])), (q1, .inl (ky 0, 36, .inl (fun _ => 0))), (q2, .inl (ky 0, 36, .inl (fun _ => 0)))] H := hP
  have hD : va_D A [(route, .inr (6, [.ref q1, .ref q2, .int (nI 0), .int (nI 0)])), (q1, .inl (ky 0, 36, .inl (fun _ => 0))), (q2, .inl (ky 0, 36, .inl (fun _ => 0)))] := hD
  refine lv_aload_n hx hb dX6_init_20 rfl (lv_at hl 0 rfl) ?_
  refine lv_iconst (v := nI 0) hx hb dX6_init_21 (by decide) ?_
  refine va_put (D := (dC, dI)) (ci := 6) (v := .int (nI 0)) (ty := .int) (C := RX6) (T := TX6) (N := 4) hx hb hts hin6 tyX6 tyX6_ok nmX6 hown hK hP hD hS 0 rfl rfl 2 (by decide) (hts (.fieldLink RX6 18 "PorridgeSea$Route" "stepCount" "I") (List.mem_of_getElem? (i := 7) rfl)) (fun _ h9 => h9) rfl (by decide +kernel) rfl rfl (Nat.le_of_ble_eq_true rfl) dX6_init_22 (fun H locs hP hD hS => ?_)
  have hP : va_P (dC, dI) vwCl [(route, .inr (6, [.ref q1, .ref q2, .int (nI 0), .int (nI 0)])), (q1, .inl (ky 0, 36, .inl (fun _ => 0))), (q2, .inl (ky 0, 36, .inl (fun _ => 0)))] H := hP
  have hD : va_D A [(route, .inr (6, [.ref q1, .ref q2, .int (nI 0), .int (nI 0)])), (q1, .inl (ky 0, 36, .inl (fun _ => 0))), (q2, .inl (ky 0, 36, .inl (fun _ => 0)))] := hD
  refine lv_aload_n hx hb dX6_init_25 rfl (lv_at hl 0 rfl) ?_
  refine lv_iconst (v := (-1 : Int32)) hx hb dX6_init_26 (by decide) ?_
  refine va_put (D := (dC, dI)) (ci := 6) (v := .int (-1 : Int32)) (ty := .int) (C := RX6) (T := TX6) (N := 4) hx hb hts hin6 tyX6 tyX6_ok nmX6 hown hK hP hD hS 0 rfl rfl 3 (by decide) (hts (.fieldLink RX6 22 "PorridgeSea$Route" "daysTaken" "I") (List.mem_of_getElem? (i := 8) rfl)) (fun _ h9 => h9) rfl (by decide +kernel) rfl rfl (Nat.le_of_ble_eq_true rfl) dX6_init_27 (fun H locs hP hD hS => ?_)
  have hP : va_P (dC, dI) vwCl [(route, .inr (6, [.ref q1, .ref q2, .int (nI 0), .int (-1 : Int32)])), (q1, .inl (ky 0, 36, .inl (fun _ => 0))), (q2, .inl (ky 0, 36, .inl (fun _ => 0)))] H := hP
  have hD : va_D A [(route, .inr (6, [.ref q1, .ref q2, .int (nI 0), .int (-1 : Int32)])), (q1, .inl (ky 0, 36, .inl (fun _ => 0))), (q2, .inl (ky 0, 36, .inl (fun _ => 0)))] := hD
  have hP9 := hP.sub (ws' := [(route, .inr (6, [.ref q1, .ref q2, .int (nI 0), .int (-1 : Int32)])), (q1, .inl (ky 0, 36, .inl (fun _ => 0))), (q2, .inl (ky 0, 36, .inl (fun _ => 0)))]) [0, 1, 2] rfl
  have hD9 := hD.sub (ws' := [(route, .inr (6, [.ref q1, .ref q2, .int (nI 0), .int (-1 : Int32)])), (q1, .inl (ky 0, 36, .inl (fun _ => 0))), (q2, .inl (ky 0, 36, .inl (fun _ => 0)))]) [0, 1, 2] (by decide) rfl
  refine W.widen (k := 2) (n := 72) (Nat.le_of_ble_eq_true rfl) (Nat.le_of_ble_eq_true rfl) ?_
  exact W.vret hx hb hr (fun t ht9 hW9 => ⟨⟨(q1, q2), rfl, trivial, by rw [ht9]; exact hP9, va_K.moved hW9.alike hK, hD9⟩, hS.F ht9⟩) hS.2.2 dX6_init_30
set_option maxHeartbeats 4000000 in
set_option maxRecDepth 100000 in
theorem c_i_Meet (l : Launch) (dC : Nat → ClassId) (dI : Nat → Nat → Nat) (ky : Nat → ClassId) (sz : Nat) (meeting : Nat)  : Met l yX4_init wsX4_init ({ frames := 1, cells := 2, slots := 6, locals := 12 }) (PcU dC dI ky [.ref meeting] [(meeting, .inr (4, [.null, .null, .int (nI 0)]))] sz) (va_Qv (fun (u : Nat × Nat) => match u with | (mtried, mfound) => True) (BU dC dI ky (fun (u : Nat × Nat) => match u with | (mtried, mfound) => [(meeting, .inr (4, [.ref mtried, .ref mfound, .int (nI 0)])), (mtried, .inl (ky 0, 3, .inl (fun _ => 0))), (mfound, .inl (ky 0, 3, .inl (fun _ => 0)))]) (va_A [(meeting, .inr (4, [.null, .null, .int (nI 0)]))] sz)) (va_A [(meeting, .inr (4, [.null, .null, .int (nI 0)]))] sz)) 2 6 (va_A [(meeting, .inr (4, [.null, .null, .int (nI 0)]))] sz) := by
  refine Met.ofW (cc := cX4_init) (maxL := 1) (ret := none) (by decide) rfl ?_
  intro p e s m args below meth c s₁ B hml hv
  obtain ⟨rfl, hsz, hP, hK, hD0⟩ := hv
  have hx := B.exec
  have hb := B.bytes
  have hr := B.returns
  have hts := atoms_spec (ws := wsX4_init) B.pre
  have hown : s.vm.findClass RX4 = some m.cls := findClass_of_methodNamed B.named
  have hlocks := B.notSynchronized
  have hini0 : meth.name = "<init>" := (name_of_methodNamed B.named B.method).1
  have hin4 : ∀ w ∈ u_ws RX4 TX4 3, w ∈ wsX4_init := by decide +kernel
  subst hsz
  have hD := hD0.self (sz := s.heap.size)
  generalize hAe : va_A [(meeting, .inr (4, [.null, .null, .int (nI 0)]))] s.heap.size = A at hD ⊢
  have hA : ∀ q : Nat, s.heap.size ≤ q → A q := fun q h => by rw [← hAe]; exact Or.inr h
  have hS : va_S A s.heap s.heap [] := va_S.rf
  have hP : va_P (dC, dI) vwCl [(meeting, .inr (4, [.null, .null, .int (nI 0)]))] s.heap := hP
  have hl := lv_entry ([.ref meeting]) (n := 1) (Nat.le_of_ble_eq_true rfl)
  rw [lg_entry_eq]
  generalize (lg_sl ([.ref meeting]) ++ List.replicate (1 - (lg_sl ([.ref meeting])).length) Slot.unset).toArray = ls at hl ⊢
  have hl : lv_has ls 1 [(0, .ref meeting)] := hl
  have hH0 : True := trivial
  refine lv_aload_n hx hb dX4_init_0 rfl (lv_at hl 0 rfl) ?_
  refine W.objInit hx hb hown (hts _ (List.mem_of_getElem? (i := 1) rfl)) (hts _ (List.mem_of_getElem? (i := 2) rfl)) (hts _ (List.mem_of_getElem? (i := 3) rfl)) rfl (by rw [hml]; exact hl.1) rfl dX4_init_1 (Nat.le_of_ble_eq_true rfl) (Nat.le_of_ble_eq_true rfl) ?_
  refine W.eq (g2 := F0 m 4 ls []) rfl ?_
  refine lv_aload_n hx hb dX4_init_4 rfl (lv_at hl 0 rfl) ?_
  refine lv_iconst (v := nI 3) hx hb dX4_init_5 (by decide) ?_
  refine r_newI hx hb (hts (.arrayClass .int) (List.mem_of_getElem? (i := 4) rfl)) hK hP hD hS hA (by decide) (by decide) (Nat.le_of_ble_eq_true rfl) (Nat.le_of_ble_eq_true rfl) dX4_init_6 (fun q1 H hP hD hS => ?_)
  refine W.widen (k := 1) (n := 3) (Nat.le_of_ble_eq_true rfl) (Nat.le_of_ble_eq_true rfl) ?_
  have hP : va_P (dC, dI) vwCl [(meeting, .inr (4, [.null, .null, .int (nI 0)])), (q1, .inl (ky 0, 3, .inl (fun _ => 0)))] H := hP
  have hD : va_D A [(meeting, .inr (4, [.null, .null, .int (nI 0)])), (q1, .inl (ky 0, 3, .inl (fun _ => 0)))] := hD
  refine va_putF (D := (dC, dI)) (ci := 4) (v := .ref q1) (ty := .array .int) (C := RX4) (T := TX4) (N := 3) hx hb hts hin4 tyX4 tyX4_ok nmX4 hown hK hP hD hS 0 rfl rfl 0 (by decide) (hts (.fieldLink RX4 11 "PorridgeSea$Meeting" "tried" "[I") (List.mem_of_getElem? (i := 5) rfl)) (fun _ h9 => h9) rfl hini0 rfl (by decide +kernel) rfl rfl (Nat.le_of_ble_eq_true rfl) dX4_init_8 (fun H locs hP hD hS => ?_)
  have hP : va_P (dC, dI) vwCl [(meeting, .inr (4, [.ref q1, .null, .int (nI 0)])), (q1, .inl (ky 0, 3, .inl (fun _ => 0)))] H := hP
  have hD : va_D A [(meeting, .inr (4, [.ref q1, .null, .int (nI 0)])), (q1, .inl (ky 0, 3, .inl (fun _ => 0)))] := hD
  refine lv_aload_n hx hb dX4_init_11 rfl (lv_at hl 0 rfl) ?_
  refine lv_iconst (v := nI 3) hx hb dX4_init_12 (by decide) ?_
  refine r_newI hx hb (hts (.arrayClass .int) (List.mem_of_getElem? (i := 4) rfl)) hK hP hD hS hA (by decide) (by decide) (Nat.le_of_ble_eq_true rfl) (Nat.le_of_ble_eq_true rfl) dX4_init_13 (fun q2 H hP hD hS => ?_)
  refine W.widen (k := 2) (n := 6) (Nat.le_of_ble_eq_true rfl) (Nat.le_of_ble_eq_true rfl) ?_
  have hP : va_P (dC, dI) vwCl [(meeting, .inr (4, [.ref q1, .null, .int (nI 0)])), (q1, .inl (ky 0, 3, .inl (fun _ => 0))), (q2, .inl (ky 0, 3, .inl (fun _ => 0)))] H := hP
  have hD : va_D A [(meeting, .inr (4, [.ref q1, .null, .int (nI 0)])), (q1, .inl (ky 0, 3, .inl (fun _ => 0))), (q2, .inl (ky 0, 3, .inl (fun _ => 0)))] := hD
  refine va_putF (D := (dC, dI)) (ci := 4) (v := .ref q2) (ty := .array .int) (C := RX4) (T := TX4) (N := 3) hx hb hts hin4 tyX4 tyX4_ok nmX4 hown hK hP hD hS 0 rfl rfl 1 (by decide) (hts (.fieldLink RX4 15 "PorridgeSea$Meeting" "found" "[I") (List.mem_of_getElem? (i := 6) rfl)) (fun _ h9 => h9) rfl hini0 rfl (by decide +kernel) rfl rfl (Nat.le_of_ble_eq_true rfl) dX4_init_15 (fun H locs hP hD hS => ?_)
  have hP : va_P (dC, dI) vwCl [(meeting, .inr (4, [.ref q1, .ref q2, .int (nI 0)])), (q1, .inl (ky 0, 3, .inl (fun _ => 0))), (q2, .inl (ky 0, 3, .inl (fun _ => 0)))] H := hP
  have hD : va_D A [(meeting, .inr (4, [.ref q1, .ref q2, .int (nI 0)])), (q1, .inl (ky 0, 3, .inl (fun _ => 0))), (q2, .inl (ky 0, 3, .inl (fun _ => 0)))] := hD
  refine lv_aload_n hx hb dX4_init_18 rfl (lv_at hl 0 rfl) ?_
  refine lv_iconst (v := nI 0) hx hb dX4_init_19 (by decide) ?_
  refine va_put (D := (dC, dI)) (ci := 4) (v := .int (nI 0)) (ty := .int) (C := RX4) (T := TX4) (N := 3) hx hb hts hin4 tyX4 tyX4_ok nmX4 hown hK hP hD hS 0 rfl rfl 2 (by decide) (hts (.fieldLink RX4 18 "PorridgeSea$Meeting" "foundCount" "I") (List.mem_of_getElem? (i := 7) rfl)) (fun _ h9 => h9) rfl (by decide +kernel) rfl rfl (Nat.le_of_ble_eq_true rfl) dX4_init_20 (fun H locs hP hD hS => ?_)
  have hP : va_P (dC, dI) vwCl [(meeting, .inr (4, [.ref q1, .ref q2, .int (nI 0)])), (q1, .inl (ky 0, 3, .inl (fun _ => 0))), (q2, .inl (ky 0, 3, .inl (fun _ => 0)))] H := hP
  have hD : va_D A [(meeting, .inr (4, [.ref q1, .ref q2, .int (nI 0)])), (q1, .inl (ky 0, 3, .inl (fun _ => 0))), (q2, .inl (ky 0, 3, .inl (fun _ => 0)))] := hD
  have hP9 := hP.sub (ws' := [(meeting, .inr (4, [.ref q1, .ref q2, .int (nI 0)])), (q1, .inl (ky 0, 3, .inl (fun _ => 0))), (q2, .inl (ky 0, 3, .inl (fun _ => 0)))]) [0, 1, 2] rfl
  have hD9 := hD.sub (ws' := [(meeting, .inr (4, [.ref q1, .ref q2, .int (nI 0)])), (q1, .inl (ky 0, 3, .inl (fun _ => 0))), (q2, .inl (ky 0, 3, .inl (fun _ => 0)))]) [0, 1, 2] (by decide) rfl
  refine W.widen (k := 2) (n := 6) (Nat.le_of_ble_eq_true rfl) (Nat.le_of_ble_eq_true rfl) ?_
  exact W.vret hx hb hr (fun t ht9 hW9 => ⟨⟨(q1, q2), rfl, trivial, by rw [ht9]; exact hP9, va_K.moved hW9.alike hK, hD9⟩, hS.F ht9⟩) hS.2.2 dX4_init_23
set_option maxHeartbeats 4000000 in
set_option maxRecDepth 100000 in
theorem c_i_Sight (l : Launch) (dC : Nat → ClassId) (dI : Nat → Nat → Nat) (ky : Nat → ClassId) (sz : Nat) (sighting : Nat)  : Met l yX10_init wsX10_init ({ frames := 1, cells := 0, slots := 0, locals := 12 }) (PcU dC dI ky [.ref sighting] [(sighting, .inr (10, [.long 0, .int (nI 0)]))] sz) (va_Qv (fun (_ : Unit) => True) (BU dC dI ky (fun (_ : Unit) => [(sighting, .inr (10, [.long 0, .int (-1 : Int32)]))]) (va_A [(sighting, .inr (10, [.long 0, .int (nI 0)]))] sz)) (va_A [(sighting, .inr (10, [.long 0, .int (nI 0)]))] sz)) 0 0 (va_A [(sighting, .inr (10, [.long 0, .int (nI 0)]))] sz) := by
  refine Met.ofW (cc := cX10_init) (maxL := 1) (ret := none) (by decide) rfl ?_
  intro p e s m args below meth c s₁ B hml hv
  obtain ⟨rfl, hsz, hP, hK, hD0⟩ := hv
  have hx := B.exec
  have hb := B.bytes
  have hr := B.returns
  have hts := atoms_spec (ws := wsX10_init) B.pre
  have hown : s.vm.findClass RX10 = some m.cls := findClass_of_methodNamed B.named
  have hlocks := B.notSynchronized
  have hini0 : meth.name = "<init>" := (name_of_methodNamed B.named B.method).1
  have hin10 : ∀ w ∈ u_ws RX10 TX10 2, w ∈ wsX10_init := by decide +kernel
  subst hsz
  have hD := hD0.self (sz := s.heap.size)
  generalize hAe : va_A [(sighting, .inr (10, [.long 0, .int (nI 0)]))] s.heap.size = A at hD ⊢
  have hA : ∀ q : Nat, s.heap.size ≤ q → A q := fun q h => by rw [← hAe]; exact Or.inr h
  have hS : va_S A s.heap s.heap [] := va_S.rf
  have hP : va_P (dC, dI) vwCl [(sighting, .inr (10, [.long 0, .int (nI 0)]))] s.heap := hP
  have hl := lv_entry ([.ref sighting]) (n := 1) (Nat.le_of_ble_eq_true rfl)
  rw [lg_entry_eq]
  generalize (lg_sl ([.ref sighting]) ++ List.replicate (1 - (lg_sl ([.ref sighting])).length) Slot.unset).toArray = ls at hl ⊢
  have hl : lv_has ls 1 [(0, .ref sighting)] := hl
  have hH0 : True := trivial
  refine lv_aload_n hx hb dX10_init_0 rfl (lv_at hl 0 rfl) ?_
  refine W.objInit hx hb hown (hts _ (List.mem_of_getElem? (i := 1) rfl)) (hts _ (List.mem_of_getElem? (i := 2) rfl)) (hts _ (List.mem_of_getElem? (i := 3) rfl)) rfl (by rw [hml]; exact hl.1) rfl dX10_init_1 (Nat.le_of_ble_eq_true rfl) (Nat.le_of_ble_eq_true rfl) ?_
  refine W.eq (g2 := F0 m 4 ls []) rfl ?_
  refine lv_aload_n hx hb dX10_init_4 rfl (lv_at hl 0 rfl) ?_
  refine lv_lconst (v := 0) hx hb dX10_init_5 (by decide) ?_
  refine va_put (D := (dC, dI)) (ci := 10) (v := .long 0) (ty := .long) (C := RX10) (T := TX10) (N := 2) hx hb hts hin10 tyX10 tyX10_ok nmX10 hown hK hP hD hS 0 rfl rfl 0 (by decide) (hts (.fieldLink RX10 9 "PorridgeSea$Sighting" "cellBits" "J") (List.mem_of_getElem? (i := 4) rfl)) (fun _ h9 => h9) rfl (by decide +kernel) rfl rfl (Nat.le_of_ble_eq_true rfl) dX10_init_6 (fun H locs hP hD hS => ?_)
  have hP : va_P (dC, dI) vwCl [(sighting, .inr (10, [.long 0, .int (nI 0)]))] H := hP
  have hD : va_D A [(sighting, .inr (10, [.long 0, .int (nI 0)]))] := hD
  refine lv_aload_n hx hb dX10_init_9 rfl (lv_at hl 0 rfl) ?_
  refine lv_iconst (v := (-1 : Int32)) hx hb dX10_init_10 (by decide) ?_
  refine va_put (D := (dC, dI)) (ci := 10) (v := .int (-1 : Int32)) (ty := .int) (C := RX10) (T := TX10) (N := 2) hx hb hts hin10 tyX10 tyX10_ok nmX10 hown hK hP hD hS 0 rfl rfl 1 (by decide) (hts (.fieldLink RX10 15 "PorridgeSea$Sighting" "bestBoat" "I") (List.mem_of_getElem? (i := 5) rfl)) (fun _ h9 => h9) rfl (by decide +kernel) rfl rfl (Nat.le_of_ble_eq_true rfl) dX10_init_11 (fun H locs hP hD hS => ?_)
  have hP : va_P (dC, dI) vwCl [(sighting, .inr (10, [.long 0, .int (-1 : Int32)]))] H := hP
  have hD : va_D A [(sighting, .inr (10, [.long 0, .int (-1 : Int32)]))] := hD
  have hP9 := hP.sub (ws' := [(sighting, .inr (10, [.long 0, .int (-1 : Int32)]))]) [0] rfl
  have hD9 := hD.sub (ws' := [(sighting, .inr (10, [.long 0, .int (-1 : Int32)]))]) [0] (by decide) rfl
  refine W.widen (k := 0) (n := 0) (Nat.le_of_ble_eq_true rfl) (Nat.le_of_ble_eq_true rfl) ?_
  exact W.vret hx hb hr (fun t ht9 hW9 => ⟨⟨(), rfl, trivial, by rw [ht9]; exact hP9, va_K.moved hW9.alike hK, hD9⟩, hS.F ht9⟩) hS.2.2 dX10_init_14
set_option maxHeartbeats 4000000 in
set_option maxRecDepth 100000 in
theorem c_i_Draws (l : Launch) (dC : Nat → ClassId) (dI : Nat → Nat → Nat) (ky : Nat → ClassId) (sz : Nat) (draws : Nat)  : Met l yX1_init wsX1_init ({ frames := 1, cells := 0, slots := 0, locals := 12 }) (PcU dC dI ky [.ref draws] [(draws, .inr (1, [.int (nI 0)]))] sz) (va_Qv (fun (_ : Unit) => True) (BU dC dI ky (fun (_ : Unit) => [(draws, .inr (1, [.int (nI 0)]))]) (va_A [(draws, .inr (1, [.int (nI 0)]))] sz)) (va_A [(draws, .inr (1, [.int (nI 0)]))] sz)) 0 0 (va_A [(draws, .inr (1, [.int (nI 0)]))] sz) := by
  refine Met.ofW (cc := cX1_init) (maxL := 1) (ret := none) (by decide) rfl ?_
  intro p e s m args below meth c s₁ B hml hv
  obtain ⟨rfl, hsz, hP, hK, hD0⟩ := hv
  have hx := B.exec
  have hb := B.bytes
  have hr := B.returns
  have hts := atoms_spec (ws := wsX1_init) B.pre
  have hown : s.vm.findClass RX1 = some m.cls := findClass_of_methodNamed B.named
  have hlocks := B.notSynchronized
  have hini0 : meth.name = "<init>" := (name_of_methodNamed B.named B.method).1
  subst hsz
  have hD := hD0.self (sz := s.heap.size)
  generalize hAe : va_A [(draws, .inr (1, [.int (nI 0)]))] s.heap.size = A at hD ⊢
  have hA : ∀ q : Nat, s.heap.size ≤ q → A q := fun q h => by rw [← hAe]; exact Or.inr h
  have hS : va_S A s.heap s.heap [] := va_S.rf
  have hP : va_P (dC, dI) vwCl [(draws, .inr (1, [.int (nI 0)]))] s.heap := hP
  have hl := lv_entry ([.ref draws]) (n := 1) (Nat.le_of_ble_eq_true rfl)
  rw [lg_entry_eq]
  generalize (lg_sl ([.ref draws]) ++ List.replicate (1 - (lg_sl ([.ref draws])).length) Slot.unset).toArray = ls at hl ⊢
  have hl : lv_has ls 1 [(0, .ref draws)] := hl
  have hH0 : True := trivial
  refine lv_aload_n hx hb dX1_init_0 rfl (lv_at hl 0 rfl) ?_
  refine W.objInit hx hb hown (hts _ (List.mem_of_getElem? (i := 1) rfl)) (hts _ (List.mem_of_getElem? (i := 2) rfl)) (hts _ (List.mem_of_getElem? (i := 3) rfl)) rfl (by rw [hml]; exact hl.1) rfl dX1_init_1 (Nat.le_of_ble_eq_true rfl) (Nat.le_of_ble_eq_true rfl) ?_
  refine W.eq (g2 := F0 m 4 ls []) rfl ?_
  have hP9 := hP.sub (ws' := [(draws, .inr (1, [.int (nI 0)]))]) [0] rfl
  have hD9 := hD.sub (ws' := [(draws, .inr (1, [.int (nI 0)]))]) [0] (by decide) rfl
  refine W.widen (k := 0) (n := 0) (Nat.le_of_ble_eq_true rfl) (Nat.le_of_ble_eq_true rfl) ?_
  exact W.vret hx hb hr (fun t ht9 hW9 => ⟨⟨(), rfl, trivial, by rw [ht9]; exact hP9, va_K.moved hW9.alike hK, hD9⟩, hS.F ht9⟩) hS.2.2 dX1_init_4
