theorem dX11_boat_0 : decode cX11_boat 0 = .ok (.aload_n 0, 1) := by decide +kernel
theorem dX11_boat_1 : decode cX11_boat 1 = .ok (.getfield 26, 3) := by decide +kernel
theorem dX11_boat_4 : decode cX11_boat 4 = .ok (.iload_n 1, 1) := by decide +kernel
theorem dX11_boat_5 : decode cX11_boat 5 = .ok (.invokevirtual 157, 3) := by decide +kernel
theorem dX11_boat_8 : decode cX11_boat 8 = .ok (.ifCond .eq 13, 3) := by decide +kernel
theorem dX11_boat_11 : decode cX11_boat 11 = .ok (.iload_n 2, 1) := by decide +kernel
theorem dX11_boat_12 : decode cX11_boat 12 = .ok (.ifCond .lt 9, 3) := by decide +kernel
theorem dX11_boat_21 : decode cX11_boat 21 = .ok (.new 160, 3) := by decide +kernel
theorem dX11_boat_24 : decode cX11_boat 24 = .ok (.dup, 1) := by decide +kernel
theorem dX11_boat_25 : decode cX11_boat 25 = .ok (.ldc 162, 2) := by decide +kernel
theorem dX11_boat_27 : decode cX11_boat 27 = .ok (.invokespecial 164, 3) := by decide +kernel
theorem dX11_boat_30 : decode cX11_boat 30 = .ok (.athrow, 1) := by decide +kernel
theorem dX11_boat_15 : decode cX11_boat 15 = .ok (.iload_n 2, 1) := by decide +kernel
theorem dX11_boat_16 : decode cX11_boat 16 = .ok (.bipush 7, 2) := by decide +kernel
theorem dX11_boat_18 : decode cX11_boat 18 = .ok (.if_icmp .le 13, 3) := by decide +kernel
theorem dX11_mean_0 : decode cX11_mean 0 = .ok (.iload_n 1, 1) := by decide +kernel
theorem dX11_mean_1 : decode cX11_mean 1 = .ok (.ifCond .lt 23, 3) := by decide +kernel
theorem dX11_mean_24 : decode cX11_mean 24 = .ok (.new 160, 3) := by decide +kernel
theorem dX11_mean_27 : decode cX11_mean 27 = .ok (.dup, 1) := by decide +kernel
theorem dX11_mean_28 : decode cX11_mean 28 = .ok (.ldc_w 290, 3) := by decide +kernel
theorem dX11_mean_31 : decode cX11_mean 31 = .ok (.invokespecial 164, 3) := by decide +kernel
theorem dX11_mean_34 : decode cX11_mean 34 = .ok (.athrow, 1) := by decide +kernel
theorem dX11_mean_4 : decode cX11_mean 4 = .ok (.iload_n 1, 1) := by decide +kernel
theorem dX11_mean_5 : decode cX11_mean 5 = .ok (.aload_n 0, 1) := by decide +kernel
theorem dX11_mean_6 : decode cX11_mean 6 = .ok (.getfield 26, 3) := by decide +kernel
theorem dX11_mean_9 : decode cX11_mean 9 = .ok (.getfield 200, 3) := by decide +kernel
theorem dX11_mean_12 : decode cX11_mean 12 = .ok (.if_icmp .ge 12, 3) := by decide +kernel
theorem dX11_mean_15 : decode cX11_mean 15 = .ok (.iload_n 2, 1) := by decide +kernel
theorem dX11_mean_16 : decode cX11_mean 16 = .ok (.ifCond .lt 8, 3) := by decide +kernel
theorem dX11_mean_19 : decode cX11_mean 19 = .ok (.iload_n 2, 1) := by decide +kernel
theorem dX11_mean_20 : decode cX11_mean 20 = .ok (.iconst 1, 1) := by decide +kernel
theorem dX11_mean_21 : decode cX11_mean 21 = .ok (.if_icmp .le 14, 3) := by decide +kernel
theorem dX11_boat_31 : decode cX11_boat 31 = .ok (.aload_n 0, 1) := by decide +kernel
theorem dX11_boat_32 : decode cX11_boat 32 = .ok (.getfield 26, 3) := by decide +kernel
theorem dX11_boat_35 : decode cX11_boat 35 = .ok (.iload_n 1, 1) := by decide +kernel
theorem dX11_boat_36 : decode cX11_boat 36 = .ok (.iload_n 2, 1) := by decide +kernel
theorem dX11_boat_37 : decode cX11_boat 37 = .ok (.invokevirtual 167, 3) := by decide +kernel
theorem dX11_boat_40 : decode cX11_boat 40 = .ok (.ireturn, 1) := by decide +kernel
theorem dX11_mean_35 : decode cX11_mean 35 = .ok (.iconst 0, 1) := by decide +kernel
theorem dX11_mean_36 : decode cX11_mean 36 = .ok (.istore_n 3, 1) := by decide +kernel
theorem dX11_mean_37 : decode cX11_mean 37 = .ok (.iconst 0, 1) := by decide +kernel
theorem dX11_mean_38 : decode cX11_mean 38 = .ok (.istore 4, 2) := by decide +kernel
theorem dX11_mean_40 : decode cX11_mean 40 = .ok (.iload 4, 2) := by decide +kernel
theorem dX11_mean_42 : decode cX11_mean 42 = .ok (.aload_n 0, 1) := by decide +kernel
theorem dX11_mean_43 : decode cX11_mean 43 = .ok (.getfield 26, 3) := by decide +kernel
theorem dX11_mean_46 : decode cX11_mean 46 = .ok (.getfield 197, 3) := by decide +kernel
theorem dX11_mean_49 : decode cX11_mean 49 = .ok (.if_icmp .ge 26, 3) := by decide +kernel
theorem dX11_mean_52 : decode cX11_mean 52 = .ok (.iload_n 3, 1) := by decide +kernel
theorem dX11_mean_53 : decode cX11_mean 53 = .ok (.aload_n 0, 1) := by decide +kernel
theorem dX11_mean_54 : decode cX11_mean 54 = .ok (.getfield 26, 3) := by decide +kernel
theorem dX11_mean_57 : decode cX11_mean 57 = .ok (.bipush 6, 2) := by decide +kernel
theorem dX11_mean_59 : decode cX11_mean 59 = .ok (.iload_n 1, 1) := by decide +kernel
theorem dX11_mean_60 : decode cX11_mean 60 = .ok (.imul, 1) := by decide +kernel
theorem dX11_mean_61 : decode cX11_mean 61 = .ok (.iload 4, 2) := by decide +kernel
theorem dX11_mean_63 : decode cX11_mean 63 = .ok (.iadd, 1) := by decide +kernel
theorem dX11_mean_64 : decode cX11_mean 64 = .ok (.invokevirtual 145, 3) := by decide +kernel
theorem dX11_mean_67 : decode cX11_mean 67 = .ok (.iadd, 1) := by decide +kernel
theorem dX11_mean_68 : decode cX11_mean 68 = .ok (.istore_n 3, 1) := by decide +kernel
theorem dX11_mean_69 : decode cX11_mean 69 = .ok (.iinc 4 1, 3) := by decide +kernel
theorem dX11_mean_72 : decode cX11_mean 72 = .ok (.goto (-32), 3) := by decide +kernel
theorem dX11_mean_75 : decode cX11_mean 75 = .ok (.iload_n 3, 1) := by decide +kernel
theorem dX11_mean_76 : decode cX11_mean 76 = .ok (.aload_n 0, 1) := by decide +kernel
theorem dX11_mean_77 : decode cX11_mean 77 = .ok (.getfield 26, 3) := by decide +kernel
theorem dX11_mean_80 : decode cX11_mean 80 = .ok (.getfield 197, 3) := by decide +kernel
theorem dX11_mean_83 : decode cX11_mean 83 = .ok (.invokestatic 292, 3) := by decide +kernel
theorem dX11_mean_86 : decode cX11_mean 86 = .ok (.istore 4, 2) := by decide +kernel
theorem dX11_mean_88 : decode cX11_mean 88 = .ok (.iload_n 2, 1) := by decide +kernel
theorem dX11_mean_89 : decode cX11_mean 89 = .ok (.ifCond .ne 7, 3) := by decide +kernel
theorem dX11_mean_96 : decode cX11_mean 96 = .ok (.aload_n 0, 1) := by decide +kernel
theorem dX11_mean_97 : decode cX11_mean 97 = .ok (.getfield 26, 3) := by decide +kernel
theorem dX11_mean_100 : decode cX11_mean 100 = .ok (.getfield 197, 3) := by decide +kernel
theorem dX11_mean_103 : decode cX11_mean 103 = .ok (.iload 4, 2) := by decide +kernel
theorem dX11_mean_105 : decode cX11_mean 105 = .ok (.idiv, 1) := by decide +kernel
theorem dX11_mean_106 : decode cX11_mean 106 = .ok (.ireturn, 1) := by decide +kernel
theorem dX11_mean_92 : decode cX11_mean 92 = .ok (.iload_n 3, 1) := by decide +kernel
theorem dX11_mean_93 : decode cX11_mean 93 = .ok (.goto 10, 3) := by decide +kernel
set_option maxRecDepth 100000 in
theorem ggX11_boat_X7_isBoat : GoodIn wsX11_boat wsX7_isBoat := goodIn_r _ [8, 9, 67, 68, 69, 70, 71, 72, 73, 74, 75, 76, 77, 78, 79, 80, 81, 82, 83, 84, 85] rfl (by decide +kernel)
set_option maxRecDepth 100000 in
theorem ggX11_boat_X7_factOfBoat : GoodIn wsX11_boat wsX7_factOfBoat := goodIn_r _ [13, 14, 15, 16, 17, 18, 19, 5, 6, 7, 8, 9, 20, 21, 22, 23, 24, 25, 26, 27, 28, 29, 30, 31, 32, 33, 34, 35, 36, 37, 38, 39, 40, 41, 42, 43, 44, 45, 46, 47, 48, 67, 68, 69, 70, 71, 72, 73, 74, 75, 76, 77, 78, 79, 80, 81, 82, 83, 84, 85] rfl (by decide +kernel)
set_option maxRecDepth 100000 in
theorem ggX11_mean_X7_thicknessIn : GoodIn wsX11_mean wsX7_thicknessIn := goodIn_r _ [10, 11, 34, 35, 36, 37, 38, 39, 40, 41, 42, 43, 44, 45, 46, 47, 48, 49, 50, 51, 52] rfl (by decide +kernel)
set_option maxRecDepth 100000 in
theorem ggX11_mean_X11_commonDivisor : GoodIn wsX11_mean wsX11_commonDivisor := goodIn_r _ [15] rfl (by decide +kernel)
set_option maxRecDepth 100000 in
theorem gX11_boat_X7_isBoat : GoodIn wsX11_boat (wsV RX11 157 RX7 yX7_isBoat wsX7_isBoat) := goodIn_app (goodIn_of _ (by decide +kernel)) ggX11_boat_X7_isBoat
set_option maxRecDepth 100000 in
theorem gX11_boat_X7_factOfBoat : GoodIn wsX11_boat (wsV RX11 167 RX7 yX7_factOfBoat wsX7_factOfBoat) := goodIn_app (goodIn_of _ (by decide +kernel)) ggX11_boat_X7_factOfBoat
set_option maxRecDepth 100000 in
theorem gX11_mean_X7_thicknessIn : GoodIn wsX11_mean (wsV RX11 145 RX7 yX7_thicknessIn wsX7_thicknessIn) := goodIn_app (goodIn_of _ (by decide +kernel)) ggX11_mean_X7_thicknessIn
set_option maxRecDepth 100000 in
theorem gX11_mean_X11_commonDivisor : GoodIn wsX11_mean (va_wsS RX11 292 yX11_commonDivisor wsX11_commonDivisor) := goodIn_app (goodIn_of _ (by decide +kernel)) ggX11_mean_X11_commonDivisor
set_option maxRecDepth 20000 in
theorem lf_p_boatX_1 (tapeLength : Nat) (chartLength : Nat) (wide : Nat) (high : Nat) (lumps : Nat) (boats : Nat) (x : Int32) (y : Int32) (iv_t_0 : tapeLength ≤ 940) (iv_t_1 : chartLength ≤ 32) (iv_sea_0 : 2 ≤ wide) (iv_sea_1 : wide ≤ 6) (iv_sea_2 : 2 ≤ high) (iv_sea_3 : high ≤ 6) (iv_sea_4 : lumps ≤ 6) (iv_sea_5 : boats ≤ 6) (hno : ¬ (0 ≤ x.toInt ∧ x.toInt < boats ∧ 0 ≤ y.toInt ∧ y.toInt ≤ 7)) (t3 : 0 ≤ x.toInt) (t4 : x.toInt < boats) (c7 : ¬ y < 0) (c8 : y ≤ nI 7) : False := by
  have b_x := ia_b x
  have b_y := ia_b y
  try have k_0 := ia_n 7 (by first | decide | omega)
  try simp only [ia_lt, ia_le, ia_eq, ia_m1, ia_0, ia_1, ne_eq, true_and, and_true, false_and, and_false, or_false, false_or, or_true, true_or, not_true_eq_false, not_false_eq_true] at *
  all_goals omega
set_option maxHeartbeats 4000000 in
set_option maxRecDepth 100000 in
theorem c_p_boatX (l : Launch) (dC : Nat → ClassId) (dI : Nat → Nat → Nat) (ky : Nat → ClassId) (hst : l.stackTraces = false) (sz : Nat) (t : Nat) (reader : Nat) (tapeLength : Nat) (latestFault : Int32) (sea : Nat) (spareSea : Nat) (seaText : Nat) (book : Nat) (sentence : Nat) (spareSentence : Nat) (route : Nat) (meeting : Nat) (sighting : Nat) (draws : Nat) (history : Nat) (images : Nat) (chartBytes : Nat) (chartLength : Nat) (fleetBits : Int32) (wide : Nat) (high : Nat) (heat : Int32) (cools : Int32) (skinHeat : Int32) (today : Int32) (stirs : Int32) (steps : Int32) (lumps : Nat) (boats : Nat) (thickness : Nat) (lumpNames : Nat) (lumpCells : Nat) (boatNames : Nat) (boatCells : Nat) (loads : Nat) (spoons : Nat) (spoonsLeft : Nat) (depths : Nat) (x : Int32) (y : Int32) (iv_t_0 : tapeLength ≤ 940) (iv_t_1 : chartLength ≤ 32) (iv_sea_0 : 2 ≤ wide) (iv_sea_1 : wide ≤ 6) (iv_sea_2 : 2 ≤ high) (iv_sea_3 : high ≤ 6) (iv_sea_4 : lumps ≤ 6) (iv_sea_5 : boats ≤ 6) (hno : ¬ (0 ≤ x.toInt ∧ x.toInt < boats ∧ 0 ≤ y.toInt ∧ y.toInt ≤ 7)) : vx_Met l yX11_boat wsX11_boat ({ frames := 8, cells := 1, slots := 6, locals := 120 }) (PcT dC dI ky [.ref t, .int x, .int y] [(t, .inr (11, [.ref reader, .int (nI tapeLength), .int latestFault, .ref sea, .ref spareSea, .ref seaText, .ref book, .ref sentence, .ref spareSentence, .ref route, .ref meeting, .ref sighting, .ref draws, .ref history, .ref images, .ref chartBytes, .int (nI chartLength), .int fleetBits])), (sea, .inr (7, [.int (nI wide), .int (nI high), .int heat, .int cools, .int skinHeat, .int today, .int stirs, .int steps, .int (nI lumps), .int (nI boats), .ref thickness, .ref lumpNames, .ref lumpCells, .ref boatNames, .ref boatCells, .ref loads, .ref spoons, .ref spoonsLeft, .ref depths]))] sz) (va_Qi (fun (_ : Int32) (_ : Unit) => False) (fun _ _ => True) (fun _ => False)) thX 1 6 (fun _ => False) := by
  refine vx_ofW (cc := cX11_boat) (maxL := 3) (ret := (some .int)) (by decide) rfl ?_
  intro p e s m args below meth c s₁ B hml hxt hv
  obtain ⟨rfl, hsz, hP, hK, hD0, hTU, hTN, ⟨sa1, hR1⟩, ⟨sa2, hR2⟩, hd1, hd2, hd3, hcast⟩ := hv
  have hstr := hR1
  have hx := B.exec
  have hb := B.bytes
  have hr := B.returns
  have hts := atoms_spec (ws := wsX11_boat) B.pre
  have hown : s.vm.findClass RX11 = some m.cls := findClass_of_methodNamed B.named
  have hat : ∀ w ∈ th_atS RX11 164 "java/util/NoSuchElementException" ["java/lang/RuntimeException", "java/lang/Exception"], w.before _ s = true := vx_hat (B := thBadL) (fun w h => hts w (List.mem_cons_of_mem _ (List.mem_append_right _ h))) (fun w h => by rw [show (th_atS RX11 164 "java/util/NoSuchElementException" ["java/lang/RuntimeException", "java/lang/Exception"]).filter (fun w => !goodWord w) = thBadL from thBad_one] at h; exact h) (fun w h => by rcases List.mem_cons.mp h with rfl | h; exact va_Nw.use rfl hd1; rcases List.mem_cons.mp h with rfl | h; exact va_Nw.use rfl hd2; rcases List.mem_cons.mp h with rfl | h; exact va_Nw.use rfl hd3; rw [List.mem_singleton.mp h]; exact va_Nw.use rfl hcast)
  have hin11 : ∀ w ∈ u_ws RX11 TX11 18, w ∈ wsX11_boat := by decide +kernel
  have hl := lv_entry ([.ref t, .int x, .int y]) (n := 3) (Nat.le_of_ble_eq_true rfl)
  rw [lg_entry_eq]
  generalize (lg_sl ([.ref t, .int x, .int y]) ++ List.replicate (3 - (lg_sl ([.ref t, .int x, .int y])).length) Slot.unset).toArray = ls at hl ⊢
  have hl : lv_has ls 3 [(0, .ref t), (1, .int x), (2, .int y)] := hl
  refine lv_aload_n hx hb dX11_boat_0 rfl (lv_at hl 0 rfl) ?_
  refine va_get (D := (dC, dI)) (ci := 11) (v := .ref sea) (C := RX11) (T := TX11) (N := 18) hx hb hts hin11 hown hK hP 0 rfl rfl 3 (by decide) (hts (.fieldLink RX11 26 "PorridgeSea" "sea" "LPorridgeSea$Sea;") (List.mem_of_getElem? (i := 3) rfl)) (fun _ h9 => h9) rfl dX11_boat_1 ?_
  refine lv_iload_n hx hb dX11_boat_4 rfl (lv_at hl 1 rfl) ?_
  refine vp_callSi (W.runV (As := [.int x]) (rest := []) ⟨hx, hb, hml, hown, hts⟩ (c_s_isBoat l dC dI ky sea wide high heat cools skinHeat today stirs steps lumps boats thickness lumpNames lumpCells boatNames boatCells loads spoons spoonsLeft depths x iv_sea_0 iv_sea_1 iv_sea_2 iv_sea_3 iv_sea_4 iv_sea_5) (cwV 1 hts gX11_boat_X7_isBoat rfl rfl rfl (by decide +kernel) ⟨(Nat.le_of_ble_eq_true rfl), (Nat.le_of_ble_eq_true rfl)⟩) (pre_PV hK hP [1] rfl (ci := 7) (q0 := 1) rfl rfl) rfl rfl hl.1 rfl (lv_room (Nat.le_of_ble_eq_true rfl)) dX11_boat_5 ⟨(Nat.le_of_ble_eq_true rfl), (Nat.le_of_ble_eq_true rfl)⟩) (fun r1 p2 => ?_)
  rcases p2 with ⟨rfl, t3, t4⟩ | ⟨rfl, t5⟩
  · refine lv_if_eq (tgt := 21) hx hb dX11_boat_8 (by decide) (fun c6 => absurd c6 (by decide)) (fun c6 => ?_)
    refine lv_iload_n hx hb dX11_boat_11 rfl (lv_at hl 2 rfl) ?_
    refine lv_if_lt (tgt := 21) hx hb dX11_boat_12 (by decide) (fun c7 => ?_) (fun c7 => ?_)
    · refine th_throwS (names := ["java/lang/RuntimeException", "java/lang/Exception"]) (A := fun _ => False) hx hb hst hown (by decide +kernel) (by decide +kernel) (hts _ (List.mem_of_getElem? (i := 1) rfl)) (hts _ (List.mem_of_getElem? (i := 2) rfl)) hstr hat th_ot hTU hTN va_S.rf (by rw [hml]; exact hl.1) dX11_boat_21 dX11_boat_24 dX11_boat_25 dX11_boat_27 dX11_boat_30 (fun x9 h9 => (hxt x9 h9).elim) (Nat.le_of_ble_eq_true rfl) (Nat.le_of_ble_eq_true rfl) (Nat.le_of_ble_eq_true rfl) (Nat.le_of_ble_eq_true rfl) B.notSynchronized (fun t9 h1 h2 h3 => ⟨(), trivial, rfl, h2, fun q9 h4 _ => h3 q9 h4⟩) (fun _ h9 => absurd h9 List.not_mem_nil) (Nat.le_of_ble_eq_true rfl) (Nat.le_of_ble_eq_true rfl)
    · refine lv_iload_n hx hb dX11_boat_15 rfl (lv_at hl 2 rfl) ?_
      refine lv_bipush (v := nI 7) hx hb dX11_boat_16 (by decide) ?_
      refine lv_icmp_le (tgt := 31) hx hb dX11_boat_18 (by decide) (fun c8 => ?_) (fun c8 => ?_)
      · exact ((lf_p_boatX_1 tapeLength chartLength wide high lumps boats x y iv_t_0 iv_t_1 iv_sea_0 iv_sea_1 iv_sea_2 iv_sea_3 iv_sea_4 iv_sea_5 hno t3 t4 c7 c8)).elim
      · refine th_throwS (names := ["java/lang/RuntimeException", "java/lang/Exception"]) (A := fun _ => False) hx hb hst hown (by decide +kernel) (by decide +kernel) (hts _ (List.mem_of_getElem? (i := 1) rfl)) (hts _ (List.mem_of_getElem? (i := 2) rfl)) hstr hat th_ot hTU hTN va_S.rf (by rw [hml]; exact hl.1) dX11_boat_21 dX11_boat_24 dX11_boat_25 dX11_boat_27 dX11_boat_30 (fun x9 h9 => (hxt x9 h9).elim) (Nat.le_of_ble_eq_true rfl) (Nat.le_of_ble_eq_true rfl) (Nat.le_of_ble_eq_true rfl) (Nat.le_of_ble_eq_true rfl) B.notSynchronized (fun t9 h1 h2 h3 => ⟨(), trivial, rfl, h2, fun q9 h4 _ => h3 q9 h4⟩) (fun _ h9 => absurd h9 List.not_mem_nil) (Nat.le_of_ble_eq_true rfl) (Nat.le_of_ble_eq_true rfl)
  · refine lv_if_eq (tgt := 21) hx hb dX11_boat_8 (by decide) (fun c9 => ?_) (fun c9 => absurd (by decide) c9)
    refine th_throwS (names := ["java/lang/RuntimeException", "java/lang/Exception"]) (A := fun _ => False) hx hb hst hown (by decide +kernel) (by decide +kernel) (hts _ (List.mem_of_getElem? (i := 1) rfl)) (hts _ (List.mem_of_getElem? (i := 2) rfl)) hstr hat th_ot hTU hTN va_S.rf (by rw [hml]; exact hl.1) dX11_boat_21 dX11_boat_24 dX11_boat_25 dX11_boat_27 dX11_boat_30 (fun x9 h9 => (hxt x9 h9).elim) (Nat.le_of_ble_eq_true rfl) (Nat.le_of_ble_eq_true rfl) (Nat.le_of_ble_eq_true rfl) (Nat.le_of_ble_eq_true rfl) B.notSynchronized (fun t9 h1 h2 h3 => ⟨(), trivial, rfl, h2, fun q9 h4 _ => h3 q9 h4⟩) (fun _ h9 => absurd h9 List.not_mem_nil) (Nat.le_of_ble_eq_true rfl) (Nat.le_of_ble_eq_true rfl)
set_option maxRecDepth 20000 in
theorem lf_p_meanX_1 (tapeLength : Nat) (chartLength : Nat) (wide : Nat) (high : Nat) (lumps : Nat) (boats : Nat) (x : Int32) (y : Int32) (iv_t_0 : tapeLength ≤ 940) (iv_t_1 : chartLength ≤ 32) (iv_sea_0 : 2 ≤ wide) (iv_sea_1 : wide ≤ 6) (iv_sea_2 : 2 ≤ high) (iv_sea_3 : high ≤ 6) (iv_sea_4 : lumps ≤ 6) (iv_sea_5 : boats ≤ 6) (hno : ¬ (0 ≤ x.toInt ∧ x.toInt < high ∧ 0 ≤ y.toInt ∧ y.toInt ≤ 1)) (c1 : ¬ x < 0) (c2 : ¬ nI high ≤ x) (c3 : ¬ y < 0) (c4 : y ≤ nI 1) : False := by
  have b_x := ia_b x
  have b_y := ia_b y
  try have k_0 := ia_n high (by first | decide | omega)
  try have k_1 := ia_n 1 (by first | decide | omega)
  try simp only [ia_lt, ia_le, ia_eq, ia_m1, ia_0, ia_1, ne_eq, true_and, and_true, false_and, and_false, or_false, false_or, or_true, true_or, not_true_eq_false, not_false_eq_true] at *
  all_goals omega
set_option maxHeartbeats 4000000 in
set_option maxRecDepth 100000 in
theorem c_p_meanX (l : Launch) (dC : Nat → ClassId) (dI : Nat → Nat → Nat) (ky : Nat → ClassId) (hst : l.stackTraces = false) (sz : Nat) (t : Nat) (reader : Nat) (tapeLength : Nat) (latestFault : Int32) (sea : Nat) (spareSea : Nat) (seaText : Nat) (book : Nat) (sentence : Nat) (spareSentence : Nat) (route : Nat) (meeting : Nat) (sighting : Nat) (draws : Nat) (history : Nat) (images : Nat) (chartBytes : Nat) (chartLength : Nat) (fleetBits : Int32) (wide : Nat) (high : Nat) (heat : Int32) (cools : Int32) (skinHeat : Int32) (today : Int32) (stirs : Int32) (steps : Int32) (lumps : Nat) (boats : Nat) (thickness : Nat) (lumpNames : Nat) (lumpCells : Nat) (boatNames : Nat) (boatCells : Nat) (loads : Nat) (spoons : Nat) (spoonsLeft : Nat) (depths : Nat) (x : Int32) (y : Int32) (iv_t_0 : tapeLength ≤ 940) (iv_t_1 : chartLength ≤ 32) (iv_sea_0 : 2 ≤ wide) (iv_sea_1 : wide ≤ 6) (iv_sea_2 : 2 ≤ high) (iv_sea_3 : high ≤ 6) (iv_sea_4 : lumps ≤ 6) (iv_sea_5 : boats ≤ 6) (hno : ¬ (0 ≤ x.toInt ∧ x.toInt < high ∧ 0 ≤ y.toInt ∧ y.toInt ≤ 1)) : vx_Met l yX11_mean wsX11_mean ({ frames := 8, cells := 1, slots := 6, locals := 120 }) (PcT dC dI ky [.ref t, .int x, .int y] [(t, .inr (11, [.ref reader, .int (nI tapeLength), .int latestFault, .ref sea, .ref spareSea, .ref seaText, .ref book, .ref sentence, .ref spareSentence, .ref route, .ref meeting, .ref sighting, .ref draws, .ref history, .ref images, .ref chartBytes, .int (nI chartLength), .int fleetBits])), (sea, .inr (7, [.int (nI wide), .int (nI high), .int heat, .int cools, .int skinHeat, .int today, .int stirs, .int steps, .int (nI lumps), .int (nI boats), .ref thickness, .ref lumpNames, .ref lumpCells, .ref boatNames, .ref boatCells, .ref loads, .ref spoons, .ref spoonsLeft, .ref depths]))] sz) (va_Qi (fun (_ : Int32) (_ : Unit) => False) (fun _ _ => True) (fun _ => False)) thX 1 6 (fun _ => False) := by
  refine vx_ofW (cc := cX11_mean) (maxL := 5) (ret := (some .int)) (by decide) rfl ?_
  intro p e s m args below meth c s₁ B hml hxt hv
  obtain ⟨rfl, hsz, hP, hK, hD0, hTU, hTN, ⟨sa1, hR1⟩, ⟨sa2, hR2⟩, hd1, hd2, hd3, hcast⟩ := hv
  have hstr := hR2
  have hx := B.exec
  have hb := B.bytes
  have hr := B.returns
  have hts := atoms_spec (ws := wsX11_mean) B.pre
  have hown : s.vm.findClass RX11 = some m.cls := findClass_of_methodNamed B.named
  have hat : ∀ w ∈ th_atS RX11 164 "java/util/NoSuchElementException" ["java/lang/RuntimeException", "java/lang/Exception"], w.before _ s = true := vx_hat (B := thBadL) (fun w h => hts w (List.mem_cons_of_mem _ (List.mem_append_right _ h))) (fun w h => by rw [show (th_atS RX11 164 "java/util/NoSuchElementException" ["java/lang/RuntimeException", "java/lang/Exception"]).filter (fun w => !goodWord w) = thBadL from thBad_one] at h; exact h) (fun w h => by rcases List.mem_cons.mp h with rfl | h; exact va_Nw.use rfl hd1; rcases List.mem_cons.mp h with rfl | h; exact va_Nw.use rfl hd2; rcases List.mem_cons.mp h with rfl | h; exact va_Nw.use rfl hd3; rw [List.mem_singleton.mp h]; exact va_Nw.use rfl hcast)
  have hin7 : ∀ w ∈ u_ws RX7 TX7 19, w ∈ wsX11_mean := by decide +kernel
  have hin11 : ∀ w ∈ u_ws RX11 TX11 18, w ∈ wsX11_mean := by decide +kernel
  have hl := lv_entry ([.ref t, .int x, .int y]) (n := 5) (Nat.le_of_ble_eq_true rfl)
  rw [lg_entry_eq]
  generalize (lg_sl ([.ref t, .int x, .int y]) ++ List.replicate (5 - (lg_sl ([.ref t, .int x, .int y])).length) Slot.unset).toArray = ls at hl ⊢
  have hl : lv_has ls 5 [(0, .ref t), (1, .int x), (2, .int y)] := hl
  refine lv_iload_n hx hb dX11_mean_0 rfl (lv_at hl 1 rfl) ?_
  refine lv_if_lt (tgt := 24) hx hb dX11_mean_1 (by decide) (fun c1 => ?_) (fun c1 => ?_)
  · refine th_throwSW (names := ["java/lang/RuntimeException", "java/lang/Exception"]) (A := fun _ => False) hx hb hst hown (by decide +kernel) (by decide +kernel) (hts _ (List.mem_of_getElem? (i := 1) rfl)) (hts _ (List.mem_of_getElem? (i := 2) rfl)) hstr hat th_ot hTU hTN va_S.rf (by rw [hml]; exact hl.1) dX11_mean_24 dX11_mean_27 dX11_mean_28 dX11_mean_31 dX11_mean_34 (fun x9 h9 => (hxt x9 h9).elim) (Nat.le_of_ble_eq_true rfl) (Nat.le_of_ble_eq_true rfl) (Nat.le_of_ble_eq_true rfl) (Nat.le_of_ble_eq_true rfl) B.notSynchronized (fun t9 h1 h2 h3 => ⟨(), trivial, rfl, h2, fun q9 h4 _ => h3 q9 h4⟩) (fun _ h9 => absurd h9 List.not_mem_nil) (Nat.le_of_ble_eq_true rfl) (Nat.le_of_ble_eq_true rfl)
  · refine lv_iload_n hx hb dX11_mean_4 rfl (lv_at hl 1 rfl) ?_
    refine lv_aload_n hx hb dX11_mean_5 rfl (lv_at hl 0 rfl) ?_
    refine va_get (D := (dC, dI)) (ci := 11) (v := .ref sea) (C := RX11) (T := TX11) (N := 18) hx hb hts hin11 hown hK hP 0 rfl rfl 3 (by decide) (hts (.fieldLink RX11 26 "PorridgeSea" "sea" "LPorridgeSea$Sea;") (List.mem_of_getElem? (i := 3) rfl)) (fun _ h9 => h9) rfl dX11_mean_6 ?_
    refine va_get (D := (dC, dI)) (ci := 7) (v := .int (nI high)) (C := RX7) (T := TX7) (N := 19) hx hb hts hin7 hown hK hP 1 rfl rfl 1 (by decide) (hts (.fieldLink RX11 200 "PorridgeSea$Sea" "high" "I") (List.mem_of_getElem? (i := 4) rfl)) (fun _ h9 => h9) rfl dX11_mean_9 ?_
    refine lv_icmp_ge (tgt := 24) hx hb dX11_mean_12 (by decide) (fun c2 => ?_) (fun c2 => ?_)
    · refine th_throwSW (names := ["java/lang/RuntimeException", "java/lang/Exception"]) (A := fun _ => False) hx hb hst hown (by decide +kernel) (by decide +kernel) (hts _ (List.mem_of_getElem? (i := 1) rfl)) (hts _ (List.mem_of_getElem? (i := 2) rfl)) hstr hat th_ot hTU hTN va_S.rf (by rw [hml]; exact hl.1) dX11_mean_24 dX11_mean_27 dX11_mean_28 dX11_mean_31 dX11_mean_34 (fun x9 h9 => (hxt x9 h9).elim) (Nat.le_of_ble_eq_true rfl) (Nat.le_of_ble_eq_true rfl) (Nat.le_of_ble_eq_true rfl) (Nat.le_of_ble_eq_true rfl) B.notSynchronized (fun t9 h1 h2 h3 => ⟨(), trivial, rfl, h2, fun q9 h4 _ => h3 q9 h4⟩) (fun _ h9 => absurd h9 List.not_mem_nil) (Nat.le_of_ble_eq_true rfl) (Nat.le_of_ble_eq_true rfl)
    · refine lv_iload_n hx hb dX11_mean_15 rfl (lv_at hl 2 rfl) ?_
      refine lv_if_lt (tgt := 24) hx hb dX11_mean_16 (by decide) (fun c3 => ?_) (fun c3 => ?_)
      · refine th_throwSW (names := ["java/lang/RuntimeException", "java/lang/Exception"]) (A := fun _ => False) hx hb hst hown (by decide +kernel) (by decide +kernel) (hts _ (List.mem_of_getElem? (i := 1) rfl)) (hts _ (List.mem_of_getElem? (i := 2) rfl)) hstr hat th_ot hTU hTN va_S.rf (by rw [hml]; exact hl.1) dX11_mean_24 dX11_mean_27 dX11_mean_28 dX11_mean_31 dX11_mean_34 (fun x9 h9 => (hxt x9 h9).elim) (Nat.le_of_ble_eq_true rfl) (Nat.le_of_ble_eq_true rfl) (Nat.le_of_ble_eq_true rfl) (Nat.le_of_ble_eq_true rfl) B.notSynchronized (fun t9 h1 h2 h3 => ⟨(), trivial, rfl, h2, fun q9 h4 _ => h3 q9 h4⟩) (fun _ h9 => absurd h9 List.not_mem_nil) (Nat.le_of_ble_eq_true rfl) (Nat.le_of_ble_eq_true rfl)
      · refine lv_iload_n hx hb dX11_mean_19 rfl (lv_at hl 2 rfl) ?_
        refine lv_iconst (v := nI 1) hx hb dX11_mean_20 (by decide) ?_
        refine lv_icmp_le (tgt := 35) hx hb dX11_mean_21 (by decide) (fun c4 => ?_) (fun c4 => ?_)
        · exact ((lf_p_meanX_1 tapeLength chartLength wide high lumps boats x y iv_t_0 iv_t_1 iv_sea_0 iv_sea_1 iv_sea_2 iv_sea_3 iv_sea_4 iv_sea_5 hno c1 c2 c3 c4)).elim
        · refine th_throwSW (names := ["java/lang/RuntimeException", "java/lang/Exception"]) (A := fun _ => False) hx hb hst hown (by decide +kernel) (by decide +kernel) (hts _ (List.mem_of_getElem? (i := 1) rfl)) (hts _ (List.mem_of_getElem? (i := 2) rfl)) hstr hat th_ot hTU hTN va_S.rf (by rw [hml]; exact hl.1) dX11_mean_24 dX11_mean_27 dX11_mean_28 dX11_mean_31 dX11_mean_34 (fun x9 h9 => (hxt x9 h9).elim) (Nat.le_of_ble_eq_true rfl) (Nat.le_of_ble_eq_true rfl) (Nat.le_of_ble_eq_true rfl) (Nat.le_of_ble_eq_true rfl) B.notSynchronized (fun t9 h1 h2 h3 => ⟨(), trivial, rfl, h2, fun q9 h4 _ => h3 q9 h4⟩) (fun _ h9 => absurd h9 List.not_mem_nil) (Nat.le_of_ble_eq_true rfl) (Nat.le_of_ble_eq_true rfl)
set_option maxRecDepth 20000 in
theorem lf_p_boat_1 (tapeLength : Nat) (chartLength : Nat) (wide : Nat) (high : Nat) (lumps : Nat) (boats : Nat) (x : Int32) (y : Int32) (iv_t_0 : tapeLength ≤ 940) (iv_t_1 : chartLength ≤ 32) (iv_sea_0 : 2 ≤ wide) (iv_sea_1 : wide ≤ 6) (iv_sea_2 : 2 ≤ high) (iv_sea_3 : high ≤ 6) (iv_sea_4 : lumps ≤ 6) (iv_sea_5 : boats ≤ 6) (hok : 0 ≤ x.toInt ∧ x.toInt < boats ∧ 0 ≤ y.toInt ∧ y.toInt ≤ 7) (t3 : 0 ≤ x.toInt) (t4 : x.toInt < boats) (c7 : y < 0) : False := by
  have b_x := ia_b x
  have b_y := ia_b y
  try simp only [ia_lt, ia_le, ia_eq, ia_m1, ia_0, ia_1, ne_eq, true_and, and_true, false_and, and_false, or_false, false_or, or_true, true_or, not_true_eq_false, not_false_eq_true] at *
  all_goals omega
set_option maxRecDepth 20000 in
theorem lf_p_boat_2 (tapeLength : Nat) (chartLength : Nat) (wide : Nat) (high : Nat) (lumps : Nat) (boats : Nat) (x : Int32) (y : Int32) (iv_t_0 : tapeLength ≤ 940) (iv_t_1 : chartLength ≤ 32) (iv_sea_0 : 2 ≤ wide) (iv_sea_1 : wide ≤ 6) (iv_sea_2 : 2 ≤ high) (iv_sea_3 : high ≤ 6) (iv_sea_4 : lumps ≤ 6) (iv_sea_5 : boats ≤ 6) (hok : 0 ≤ x.toInt ∧ x.toInt < boats ∧ 0 ≤ y.toInt ∧ y.toInt ≤ 7) (t3 : 0 ≤ x.toInt) (t4 : x.toInt < boats) (c7 : ¬ y < 0) (c8 : ¬ y ≤ nI 7) : False := by
  have b_x := ia_b x
  have b_y := ia_b y
  try have k_0 := ia_n 7 (by first | decide | omega)
  try simp only [ia_lt, ia_le, ia_eq, ia_m1, ia_0, ia_1, ne_eq, true_and, and_true, false_and, and_false, or_false, false_or, or_true, true_or, not_true_eq_false, not_false_eq_true] at *
  all_goals omega
set_option maxRecDepth 20000 in
theorem lf_p_boat_3 (tapeLength : Nat) (chartLength : Nat) (wide : Nat) (high : Nat) (lumps : Nat) (boats : Nat) (x : Int32) (y : Int32) (iv_t_0 : tapeLength ≤ 940) (iv_t_1 : chartLength ≤ 32) (iv_sea_0 : 2 ≤ wide) (iv_sea_1 : wide ≤ 6) (iv_sea_2 : 2 ≤ high) (iv_sea_3 : high ≤ 6) (iv_sea_4 : lumps ≤ 6) (iv_sea_5 : boats ≤ 6) (hok : 0 ≤ x.toInt ∧ x.toInt < boats ∧ 0 ≤ y.toInt ∧ y.toInt ≤ 7) (t5 : ¬ (0 ≤ x.toInt ∧ x.toInt < boats)) : False := by
  have b_x := ia_b x
  have b_y := ia_b y
  try simp only [ia_lt, ia_le, ia_eq, ia_m1, ia_0, ia_1, ne_eq, true_and, and_true, false_and, and_false, or_false, false_or, or_true, true_or, not_true_eq_false, not_false_eq_true] at *
  all_goals omega
set_option maxHeartbeats 4000000 in
set_option maxRecDepth 100000 in
theorem c_p_boat (l : Launch) (dC : Nat → ClassId) (dI : Nat → Nat → Nat) (ky : Nat → ClassId) (t : Nat) (reader : Nat) (tapeLength : Nat) (latestFault : Int32) (sea : Nat) (spareSea : Nat) (seaText : Nat) (book : Nat) (sentence : Nat) (spareSentence : Nat) (route : Nat) (meeting : Nat) (sighting : Nat) (draws : Nat) (history : Nat) (images : Nat) (chartBytes : Nat) (chartLength : Nat) (fleetBits : Int32) (wide : Nat) (high : Nat) (heat : Int32) (cools : Int32) (skinHeat : Int32) (today : Int32) (stirs : Int32) (steps : Int32) (lumps : Nat) (boats : Nat) (thickness : Nat) (lumpNames : Nat) (lumpCells : Nat) (boatNames : Nat) (boatCells : Nat) (loads : Nat) (spoons : Nat) (spoonsLeft : Nat) (depths : Nat) (thicknessF : Nat → Int32) (lumpCellsF : Nat → Int32) (boatCellsF : Nat → Int32) (loadsF : Nat → Int32) (spoonsF : Nat → Int32) (spoonsLeftF : Nat → Int32) (depthsF : Nat → Int32) (x : Int32) (y : Int32) (iv_t_0 : tapeLength ≤ 940) (iv_t_1 : chartLength ≤ 32) (iv_sea_0 : 2 ≤ wide) (iv_sea_1 : wide ≤ 6) (iv_sea_2 : 2 ≤ high) (iv_sea_3 : high ≤ 6) (iv_sea_4 : lumps ≤ 6) (iv_sea_5 : boats ≤ 6) (hok : 0 ≤ x.toInt ∧ x.toInt < boats ∧ 0 ≤ y.toInt ∧ y.toInt ≤ 7) : Met l yX11_boat wsX11_boat ({ frames := 4, cells := 0, slots := 0, locals := 87 }) (PcP dC dI ky [.ref t, .int x, .int y] [(t, .inr (11, [.ref reader, .int (nI tapeLength), .int latestFault, .ref sea, .ref spareSea, .ref seaText, .ref book, .ref sentence, .ref spareSentence, .ref route, .ref meeting, .ref sighting, .ref draws, .ref history, .ref images, .ref chartBytes, .int (nI chartLength), .int fleetBits])), (sea, .inr (7, [.int (nI wide), .int (nI high), .int heat, .int cools, .int skinHeat, .int today, .int stirs, .int steps, .int (nI lumps), .int (nI boats), .ref thickness, .ref lumpNames, .ref lumpCells, .ref boatNames, .ref boatCells, .ref loads, .ref spoons, .ref spoonsLeft, .ref depths])), (thickness, .inl (ky 0, 36, .inl thicknessF)), (lumpCells, .inl (ky 0, 6, .inl lumpCellsF)), (boatCells, .inl (ky 0, 6, .inl boatCellsF)), (loads, .inl (ky 0, 6, .inl loadsF)), (spoons, .inl (ky 0, 6, .inl spoonsF)), (spoonsLeft, .inl (ky 0, 6, .inl spoonsLeftF)), (depths, .inl (ky 0, 6, .inl depthsF))]) (vp_Si (fun r : Int32 => True)) 0 0 (fun _ => False) := by
  refine Met.ofW (cc := cX11_boat) (maxL := 3) (ret := (some .int)) (by decide) rfl ?_
  intro p e s m args below meth c s₁ B hml hv
  obtain ⟨rfl, hP, hK⟩ := hv
  have hx := B.exec
  have hb := B.bytes
  have hr := B.returns
  have hts := atoms_spec (ws := wsX11_boat) B.pre
  have hown : s.vm.findClass RX11 = some m.cls := findClass_of_methodNamed B.named
  have hlocks := B.notSynchronized
  have hin11 : ∀ w ∈ u_ws RX11 TX11 18, w ∈ wsX11_boat := by decide +kernel
  have hl := lv_entry ([.ref t, .int x, .int y]) (n := 3) (Nat.le_of_ble_eq_true rfl)
  rw [lg_entry_eq]
  generalize (lg_sl ([.ref t, .int x, .int y]) ++ List.replicate (3 - (lg_sl ([.ref t, .int x, .int y])).length) Slot.unset).toArray = ls at hl ⊢
  have hl : lv_has ls 3 [(0, .ref t), (1, .int x), (2, .int y)] := hl
  refine q_name (fun Q hQ => ?_)
  generalize ([.ref t, .int x, .int y] : List Value).toArray = args at hts hQ ⊢
  refine lv_aload_n hx hb dX11_boat_0 rfl (lv_at hl 0 rfl) ?_
  refine va_get (D := (dC, dI)) (ci := 11) (v := .ref sea) (C := RX11) (T := TX11) (N := 18) hx hb hts hin11 hown hK hP 0 rfl rfl 3 (by decide) (hts (.fieldLink RX11 26 "PorridgeSea" "sea" "LPorridgeSea$Sea;") (List.mem_of_getElem? (i := 3) rfl)) (fun _ h9 => h9) rfl dX11_boat_1 ?_
  refine lv_iload_n hx hb dX11_boat_4 rfl (lv_at hl 1 rfl) ?_
  refine vp_callSi (W.runV (As := [.int x]) (rest := []) ⟨hx, hb, hml, hown, hts⟩ (c_s_isBoat l dC dI ky sea wide high heat cools skinHeat today stirs steps lumps boats thickness lumpNames lumpCells boatNames boatCells loads spoons spoonsLeft depths x iv_sea_0 iv_sea_1 iv_sea_2 iv_sea_3 iv_sea_4 iv_sea_5) (cwV 1 hts gX11_boat_X7_isBoat rfl rfl rfl (by decide +kernel) ⟨(Nat.le_of_ble_eq_true rfl), (Nat.le_of_ble_eq_true rfl)⟩) (pre_PV hK hP [1] rfl (ci := 7) (q0 := 1) rfl rfl) rfl rfl hl.1 rfl (lv_room (Nat.le_of_ble_eq_true rfl)) dX11_boat_5 ⟨(Nat.le_of_ble_eq_true rfl), (Nat.le_of_ble_eq_true rfl)⟩) (fun r1 p2 => ?_)
  rcases p2 with ⟨rfl, t3, t4⟩ | ⟨rfl, t5⟩
  · refine lv_if_eq (tgt := 21) hx hb dX11_boat_8 (by decide) (fun c6 => absurd c6 (by decide)) (fun c6 => ?_)
    refine lv_iload_n hx hb dX11_boat_11 rfl (lv_at hl 2 rfl) ?_
    refine lv_if_lt (tgt := 21) hx hb dX11_boat_12 (by decide) (fun c7 => ?_) (fun c7 => ?_)
    · exact ((lf_p_boat_1 tapeLength chartLength wide high lumps boats x y iv_t_0 iv_t_1 iv_sea_0 iv_sea_1 iv_sea_2 iv_sea_3 iv_sea_4 iv_sea_5 hok t3 t4 c7)).elim
    · refine lv_iload_n hx hb dX11_boat_15 rfl (lv_at hl 2 rfl) ?_
      refine lv_bipush (v := nI 7) hx hb dX11_boat_16 (by decide) ?_
      refine lv_icmp_le (tgt := 31) hx hb dX11_boat_18 (by decide) (fun c8 => ?_) (fun c8 => ?_)
      · refine lv_aload_n hx hb dX11_boat_31 rfl (lv_at hl 0 rfl) ?_
        refine va_get (D := (dC, dI)) (ci := 11) (v := .ref sea) (C := RX11) (T := TX11) (N := 18) hx hb hts hin11 hown hK hP 0 rfl rfl 3 (by decide) (hts (.fieldLink RX11 26 "PorridgeSea" "sea" "LPorridgeSea$Sea;") (List.mem_of_getElem? (i := 3) rfl)) (fun _ h9 => h9) rfl dX11_boat_32 ?_
        refine lv_iload_n hx hb dX11_boat_35 rfl (lv_at hl 1 rfl) ?_
        refine lv_iload_n hx hb dX11_boat_36 rfl (lv_at hl 2 rfl) ?_
        refine vp_callSi (W.runV (As := [.int x, .int y]) (rest := []) ⟨hx, hb, hml, hown, hts⟩ (c_s_factOfBoat l dC dI ky sea wide high heat cools skinHeat today stirs steps lumps boats thickness lumpNames lumpCells boatNames boatCells loads spoons spoonsLeft depths thicknessF lumpCellsF boatCellsF loadsF spoonsF spoonsLeftF depthsF x y iv_sea_0 iv_sea_1 iv_sea_2 iv_sea_3 iv_sea_4 iv_sea_5) (cwV 2 hts gX11_boat_X7_factOfBoat rfl rfl rfl (by decide +kernel) ⟨(Nat.le_of_ble_eq_true rfl), (Nat.le_of_ble_eq_true rfl)⟩) (pre_PV hK hP [1, 2, 3, 4, 5, 6, 7, 8] rfl (ci := 7) (q0 := 1) rfl rfl) rfl rfl hl.1 rfl (lv_room (Nat.le_of_ble_eq_true rfl)) dX11_boat_37 ⟨(Nat.le_of_ble_eq_true rfl), (Nat.le_of_ble_eq_true rfl)⟩) (fun r9 p10 => ?_)
        rw [hQ]
        exact W.iret (v := r9) hx hb hr (fun t9 ht9 hW9 => ⟨r9, rfl, trivial, ht9⟩) (fun _ h => absurd h List.not_mem_nil) dX11_boat_40
      · exact ((lf_p_boat_2 tapeLength chartLength wide high lumps boats x y iv_t_0 iv_t_1 iv_sea_0 iv_sea_1 iv_sea_2 iv_sea_3 iv_sea_4 iv_sea_5 hok t3 t4 c7 c8)).elim
  · refine lv_if_eq (tgt := 21) hx hb dX11_boat_8 (by decide) (fun c11 => ?_) (fun c11 => absurd (by decide) c11)
    exact ((lf_p_boat_3 tapeLength chartLength wide high lumps boats x y iv_t_0 iv_t_1 iv_sea_0 iv_sea_1 iv_sea_2 iv_sea_3 iv_sea_4 iv_sea_5 hok t5)).elim
set_option maxRecDepth 20000 in
theorem lf_p_mean_1 (tapeLength : Nat) (chartLength : Nat) (wide : Nat) (high : Nat) (lumps : Nat) (boats : Nat) (x : Int32) (y : Int32) (iv_t_0 : tapeLength ≤ 940) (iv_t_1 : chartLength ≤ 32) (iv_sea_0 : 2 ≤ wide) (iv_sea_1 : wide ≤ 6) (iv_sea_2 : 2 ≤ high) (iv_sea_3 : high ≤ 6) (iv_sea_4 : lumps ≤ 6) (iv_sea_5 : boats ≤ 6) (hok : 0 ≤ x.toInt ∧ x.toInt < high ∧ 0 ≤ y.toInt ∧ y.toInt ≤ 1) (c1 : x < 0) : False := by
  have b_x := ia_b x
  have b_y := ia_b y
  try simp only [ia_lt, ia_le, ia_eq, ia_m1, ia_0, ia_1, ne_eq, true_and, and_true, false_and, and_false, or_false, false_or, or_true, true_or, not_true_eq_false, not_false_eq_true] at *
  all_goals omega
set_option maxRecDepth 20000 in
theorem lf_p_mean_2 (tapeLength : Nat) (chartLength : Nat) (wide : Nat) (high : Nat) (lumps : Nat) (boats : Nat) (x : Int32) (y : Int32) (iv_t_0 : tapeLength ≤ 940) (iv_t_1 : chartLength ≤ 32) (iv_sea_0 : 2 ≤ wide) (iv_sea_1 : wide ≤ 6) (iv_sea_2 : 2 ≤ high) (iv_sea_3 : high ≤ 6) (iv_sea_4 : lumps ≤ 6) (iv_sea_5 : boats ≤ 6) (hok : 0 ≤ x.toInt ∧ x.toInt < high ∧ 0 ≤ y.toInt ∧ y.toInt ≤ 1) (c1 : ¬ x < 0) (c2 : nI high ≤ x) : False := by
  have b_x := ia_b x
  have b_y := ia_b y
  try have k_0 := ia_n high (by first | decide | omega)
  try simp only [ia_lt, ia_le, ia_eq, ia_m1, ia_0, ia_1, ne_eq, true_and, and_true, false_and, and_false, or_false, false_or, or_true, true_or, not_true_eq_false, not_false_eq_true] at *
  all_goals omega
set_option maxRecDepth 20000 in
theorem lf_p_mean_3 (tapeLength : Nat) (chartLength : Nat) (wide : Nat) (high : Nat) (lumps : Nat) (boats : Nat) (x : Int32) (y : Int32) (iv_t_0 : tapeLength ≤ 940) (iv_t_1 : chartLength ≤ 32) (iv_sea_0 : 2 ≤ wide) (iv_sea_1 : wide ≤ 6) (iv_sea_2 : 2 ≤ high) (iv_sea_3 : high ≤ 6) (iv_sea_4 : lumps ≤ 6) (iv_sea_5 : boats ≤ 6) (hok : 0 ≤ x.toInt ∧ x.toInt < high ∧ 0 ≤ y.toInt ∧ y.toInt ≤ 1) (c1 : ¬ x < 0) (c2 : ¬ nI high ≤ x) (c3 : y < 0) : False := by
  have b_x := ia_b x
  have b_y := ia_b y
  try have k_0 := ia_n high (by first | decide | omega)
  try simp only [ia_lt, ia_le, ia_eq, ia_m1, ia_0, ia_1, ne_eq, true_and, and_true, false_and, and_false, or_false, false_or, or_true, true_or, not_true_eq_false, not_false_eq_true] at *
  all_goals omega
set_option maxRecDepth 20000 in
theorem lf_p_mean_4 (high : Nat) (x : Int32) (y : Int32) (iv_sea_2 : 2 ≤ high) (iv_sea_3 : high ≤ 6) (hok : 0 ≤ x.toInt ∧ x.toInt < high ∧ 0 ≤ y.toInt ∧ y.toInt ≤ 1) (c1 : ¬ x < 0) (c2 : ¬ nI high ≤ x) (c3 : ¬ y < 0) (c4 : y ≤ nI 1) : 0 ≤ x.toInt ∧ x.toInt < ((6 : Nat) : Int) := by
  have b_x := ia_b x
  have b_y := ia_b y
  try have k_0 := ia_n high (by first | decide | omega)
  try have k_1 := ia_n 1 (by first | decide | omega)
  try simp only [ia_lt, ia_le, ia_eq, ia_m1, ia_0, ia_1, ne_eq, true_and, and_true, false_and, and_false, or_false, false_or, or_true, true_or, not_true_eq_false, not_false_eq_true] at *
  all_goals omega
set_option maxRecDepth 20000 in
theorem lf_p_mean_5 (wide : Nat) (k11 : Nat) (n15 : Nat) (iv_sea_0 : 2 ≤ wide) (iv_sea_1 : wide ≤ 6) (j13 : k11 ≤ 6) (hm17 : 6 - k11 < n15 + 1) (c18 : k11 < wide) (p33 : True) : (k11 + 1) ≤ 6 := by
  try simp only [ia_lt, ia_le, ia_eq, ia_m1, ia_0, ia_1, ne_eq, true_and, and_true, false_and, and_false, or_false, false_or, or_true, true_or, not_true_eq_false, not_false_eq_true] at *
  all_goals omega
set_option maxRecDepth 20000 in
theorem lf_p_mean_6 (wide : Nat) (k11 : Nat) (n15 : Nat) (iv_sea_0 : 2 ≤ wide) (iv_sea_1 : wide ≤ 6) (j13 : k11 ≤ 6) (hm17 : 6 - k11 < n15 + 1) (c18 : k11 < wide) (p33 : True) : 6 - (k11 + 1) < n15 := by
  try simp only [ia_lt, ia_le, ia_eq, ia_m1, ia_0, ia_1, ne_eq, true_and, and_true, false_and, and_false, or_false, false_or, or_true, true_or, not_true_eq_false, not_false_eq_true] at *
  all_goals omega
set_option maxRecDepth 20000 in
theorem lf_p_mean_7   : 0 ≤ 6 := by
  try simp only [ia_lt, ia_le, ia_eq, ia_m1, ia_0, ia_1, ne_eq, true_and, and_true, false_and, and_false, or_false, false_or, or_true, true_or, not_true_eq_false, not_false_eq_true] at *
  all_goals omega
set_option maxRecDepth 20000 in
theorem lf_p_mean_8 (tapeLength : Nat) (chartLength : Nat) (wide : Nat) (high : Nat) (lumps : Nat) (boats : Nat) (x : Int32) (y : Int32) (iv_t_0 : tapeLength ≤ 940) (iv_t_1 : chartLength ≤ 32) (iv_sea_0 : 2 ≤ wide) (iv_sea_1 : wide ≤ 6) (iv_sea_2 : 2 ≤ high) (iv_sea_3 : high ≤ 6) (iv_sea_4 : lumps ≤ 6) (iv_sea_5 : boats ≤ 6) (hok : 0 ≤ x.toInt ∧ x.toInt < high ∧ 0 ≤ y.toInt ∧ y.toInt ≤ 1) (c1 : ¬ x < 0) (c2 : ¬ nI high ≤ x) (c3 : ¬ y < 0) (c4 : ¬ y ≤ nI 1) : False := by
  have b_x := ia_b x
  have b_y := ia_b y
  try have k_0 := ia_n high (by first | decide | omega)
  try have k_1 := ia_n 1 (by first | decide | omega)
  try simp only [ia_lt, ia_le, ia_eq, ia_m1, ia_0, ia_1, ne_eq, true_and, and_true, false_and, and_false, or_false, false_or, or_true, true_or, not_true_eq_false, not_false_eq_true] at *
  all_goals omega
set_option maxHeartbeats 4000000 in
set_option maxRecDepth 100000 in
theorem c_p_mean (l : Launch) (dC : Nat → ClassId) (dI : Nat → Nat → Nat) (ky : Nat → ClassId) (t : Nat) (reader : Nat) (tapeLength : Nat) (latestFault : Int32) (sea : Nat) (spareSea : Nat) (seaText : Nat) (book : Nat) (sentence : Nat) (spareSentence : Nat) (route : Nat) (meeting : Nat) (sighting : Nat) (draws : Nat) (history : Nat) (images : Nat) (chartBytes : Nat) (chartLength : Nat) (fleetBits : Int32) (wide : Nat) (high : Nat) (heat : Int32) (cools : Int32) (skinHeat : Int32) (today : Int32) (stirs : Int32) (steps : Int32) (lumps : Nat) (boats : Nat) (thickness : Nat) (lumpNames : Nat) (lumpCells : Nat) (boatNames : Nat) (boatCells : Nat) (loads : Nat) (spoons : Nat) (spoonsLeft : Nat) (depths : Nat) (thicknessF : Nat → Int32) (x : Int32) (y : Int32) (iv_t_0 : tapeLength ≤ 940) (iv_t_1 : chartLength ≤ 32) (iv_sea_0 : 2 ≤ wide) (iv_sea_1 : wide ≤ 6) (iv_sea_2 : 2 ≤ high) (iv_sea_3 : high ≤ 6) (iv_sea_4 : lumps ≤ 6) (iv_sea_5 : boats ≤ 6) (hok : 0 ≤ x.toInt ∧ x.toInt < high ∧ 0 ≤ y.toInt ∧ y.toInt ≤ 1) : Met l yX11_mean wsX11_mean ({ frames := 1, cells := 0, slots := 0, locals := 22 }) (PcP dC dI ky [.ref t, .int x, .int y] [(t, .inr (11, [.ref reader, .int (nI tapeLength), .int latestFault, .ref sea, .ref spareSea, .ref seaText, .ref book, .ref sentence, .ref spareSentence, .ref route, .ref meeting, .ref sighting, .ref draws, .ref history, .ref images, .ref chartBytes, .int (nI chartLength), .int fleetBits])), (sea, .inr (7, [.int (nI wide), .int (nI high), .int heat, .int cools, .int skinHeat, .int today, .int stirs, .int steps, .int (nI lumps), .int (nI boats), .ref thickness, .ref lumpNames, .ref lumpCells, .ref boatNames, .ref boatCells, .ref loads, .ref spoons, .ref spoonsLeft, .ref depths])), (thickness, .inl (ky 0, 36, .inl thicknessF))]) (vp_Si (fun r : Int32 => True)) 0 0 (fun _ => False) := by
  refine Met.ofW (cc := cX11_mean) (maxL := 5) (ret := (some .int)) (by decide) rfl ?_
  intro p e s m args below meth c s₁ B hml hv
  obtain ⟨rfl, hP, hK⟩ := hv
  have hx := B.exec
  have hb := B.bytes
  have hr := B.returns
  have hts := atoms_spec (ws := wsX11_mean) B.pre
  have hown : s.vm.findClass RX11 = some m.cls := findClass_of_methodNamed B.named
  have hlocks := B.notSynchronized
  have hin7 : ∀ w ∈ u_ws RX7 TX7 19, w ∈ wsX11_mean := by decide +kernel
  have hin11 : ∀ w ∈ u_ws RX11 TX11 18, w ∈ wsX11_mean := by decide +kernel
  have hl := lv_entry ([.ref t, .int x, .int y]) (n := 5) (Nat.le_of_ble_eq_true rfl)
  rw [lg_entry_eq]
  generalize (lg_sl ([.ref t, .int x, .int y]) ++ List.replicate (5 - (lg_sl ([.ref t, .int x, .int y])).length) Slot.unset).toArray = ls at hl ⊢
  have hl : lv_has ls 5 [(0, .ref t), (1, .int x), (2, .int y)] := hl
  refine q_name (fun Q hQ => ?_)
  generalize ([.ref t, .int x, .int y] : List Value).toArray = args at hts hQ ⊢
  refine lv_iload_n hx hb dX11_mean_0 rfl (lv_at hl 1 rfl) ?_
  refine lv_if_lt (tgt := 24) hx hb dX11_mean_1 (by decide) (fun c1 => ?_) (fun c1 => ?_)
  · exact ((lf_p_mean_1 tapeLength chartLength wide high lumps boats x y iv_t_0 iv_t_1 iv_sea_0 iv_sea_1 iv_sea_2 iv_sea_3 iv_sea_4 iv_sea_5 hok c1)).elim
  · refine lv_iload_n hx hb dX11_mean_4 rfl (lv_at hl 1 rfl) ?_
    refine lv_aload_n hx hb dX11_mean_5 rfl (lv_at hl 0 rfl) ?_
    refine va_get (D := (dC, dI)) (ci := 11) (v := .ref sea) (C := RX11) (T := TX11) (N := 18) hx hb hts hin11 hown hK hP 0 rfl rfl 3 (by decide) (hts (.fieldLink RX11 26 "PorridgeSea" "sea" "LPorridgeSea$Sea;") (List.mem_of_getElem? (i := 3) rfl)) (fun _ h9 => h9) rfl dX11_mean_6 ?_
    refine va_get (D := (dC, dI)) (ci := 7) (v := .int (nI high)) (C := RX7) (T := TX7) (N := 19) hx hb hts hin7 hown hK hP 1 rfl rfl 1 (by decide) (hts (.fieldLink RX11 200 "PorridgeSea$Sea" "high" "I") (List.mem_of_getElem? (i := 4) rfl)) (fun _ h9 => h9) rfl dX11_mean_9 ?_
    refine lv_icmp_ge (tgt := 24) hx hb dX11_mean_12 (by decide) (fun c2 => ?_) (fun c2 => ?_)
    · exact ((lf_p_mean_2 tapeLength chartLength wide high lumps boats x y iv_t_0 iv_t_1 iv_sea_0 iv_sea_1 iv_sea_2 iv_sea_3 iv_sea_4 iv_sea_5 hok c1 c2)).elim
    · refine lv_iload_n hx hb dX11_mean_15 rfl (lv_at hl 2 rfl) ?_
      refine lv_if_lt (tgt := 24) hx hb dX11_mean_16 (by decide) (fun c3 => ?_) (fun c3 => ?_)
      · exact ((lf_p_mean_3 tapeLength chartLength wide high lumps boats x y iv_t_0 iv_t_1 iv_sea_0 iv_sea_1 iv_sea_2 iv_sea_3 iv_sea_4 iv_sea_5 hok c1 c2 c3)).elim
      · refine lv_iload_n hx hb dX11_mean_19 rfl (lv_at hl 2 rfl) ?_
        refine lv_iconst (v := nI 1) hx hb dX11_mean_20 (by decide) ?_
        refine lv_icmp_le (tgt := 35) hx hb dX11_mean_21 (by decide) (fun c4 => ?_) (fun c4 => ?_)
        · refine lv_iconst (v := nI 0) hx hb dX11_mean_35 (by decide) ?_
          refine lv_istore_n (lv' := [(3, .int (nI 0)), (0, .ref t), (1, .int x), (2, .int y)]) hx hb dX11_mean_36 rfl hl (by decide) rfl (fun ls hl => ?_)
          refine lv_iconst (v := nI 0) hx hb dX11_mean_37 (by decide) ?_
          refine lv_istore (lv' := [(4, .int (nI 0)), (3, .int (nI 0)), (0, .ref t), (1, .int x), (2, .int y)]) hx hb dX11_mean_38 hl (by decide) rfl (fun ls hl => ?_)
          have hL14 : ∀ (n15 : Nat) (k11 : Nat) (x12 : Int32), (k11 ≤ 6) → 6 - k11 < n15 → ∀ (ls : Array Slot), lv_has ls 5 [(4, .int (nI k11)), (3, .int x12), (0, .ref t), (1, .int x), (2, .int y)] → W p l e (headSpec wsX11_mean ({ frames := 1, cells := 0, slots := 0, locals := 22 })).room s m args below meth c s.heap [] 0 0 Q (F0 m 40 ls []) := by
            intro n15
            induction n15 with
            | zero => intro k11 x12 _ h9; exact absurd h9 (Nat.not_lt_zero _)
            | succ n15 ih16 =>
              intro k11 x12 j13 hm17 ls hl
              refine lv_iload hx hb dX11_mean_40 (lv_at hl 0 rfl) ?_
              refine lv_aload_n hx hb dX11_mean_42 rfl (lv_at hl 2 rfl) ?_
              refine va_get (D := (dC, dI)) (ci := 11) (v := .ref sea) (C := RX11) (T := TX11) (N := 18) hx hb hts hin11 hown hK hP 0 rfl rfl 3 (by decide) (hts (.fieldLink RX11 26 "PorridgeSea" "sea" "LPorridgeSea$Sea;") (List.mem_of_getElem? (i := 3) rfl)) (fun _ h9 => h9) rfl dX11_mean_43 ?_
              refine va_get (D := (dC, dI)) (ci := 7) (v := .int (nI wide)) (C := RX7) (T := TX7) (N := 19) hx hb hts hin7 hown hK hP 1 rfl rfl 0 (by decide) (hts (.fieldLink RX11 197 "PorridgeSea$Sea" "wide" "I") (List.mem_of_getElem? (i := 5) rfl)) (fun _ h9 => h9) rfl dX11_mean_46 ?_
              refine n_icmp_ge (x := k11) (y := wide) (tgt := 75) hx hb (by omega) (by omega) dX11_mean_49 (by decide) (fun c18 => ?_) (fun c18 => ?_)
              · refine lv_iload_n hx hb dX11_mean_75 rfl (lv_at hl 1 rfl) ?_
                refine lv_aload_n hx hb dX11_mean_76 rfl (lv_at hl 2 rfl) ?_
                refine va_get (D := (dC, dI)) (ci := 11) (v := .ref sea) (C := RX11) (T := TX11) (N := 18) hx hb hts hin11 hown hK hP 0 rfl rfl 3 (by decide) (hts (.fieldLink RX11 26 "PorridgeSea" "sea" "LPorridgeSea$Sea;") (List.mem_of_getElem? (i := 3) rfl)) (fun _ h9 => h9) rfl dX11_mean_77 ?_
                refine va_get (D := (dC, dI)) (ci := 7) (v := .int (nI wide)) (C := RX7) (T := TX7) (N := 19) hx hb hts hin7 hown hK hP 1 rfl rfl 0 (by decide) (hts (.fieldLink RX11 197 "PorridgeSea$Sea" "wide" "I") (List.mem_of_getElem? (i := 5) rfl)) (fun _ h9 => h9) rfl dX11_mean_80 ?_
                refine vp_callSi (W.runS (As := [.int x12, .int (nI wide)]) (rest := []) ⟨hx, hb, hml, hown, hts⟩ (c_p_commonDivisor l dC dI ky x12 wide iv_sea_1 iv_sea_0) (va_cwS 2 hts gX11_mean_X11_commonDivisor rfl rfl rfl (by decide +kernel) ⟨(Nat.le_of_ble_eq_true rfl), (Nat.le_of_ble_eq_true rfl)⟩) (pre_PS hK hP [] rfl) rfl rfl hl.1 rfl (lv_room (Nat.le_of_ble_eq_true rfl)) dX11_mean_83 ⟨(Nat.le_of_ble_eq_true rfl), (Nat.le_of_ble_eq_true rfl)⟩) (fun r19 p20 => ?_)
                obtain ⟨k21, ⟨h23, h24⟩, rfl⟩ := p20
                refine lv_istore (lv' := [(4, .int (nI k21)), (3, .int x12), (0, .ref t), (1, .int x), (2, .int y)]) hx hb dX11_mean_86 hl (by decide) rfl (fun ls hl => ?_)
                refine lv_iload_n hx hb dX11_mean_88 rfl (lv_at hl 4 rfl) ?_
                refine lv_if_ne (tgt := 96) hx hb dX11_mean_89 (by decide) (fun c25 => ?_) (fun c25 => ?_)
                · refine lv_aload_n hx hb dX11_mean_96 rfl (lv_at hl 2 rfl) ?_
                  refine va_get (D := (dC, dI)) (ci := 11) (v := .ref sea) (C := RX11) (T := TX11) (N := 18) hx hb hts hin11 hown hK hP 0 rfl rfl 3 (by decide) (hts (.fieldLink RX11 26 "PorridgeSea" "sea" "LPorridgeSea$Sea;") (List.mem_of_getElem? (i := 3) rfl)) (fun _ h9 => h9) rfl dX11_mean_97 ?_
                  refine va_get (D := (dC, dI)) (ci := 7) (v := .int (nI wide)) (C := RX7) (T := TX7) (N := 19) hx hb hts hin7 hown hK hP 1 rfl rfl 0 (by decide) (hts (.fieldLink RX11 197 "PorridgeSea$Sea" "wide" "I") (List.mem_of_getElem? (i := 5) rfl)) (fun _ h9 => h9) rfl dX11_mean_100 ?_
                  refine lv_iload hx hb dX11_mean_103 (lv_at hl 0 rfl) ?_
                  refine lv_idiv hx hb dX11_mean_105 (nI_ne0 (by omega) (by omega)) ?_
                  refine r_ti (nI (wide / k21)) (pk_div (by omega) (by omega) (by omega)) ?_
                  have f26 : wide / k21 ≤ wide := Nat.div_le_self _ _
                  rw [hQ]
                  exact W.iret (v := nI (wide / k21)) hx hb hr (fun t9 ht9 hW9 => ⟨nI (wide / k21), rfl, trivial, ht9⟩) (fun _ h => absurd h List.not_mem_nil) dX11_mean_106
                · refine lv_iload_n hx hb dX11_mean_92 rfl (lv_at hl 1 rfl) ?_
                  refine lv_goto (tgt := 103) hx hb dX11_mean_93 (by decide) ?_
                  refine lv_iload hx hb dX11_mean_103 (lv_at hl 0 rfl) ?_
                  refine lv_idiv hx hb dX11_mean_105 (nI_ne0 (by omega) (by omega)) ?_
                  refine lv_topi (fun y27 e28 => ?_)
                  rw [hQ]
                  exact W.iret (v := y27) hx hb hr (fun t9 ht9 hW9 => ⟨y27, rfl, trivial, ht9⟩) (fun _ h => absurd h List.not_mem_nil) dX11_mean_106
              · refine lv_iload_n hx hb dX11_mean_52 rfl (lv_at hl 1 rfl) ?_
                refine lv_aload_n hx hb dX11_mean_53 rfl (lv_at hl 2 rfl) ?_
                refine va_get (D := (dC, dI)) (ci := 11) (v := .ref sea) (C := RX11) (T := TX11) (N := 18) hx hb hts hin11 hown hK hP 0 rfl rfl 3 (by decide) (hts (.fieldLink RX11 26 "PorridgeSea" "sea" "LPorridgeSea$Sea;") (List.mem_of_getElem? (i := 3) rfl)) (fun _ h9 => h9) rfl dX11_mean_54 ?_
                refine lv_bipush (v := nI 6) hx hb dX11_mean_57 (by decide) ?_
                refine lv_iload_n hx hb dX11_mean_59 rfl (lv_at hl 3 rfl) ?_
                obtain ⟨n29, h30, e31⟩ := nat_of x 6 (by decide) (lf_p_mean_4 high x y iv_sea_2 iv_sea_3 hok c1 c2 c3 c4)
                rw [e31]
                refine lv_imul hx hb dX11_mean_60 ?_
                refine r_ti (nI (6 * n29)) (pk_mul _ _) ?_
                refine lv_iload hx hb dX11_mean_61 (lv_at hl 0 rfl) ?_
                refine lv_iadd hx hb dX11_mean_63 ?_
                refine r_ti (nI ((6 * n29) + k11)) (nI_add _ _) ?_
                refine vp_callSi (W.runV (As := [.int (nI ((6 * n29) + k11))]) (rest := [.int x12]) ⟨hx, hb, hml, hown, hts⟩ (c_s_thicknessIn l dC dI ky sea wide high heat cools skinHeat today stirs steps lumps boats thickness lumpNames lumpCells boatNames boatCells loads spoons spoonsLeft depths thicknessF (nI ((6 * n29) + k11)) iv_sea_0 iv_sea_1 iv_sea_2 iv_sea_3 iv_sea_4 iv_sea_5) (cwV 1 hts gX11_mean_X7_thicknessIn rfl rfl rfl (by decide +kernel) ⟨(Nat.le_of_ble_eq_true rfl), (Nat.le_of_ble_eq_true rfl)⟩) (pre_PV hK hP [1, 2] rfl (ci := 7) (q0 := 1) rfl rfl) rfl rfl hl.1 rfl (lv_room (Nat.le_of_ble_eq_true rfl)) dX11_mean_64 ⟨(Nat.le_of_ble_eq_true rfl), (Nat.le_of_ble_eq_true rfl)⟩) (fun r32 p33 => ?_)
                refine lv_iadd hx hb dX11_mean_67 ?_
                refine lv_topi (fun y34 e35 => ?_)
                refine lv_istore_n (lv' := [(3, .int y34), (4, .int (nI k11)), (0, .ref t), (1, .int x), (2, .int y)]) hx hb dX11_mean_68 rfl hl (by decide) rfl (fun ls hl => ?_)
                refine lv_iinc (v := nI (k11 + 1)) (lv' := [(4, .int (nI (k11 + 1))), (3, .int y34), (0, .ref t), (1, .int x), (2, .int y)]) hx hb dX11_mean_69 hl (k := 1) rfl (show nI k11 + nI 1 = nI (k11 + 1) from nI_add _ _) (by decide) rfl (fun ls hl => ?_)
                refine lv_goto (tgt := 40) hx hb dX11_mean_72 (by decide) ?_
                exact ih16 (k11 + 1) y34 (lf_p_mean_5 wide k11 n15 iv_sea_0 iv_sea_1 j13 hm17 c18 p33) (lf_p_mean_6 wide k11 n15 iv_sea_0 iv_sea_1 j13 hm17 c18 p33) _ (lv_sub hl [0, 1, 2, 3, 4] rfl)
          exact hL14 ((6 - 0) + 1) 0 (nI 0) (lf_p_mean_7) (Nat.lt_succ_self _) _ (lv_sub hl [0, 1, 2, 3, 4] rfl)
        · exact ((lf_p_mean_8 tapeLength chartLength wide high lumps boats x y iv_t_0 iv_t_1 iv_sea_0 iv_sea_1 iv_sea_2 iv_sea_3 iv_sea_4 iv_sea_5 hok c1 c2 c3 c4)).elim
