theorem dX11_boat_21 : decode cX11_boat 21 = .ok (.new 160, 3) := by decide +kernel
theorem dX11_boat_0 : decode cX11_boat 0 = .ok (.aload_n 0, 1) := by decide +kernel
theorem dX11_boat_1 : decode cX11_boat 1 = .ok (.getfield 26, 3) := by decide +kernel
theorem dX11_boat_4 : decode cX11_boat 4 = .ok (.iload_n 1, 1) := by decide +kernel
theorem dX11_boat_5 : decode cX11_boat 5 = .ok (.invokevirtual 157, 3) := by decide +kernel
theorem dX11_boat_8 : decode cX11_boat 8 = .ok (.ifCond .eq 13, 3) := by decide +kernel
theorem dX11_boat_24 : decode cX11_boat 24 = .ok (.dup, 1) := by decide +kernel
theorem dX11_boat_25 : decode cX11_boat 25 = .ok (.ldc 162, 2) := by decide +kernel
theorem dX11_boat_27 : decode cX11_boat 27 = .ok (.invokespecial 164, 3) := by decide +kernel
theorem dX11_boat_30 : decode cX11_boat 30 = .ok (.athrow, 1) := by decide +kernel
theorem dX11_mean_24 : decode cX11_mean 24 = .ok (.new 160, 3) := by decide +kernel
theorem dX11_mean_0 : decode cX11_mean 0 = .ok (.iload_n 1, 1) := by decide +kernel
theorem dX11_mean_1 : decode cX11_mean 1 = .ok (.ifCond .lt 23, 3) := by decide +kernel
theorem dX11_mean_27 : decode cX11_mean 27 = .ok (.dup, 1) := by decide +kernel
theorem dX11_mean_28 : decode cX11_mean 28 = .ok (.ldc_w 290, 3) := by decide +kernel
theorem dX11_mean_31 : decode cX11_mean 31 = .ok (.invokespecial 164, 3) := by decide +kernel
theorem dX11_mean_34 : decode cX11_mean 34 = .ok (.athrow, 1) := by decide +kernel
theorem dX11_mean_4 : decode cX11_mean 4 = .ok (.iload_n 1, 1) := by decide +kernel
theorem dX11_mean_5 : decode cX11_mean 5 = .ok (.aload_n 0, 1) := by decide +kernel
theorem dX11_mean_6 : decode cX11_mean 6 = .ok (.getfield 26, 3) := by decide +kernel
theorem dX11_mean_9 : decode cX11_mean 9 = .ok (.getfield 200, 3) := by decide +kernel
theorem dX11_mean_12 : decode cX11_mean 12 = .ok (.if_icmp .ge 12, 3) := by decide +kernel
theorem dX11_mean_15 : decode cX11_mean 15 = .ok (.iload_n 2, 1) := by decide +kernel
theorem dX11_mean_16 : decode cX11_mean 16 = .ok (.ifCond .lt 8, 3) := by decide +kernel
theorem dX11_mean_19 : decode cX11_mean 19 = .ok (.iload_n 2, 1) := by decide +kernel
theorem dX11_mean_20 : decode cX11_mean 20 = .ok (.iconst 1, 1) := by decide +kernel
theorem dX11_mean_21 : decode cX11_mean 21 = .ok (.if_icmp .le 14, 3) := by decide +kernel
set_option maxRecDepth 100000 in
theorem ggX11_boat_X7_isBoat : GoodIn wsX11_boat wsX7_isBoat := goodIn_r _ [8, 9, 67, 68, 69, 70, 71, 72, 73, 74, 75, 76, 77, 78, 79, 80, 81, 82, 83, 84, 85] rfl (by decide +kernel)
set_option maxRecDepth 100000 in
theorem gX11_boat_X7_isBoat : GoodIn wsX11_boat (wsV RX11 157 RX7 yX7_isBoat wsX7_isBoat) := goodIn_app (goodIn_of _ (by decide +kernel)) ggX11_boat_X7_isBoat
set_option maxHeartbeats 4000000 in
set_option maxRecDepth 100000 in
theorem c_boatX (l : Launch) (dC : Nat → ClassId) (dI : Nat → Nat → Nat) (ky : Nat → ClassId) (hst : l.stackTraces = false) (sz : Nat) (t : Nat) (reader : Nat) (sea : Nat) (spareSea : Nat) (seaText : Nat) (book : Nat) (sentence : Nat) (spareSentence : Nat) (route : Nat) (meeting : Nat) (sighting : Nat) (draws : Nat) (history : Nat) (images : Nat) (chartBytes : Nat) (thickness : Nat) (lumpNames : Nat) (lumpCells : Nat) (boatNames : Nat) (boatCells : Nat) (loads : Nat) (spoons : Nat) (spoonsLeft : Nat) (depths : Nat) (x : Int32) (y : Int32)  : vx_Met l yX11_boat wsX11_boat ({ frames := 8, cells := 1, slots := 6, locals := 120 }) (PcT dC dI ky [.ref t, .int x, .int y] [(t, .inr (11, [.ref reader, .int (nI 0), .int (nI 0), .ref sea, .ref spareSea, .ref seaText, .ref book, .ref sentence, .ref spareSentence, .ref route, .ref meeting, .ref sighting, .ref draws, .ref history, .ref images, .ref chartBytes, .int (nI 0), .int (-1 : Int32)])), (sea, .inr (7, [.int (nI 4), .int (nI 4), .int (nI 10), .int (nI 1), .int (nI 3), .int (nI 0), .int (nI 0), .int (nI 0), .int (nI 0), .int (nI 0), .ref thickness, .ref lumpNames, .ref lumpCells, .ref boatNames, .ref boatCells, .ref loads, .ref spoons, .ref spoonsLeft, .ref depths]))] sz) (va_Qi (fun (_ : Int32) (_ : Unit) => False) (fun _ _ => True) (fun _ => False)) thX 1 6 (fun _ => False) := by
  refine vx_ofW (cc := cX11_boat) (maxL := 3) (ret := (some .int)) (by decide) rfl ?_
  intro p e s m args below meth c s₁ B hml hxt hv
  obtain ⟨rfl, hsz, hP, hK, hD0, hTU, hTN, ⟨sa1, hR1⟩, ⟨sa2, hR2⟩, hd1, hd2, hd3, hcast⟩ := hv
  have hstr := hR1
  have hx := B.exec
  have hb := B.bytes
  have hr := B.returns
  have hts := atoms_spec (ws := wsX11_boat) B.pre
  have hown : s.vm.findClass RX11 = some m.cls := findClass_of_methodNamed B.named
  have hat : ∀ w ∈ th_atS RX11 164 "java/util/NoSuchElementException" ["java/lang/RuntimeException", "java/lang/Exception"], w.before _ s = true := vx_hat (B := thBadL) (fun w h => hts w (List.mem_cons_of_mem _ (List.mem_append_right _ h))) (fun w h => by rw [show (th_atS RX11 164 "java/util/NoSuchElementException" ["java/lang/RuntimeException", "java/lang/Exception"]).filter (fun w => !goodWord w) = thBadL from thBad_one] at h; exact h) (fun w h => by rcases List.mem_cons.mp h with rfl | h; exact va_Nw.use rfl hd1; rcases List.mem_cons.mp h with rfl | h; exact va_Nw.use rfl hd2; rcases List.mem_cons.mp h with rfl | h; exact va_Nw.use rfl hd3; rw [List.mem_singleton.mp h]; exact va_Nw.use rfl hcast)
  have hin11 : ∀ w ∈ u_ws RX11 TX11 18, w ∈ wsX11_boat := by decide +kernel
  have hl := lv_entry ([.ref t, .int x, .int y]) (n := 3) (Nat.le_of_ble_eq_true rfl)
  rw [lg_entry_eq]
  generalize (lg_sl ([.ref t, .int x, .int y]) ++ List.replicate (3 - (lg_sl ([.ref t, .int x, .int y])).length) Slot.unset).toArray = ls at hl ⊢
  have hl : lv_has ls 3 [(0, .ref t), (1, .int x), (2, .int y)] := hl
  refine lv_aload_n hx hb dX11_boat_0 rfl (lv_at hl 0 rfl) ?_
  refine va_get (D := (dC, dI)) (ci := 11) (v := .ref sea) (C := RX11) (T := TX11) (N := 18) hx hb hts hin11 hown hK hP 0 rfl rfl 3 (by decide) (hts (.fieldLink RX11 26 "PorridgeSea" "sea" "LPorridgeSea$Sea;") (List.mem_of_getElem? (i := 3) rfl)) (fun _ h9 => h9) rfl dX11_boat_1 ?_
  refine lv_iload_n hx hb dX11_boat_4 rfl (lv_at hl 1 rfl) ?_
  refine vp_callSi (W.runV (As := [.int x]) (rest := []) ⟨hx, hb, hml, hown, hts⟩ (c_isBoat0 l dC dI ky sea (nI 10) (nI 1) (nI 3) (nI 0) (nI 0) (nI 0) thickness lumpNames lumpCells boatNames boatCells loads spoons spoonsLeft depths x) (cwV 1 hts gX11_boat_X7_isBoat rfl rfl rfl (by decide +kernel) ⟨(Nat.le_of_ble_eq_true rfl), (Nat.le_of_ble_eq_true rfl)⟩) (pre_PV hK hP [1] rfl (ci := 7) (q0 := 1) rfl rfl) rfl rfl hl.1 rfl (lv_room (Nat.le_of_ble_eq_true rfl)) dX11_boat_5 ⟨(Nat.le_of_ble_eq_true rfl), (Nat.le_of_ble_eq_true rfl)⟩) (fun r1 p2 => ?_)
  subst p2
  refine lv_if_eq (tgt := 21) hx hb dX11_boat_8 (by decide) (fun c3 => ?_) (fun c3 => absurd (by decide) c3)
  refine th_throwS (names := ["java/lang/RuntimeException", "java/lang/Exception"]) (A := fun _ => False) hx hb hst hown (by decide +kernel) (by decide +kernel) (hts _ (List.mem_of_getElem? (i := 1) rfl)) (hts _ (List.mem_of_getElem? (i := 2) rfl)) hstr hat th_ot hTU hTN va_S.rf (by rw [hml]; exact hl.1) dX11_boat_21 dX11_boat_24 dX11_boat_25 dX11_boat_27 dX11_boat_30 (fun x9 h9 => (hxt x9 h9).elim) (Nat.le_of_ble_eq_true rfl) (Nat.le_of_ble_eq_true rfl) (Nat.le_of_ble_eq_true rfl) (Nat.le_of_ble_eq_true rfl) B.notSynchronized (fun t9 h1 h2 h3 => ⟨(), trivial, rfl, h2, fun q9 h4 _ => h3 q9 h4⟩) (fun _ h9 => absurd h9 List.not_mem_nil) (Nat.le_of_ble_eq_true rfl) (Nat.le_of_ble_eq_true rfl)
set_option maxRecDepth 20000 in
theorem lf_meanX_1 (t : Nat) (reader : Nat) (sea : Nat) (spareSea : Nat) (seaText : Nat) (book : Nat) (sentence : Nat) (spareSentence : Nat) (route : Nat) (meeting : Nat) (sighting : Nat) (draws : Nat) (history : Nat) (images : Nat) (chartBytes : Nat) (thickness : Nat) (lumpNames : Nat) (lumpCells : Nat) (boatNames : Nat) (boatCells : Nat) (loads : Nat) (spoons : Nat) (spoonsLeft : Nat) (depths : Nat) (x : Int32) (y : Int32) (hnok : ¬ (0 ≤ x.toInt ∧ x.toInt < 4 ∧ 0 ≤ y.toInt ∧ y.toInt < 2)) (c1 : ¬ x < 0) (c2 : ¬ nI 4 ≤ x) (c3 : ¬ y < 0) (c4 : y ≤ nI 1) : False := by
  have k_0 := ia_n 4 (by decide)
  have k_1 := ia_n 1 (by decide)
  try simp only [ia_lt, ia_le, ia_eq, ia_m1, ia_0, ia_1, ne_eq, true_and, and_true, false_and, and_false, or_false, false_or, or_true, true_or, not_true_eq_false, not_false_eq_true] at *
  all_goals omega
set_option maxHeartbeats 4000000 in
set_option maxRecDepth 100000 in
theorem c_meanX (l : Launch) (dC : Nat → ClassId) (dI : Nat → Nat → Nat) (ky : Nat → ClassId) (hst : l.stackTraces = false) (sz : Nat) (t : Nat) (reader : Nat) (sea : Nat) (spareSea : Nat) (seaText : Nat) (book : Nat) (sentence : Nat) (spareSentence : Nat) (route : Nat) (meeting : Nat) (sighting : Nat) (draws : Nat) (history : Nat) (images : Nat) (chartBytes : Nat) (thickness : Nat) (lumpNames : Nat) (lumpCells : Nat) (boatNames : Nat) (boatCells : Nat) (loads : Nat) (spoons : Nat) (spoonsLeft : Nat) (depths : Nat) (x : Int32) (y : Int32) (hnok : ¬ (0 ≤ x.toInt ∧ x.toInt < 4 ∧ 0 ≤ y.toInt ∧ y.toInt < 2)) : vx_Met l yX11_mean wsX11_mean ({ frames := 8, cells := 1, slots := 6, locals := 120 }) (PcT dC dI ky [.ref t, .int x, .int y] [(t, .inr (11, [.ref reader, .int (nI 0), .int (nI 0), .ref sea, .ref spareSea, .ref seaText, .ref book, .ref sentence, .ref spareSentence, .ref route, .ref meeting, .ref sighting, .ref draws, .ref history, .ref images, .ref chartBytes, .int (nI 0), .int (-1 : Int32)])), (sea, .inr (7, [.int (nI 4), .int (nI 4), .int (nI 10), .int (nI 1), .int (nI 3), .int (nI 0), .int (nI 0), .int (nI 0), .int (nI 0), .int (nI 0), .ref thickness, .ref lumpNames, .ref lumpCells, .ref boatNames, .ref boatCells, .ref loads, .ref spoons, .ref spoonsLeft, .ref depths]))] sz) (va_Qi (fun (_ : Int32) (_ : Unit) => False) (fun _ _ => True) (fun _ => False)) thX 1 6 (fun _ => False) := by
  refine vx_ofW (cc := cX11_mean) (maxL := 5) (ret := (some .int)) (by decide) rfl ?_
  intro p e s m args below meth c s₁ B hml hxt hv
  obtain ⟨rfl, hsz, hP, hK, hD0, hTU, hTN, ⟨sa1, hR1⟩, ⟨sa2, hR2⟩, hd1, hd2, hd3, hcast⟩ := hv
  have hstr := hR2
  have hx := B.exec
  have hb := B.bytes
  have hr := B.returns
  have hts := atoms_spec (ws := wsX11_mean) B.pre
  have hown : s.vm.findClass RX11 = some m.cls := findClass_of_methodNamed B.named
  have hat : ∀ w ∈ th_atS RX11 164 "java/util/NoSuchElementException" ["java/lang/RuntimeException", "java/lang/Exception"], w.before _ s = true := vx_hat (B := thBadL) (fun w h => hts w (List.mem_cons_of_mem _ (List.mem_append_right _ h))) (fun w h => by rw [show (th_atS RX11 164 "java/util/NoSuchElementException" ["java/lang/RuntimeException", "java/lang/Exception"]).filter (fun w => !goodWord w) = thBadL from thBad_one] at h; exact h) (fun w h => by rcases List.mem_cons.mp h with rfl | h; exact va_Nw.use rfl hd1; rcases List.mem_cons.mp h with rfl | h; exact va_Nw.use rfl hd2; rcases List.mem_cons.mp h with rfl | h; exact va_Nw.use rfl hd3; rw [List.mem_singleton.mp h]; exact va_Nw.use rfl hcast)
  have hin7 : ∀ w ∈ u_ws RX7 TX7 19, w ∈ wsX11_mean := by decide +kernel
  have hin11 : ∀ w ∈ u_ws RX11 TX11 18, w ∈ wsX11_mean := by decide +kernel
  have hl := lv_entry ([.ref t, .int x, .int y]) (n := 5) (Nat.le_of_ble_eq_true rfl)
  rw [lg_entry_eq]
  generalize (lg_sl ([.ref t, .int x, .int y]) ++ List.replicate (5 - (lg_sl ([.ref t, .int x, .int y])).length) Slot.unset).toArray = ls at hl ⊢
  have hl : lv_has ls 5 [(0, .ref t), (1, .int x), (2, .int y)] := hl
  refine lv_iload_n hx hb dX11_mean_0 rfl (lv_at hl 1 rfl) ?_
  refine lv_if_lt (tgt := 24) hx hb dX11_mean_1 (by decide) (fun c1 => ?_) (fun c1 => ?_)
  · refine th_throwSW (names := ["java/lang/RuntimeException", "java/lang/Exception"]) (A := fun _ => False) hx hb hst hown (by decide +kernel) (by decide +kernel) (hts _ (List.mem_of_getElem? (i := 1) rfl)) (hts _ (List.mem_of_getElem? (i := 2) rfl)) hstr hat th_ot hTU hTN va_S.rf (by rw [hml]; exact hl.1) dX11_mean_24 dX11_mean_27 dX11_mean_28 dX11_mean_31 dX11_mean_34 (fun x9 h9 => (hxt x9 h9).elim) (Nat.le_of_ble_eq_true rfl) (Nat.le_of_ble_eq_true rfl) (Nat.le_of_ble_eq_true rfl) (Nat.le_of_ble_eq_true rfl) B.notSynchronized (fun t9 h1 h2 h3 => ⟨(), trivial, rfl, h2, fun q9 h4 _ => h3 q9 h4⟩) (fun _ h9 => absurd h9 List.not_mem_nil) (Nat.le_of_ble_eq_true rfl) (Nat.le_of_ble_eq_true rfl)
  · refine lv_iload_n hx hb dX11_mean_4 rfl (lv_at hl 1 rfl) ?_
    refine lv_aload_n hx hb dX11_mean_5 rfl (lv_at hl 0 rfl) ?_
    refine va_get (D := (dC, dI)) (ci := 11) (v := .ref sea) (C := RX11) (T := TX11) (N := 18) hx hb hts hin11 hown hK hP 0 rfl rfl 3 (by decide) (hts (.fieldLink RX11 26 "PorridgeSea" "sea" "LPorridgeSea$Sea;") (List.mem_of_getElem? (i := 3) rfl)) (fun _ h9 => h9) rfl dX11_mean_6 ?_
    refine va_get (D := (dC, dI)) (ci := 7) (v := .int (nI 4)) (C := RX7) (T := TX7) (N := 19) hx hb hts hin7 hown hK hP 1 rfl rfl 1 (by decide) (hts (.fieldLink RX11 200 "PorridgeSea$Sea" "high" "I") (List.mem_of_getElem? (i := 4) rfl)) (fun _ h9 => h9) rfl dX11_mean_9 ?_
    refine lv_icmp_ge (tgt := 24) hx hb dX11_mean_12 (by decide) (fun c2 => ?_) (fun c2 => ?_)
    · refine th_throwSW (names := ["java/lang/RuntimeException", "java/lang/Exception"]) (A := fun _ => False) hx hb hst hown (by decide +kernel) (by decide +kernel) (hts _ (List.mem_of_getElem? (i := 1) rfl)) (hts _ (List.mem_of_getElem? (i := 2) rfl)) hstr hat th_ot hTU hTN va_S.rf (by rw [hml]; exact hl.1) dX11_mean_24 dX11_mean_27 dX11_mean_28 dX11_mean_31 dX11_mean_34 (fun x9 h9 => (hxt x9 h9).elim) (Nat.le_of_ble_eq_true rfl) (Nat.le_of_ble_eq_true rfl) (Nat.le_of_ble_eq_true rfl) (Nat.le_of_ble_eq_true rfl) B.notSynchronized (fun t9 h1 h2 h3 => ⟨(), trivial, rfl, h2, fun q9 h4 _ => h3 q9 h4⟩) (fun _ h9 => absurd h9 List.not_mem_nil) (Nat.le_of_ble_eq_true rfl) (Nat.le_of_ble_eq_true rfl)
    · refine lv_iload_n hx hb dX11_mean_15 rfl (lv_at hl 2 rfl) ?_
      refine lv_if_lt (tgt := 24) hx hb dX11_mean_16 (by decide) (fun c3 => ?_) (fun c3 => ?_)
      · refine th_throwSW (names := ["java/lang/RuntimeException", "java/lang/Exception"]) (A := fun _ => False) hx hb hst hown (by decide +kernel) (by decide +kernel) (hts _ (List.mem_of_getElem? (i := 1) rfl)) (hts _ (List.mem_of_getElem? (i := 2) rfl)) hstr hat th_ot hTU hTN va_S.rf (by rw [hml]; exact hl.1) dX11_mean_24 dX11_mean_27 dX11_mean_28 dX11_mean_31 dX11_mean_34 (fun x9 h9 => (hxt x9 h9).elim) (Nat.le_of_ble_eq_true rfl) (Nat.le_of_ble_eq_true rfl) (Nat.le_of_ble_eq_true rfl) (Nat.le_of_ble_eq_true rfl) B.notSynchronized (fun t9 h1 h2 h3 => ⟨(), trivial, rfl, h2, fun q9 h4 _ => h3 q9 h4⟩) (fun _ h9 => absurd h9 List.not_mem_nil) (Nat.le_of_ble_eq_true rfl) (Nat.le_of_ble_eq_true rfl)
      · refine lv_iload_n hx hb dX11_mean_19 rfl (lv_at hl 2 rfl) ?_
        refine lv_iconst (v := nI 1) hx hb dX11_mean_20 (by decide) ?_
        refine lv_icmp_le (tgt := 35) hx hb dX11_mean_21 (by decide) (fun c4 => ?_) (fun c4 => ?_)
        · exact ((lf_meanX_1 t reader sea spareSea seaText book sentence spareSentence route meeting sighting draws history images chartBytes thickness lumpNames lumpCells boatNames boatCells loads spoons spoonsLeft depths x y hnok c1 c2 c3 c4)).elim
        · refine th_throwSW (names := ["java/lang/RuntimeException", "java/lang/Exception"]) (A := fun _ => False) hx hb hst hown (by decide +kernel) (by decide +kernel) (hts _ (List.mem_of_getElem? (i := 1) rfl)) (hts _ (List.mem_of_getElem? (i := 2) rfl)) hstr hat th_ot hTU hTN va_S.rf (by rw [hml]; exact hl.1) dX11_mean_24 dX11_mean_27 dX11_mean_28 dX11_mean_31 dX11_mean_34 (fun x9 h9 => (hxt x9 h9).elim) (Nat.le_of_ble_eq_true rfl) (Nat.le_of_ble_eq_true rfl) (Nat.le_of_ble_eq_true rfl) (Nat.le_of_ble_eq_true rfl) B.notSynchronized (fun t9 h1 h2 h3 => ⟨(), trivial, rfl, h2, fun q9 h4 _ => h3 q9 h4⟩) (fun _ h9 => absurd h9 List.not_mem_nil) (Nat.le_of_ble_eq_true rfl) (Nat.le_of_ble_eq_true rfl)
