theorem dX7_isCell_0 : decode cX7_isCell 0 = .ok (.iload_n 1, 1) := by decide +kernel
theorem dX7_isCell_1 : decode cX7_isCell 1 = .ok (.ifCond .lt 27, 3) := by decide +kernel
theorem dX7_isCell_28 : decode cX7_isCell 28 = .ok (.iconst 0, 1) := by decide +kernel
theorem dX7_isCell_29 : decode cX7_isCell 29 = .ok (.ireturn, 1) := by decide +kernel
theorem dX7_isCell_4 : decode cX7_isCell 4 = .ok (.iload_n 1, 1) := by decide +kernel
theorem dX7_isCell_5 : decode cX7_isCell 5 = .ok (.aload_n 0, 1) := by decide +kernel
theorem dX7_isCell_6 : decode cX7_isCell 6 = .ok (.getfield 43, 3) := by decide +kernel
theorem dX7_isCell_9 : decode cX7_isCell 9 = .ok (.if_icmp .ge 19, 3) := by decide +kernel
theorem dX7_isCell_12 : decode cX7_isCell 12 = .ok (.iload_n 2, 1) := by decide +kernel
theorem dX7_isCell_13 : decode cX7_isCell 13 = .ok (.ifCond .lt 15, 3) := by decide +kernel
theorem dX7_isCell_16 : decode cX7_isCell 16 = .ok (.iload_n 2, 1) := by decide +kernel
theorem dX7_isCell_17 : decode cX7_isCell 17 = .ok (.aload_n 0, 1) := by decide +kernel
theorem dX7_isCell_18 : decode cX7_isCell 18 = .ok (.getfield 47, 3) := by decide +kernel
theorem dX7_isCell_21 : decode cX7_isCell 21 = .ok (.if_icmp .ge 7, 3) := by decide +kernel
theorem dX7_isCell_24 : decode cX7_isCell 24 = .ok (.iconst 1, 1) := by decide +kernel
theorem dX7_isCell_25 : decode cX7_isCell 25 = .ok (.goto 4, 3) := by decide +kernel
theorem dX7_isLump_0 : decode cX7_isLump 0 = .ok (.iload_n 1, 1) := by decide +kernel
theorem dX7_isLump_1 : decode cX7_isLump 1 = .ok (.ifCond .lt 15, 3) := by decide +kernel
theorem dX7_isLump_16 : decode cX7_isLump 16 = .ok (.iconst 0, 1) := by decide +kernel
theorem dX7_isLump_17 : decode cX7_isLump 17 = .ok (.ireturn, 1) := by decide +kernel
theorem dX7_isLump_4 : decode cX7_isLump 4 = .ok (.iload_n 1, 1) := by decide +kernel
theorem dX7_isLump_5 : decode cX7_isLump 5 = .ok (.aload_n 0, 1) := by decide +kernel
theorem dX7_isLump_6 : decode cX7_isLump 6 = .ok (.getfield 68, 3) := by decide +kernel
theorem dX7_isLump_9 : decode cX7_isLump 9 = .ok (.if_icmp .ge 7, 3) := by decide +kernel
theorem dX7_isLump_12 : decode cX7_isLump 12 = .ok (.iconst 1, 1) := by decide +kernel
theorem dX7_isLump_13 : decode cX7_isLump 13 = .ok (.goto 4, 3) := by decide +kernel
theorem dX7_isBoat_0 : decode cX7_isBoat 0 = .ok (.iload_n 1, 1) := by decide +kernel
theorem dX7_isBoat_1 : decode cX7_isBoat 1 = .ok (.ifCond .lt 15, 3) := by decide +kernel
theorem dX7_isBoat_16 : decode cX7_isBoat 16 = .ok (.iconst 0, 1) := by decide +kernel
theorem dX7_isBoat_17 : decode cX7_isBoat 17 = .ok (.ireturn, 1) := by decide +kernel
theorem dX7_isBoat_4 : decode cX7_isBoat 4 = .ok (.iload_n 1, 1) := by decide +kernel
theorem dX7_isBoat_5 : decode cX7_isBoat 5 = .ok (.aload_n 0, 1) := by decide +kernel
theorem dX7_isBoat_6 : decode cX7_isBoat 6 = .ok (.getfield 71, 3) := by decide +kernel
theorem dX7_isBoat_9 : decode cX7_isBoat 9 = .ok (.if_icmp .ge 7, 3) := by decide +kernel
theorem dX7_isBoat_12 : decode cX7_isBoat 12 = .ok (.iconst 1, 1) := by decide +kernel
theorem dX7_isBoat_13 : decode cX7_isBoat 13 = .ok (.goto 4, 3) := by decide +kernel
theorem dX7_hasSkin_0 : decode cX7_hasSkin 0 = .ok (.aload_n 0, 1) := by decide +kernel
theorem dX7_hasSkin_1 : decode cX7_hasSkin 1 = .ok (.getfield 50, 3) := by decide +kernel
theorem dX7_hasSkin_4 : decode cX7_hasSkin 4 = .ok (.aload_n 0, 1) := by decide +kernel
theorem dX7_hasSkin_5 : decode cX7_hasSkin 5 = .ok (.getfield 56, 3) := by decide +kernel
theorem dX7_hasSkin_8 : decode cX7_hasSkin 8 = .ok (.if_icmp .gt 7, 3) := by decide +kernel
theorem dX7_hasSkin_15 : decode cX7_hasSkin 15 = .ok (.iconst 0, 1) := by decide +kernel
theorem dX7_hasSkin_16 : decode cX7_hasSkin 16 = .ok (.ireturn, 1) := by decide +kernel
theorem dX7_hasSkin_11 : decode cX7_hasSkin 11 = .ok (.iconst 1, 1) := by decide +kernel
theorem dX7_hasSkin_12 : decode cX7_hasSkin 12 = .ok (.goto 4, 3) := by decide +kernel
theorem dX7_daysLeft_0 : decode cX7_daysLeft 0 = .ok (.sipush 400, 3) := by decide +kernel
theorem dX7_daysLeft_3 : decode cX7_daysLeft 3 = .ok (.aload_n 0, 1) := by decide +kernel
theorem dX7_daysLeft_4 : decode cX7_daysLeft 4 = .ok (.getfield 59, 3) := by decide +kernel
theorem dX7_daysLeft_7 : decode cX7_daysLeft 7 = .ok (.isub, 1) := by decide +kernel
theorem dX7_daysLeft_8 : decode cX7_daysLeft 8 = .ok (.ireturn, 1) := by decide +kernel
set_option maxRecDepth 20000 in
theorem lf_isCell_1 (a : Nat) (wide : Int32) (high : Int32) (heat : Int32) (cools : Int32) (skinHeat : Int32) (today : Int32) (stirs : Int32) (steps : Int32) (lumps : Int32) (boats : Int32) (thickness : Nat) (lumpNames : Nat) (lumpCells : Nat) (boatNames : Nat) (boatCells : Nat) (loads : Nat) (spoons : Nat) (spoonsLeft : Nat) (depths : Nat) (x : Int32) (y : Int32) (c1 : x < 0) : ((nI 0) = nI 1 ∧ (0 ≤ x.toInt ∧ x.toInt < wide.toInt ∧ 0 ≤ y.toInt ∧ y.toInt < high.toInt)) ∨ ((nI 0) = nI 0 ∧ ¬ (0 ≤ x.toInt ∧ x.toInt < wide.toInt ∧ 0 ≤ y.toInt ∧ y.toInt < high.toInt)) := by
  have k_0 := ia_n 0 (by decide)
  have k_1 := ia_n 1 (by decide)
  simp only [ia_lt, ia_le, ia_eq, ia_m1, ia_0, ia_1, ne_eq, true_and, and_true, false_and, and_false, or_false, false_or, or_true, true_or, not_true_eq_false, not_false_eq_true] at *
  all_goals omega
set_option maxRecDepth 20000 in
theorem lf_isCell_2 (a : Nat) (wide : Int32) (high : Int32) (heat : Int32) (cools : Int32) (skinHeat : Int32) (today : Int32) (stirs : Int32) (steps : Int32) (lumps : Int32) (boats : Int32) (thickness : Nat) (lumpNames : Nat) (lumpCells : Nat) (boatNames : Nat) (boatCells : Nat) (loads : Nat) (spoons : Nat) (spoonsLeft : Nat) (depths : Nat) (x : Int32) (y : Int32) (c1 : ¬ x < 0) (c2 : wide ≤ x) : ((nI 0) = nI 1 ∧ (0 ≤ x.toInt ∧ x.toInt < wide.toInt ∧ 0 ≤ y.toInt ∧ y.toInt < high.toInt)) ∨ ((nI 0) = nI 0 ∧ ¬ (0 ≤ x.toInt ∧ x.toInt < wide.toInt ∧ 0 ≤ y.toInt ∧ y.toInt < high.toInt)) := by
  have k_0 := ia_n 0 (by decide)
  have k_1 := ia_n 1 (by decide)
  simp only [ia_lt, ia_le, ia_eq, ia_m1, ia_0, ia_1, ne_eq, true_and, and_true, false_and, and_false, or_false, false_or, or_true, true_or, not_true_eq_false, not_false_eq_true] at *
  all_goals omega
set_option maxRecDepth 20000 in
theorem lf_isCell_3 (a : Nat) (wide : Int32) (high : Int32) (heat : Int32) (cools : Int32) (skinHeat : Int32) (today : Int32) (stirs : Int32) (steps : Int32) (lumps : Int32) (boats : Int32) (thickness : Nat) (lumpNames : Nat) (lumpCells : Nat) (boatNames : Nat) (boatCells : Nat) (loads : Nat) (spoons : Nat) (spoonsLeft : Nat) (depths : Nat) (x : Int32) (y : Int32) (c1 : ¬ x < 0) (c2 : ¬ wide ≤ x) (c3 : y < 0) : ((nI 0) = nI 1 ∧ (0 ≤ x.toInt ∧ x.toInt < wide.toInt ∧ 0 ≤ y.toInt ∧ y.toInt < high.toInt)) ∨ ((nI 0) = nI 0 ∧ ¬ (0 ≤ x.toInt ∧ x.toInt < wide.toInt ∧ 0 ≤ y.toInt ∧ y.toInt < high.toInt)) := by
  have k_0 := ia_n 0 (by decide)
  have k_1 := ia_n 1 (by decide)
  simp only [ia_lt, ia_le, ia_eq, ia_m1, ia_0, ia_1, ne_eq, true_and, and_true, false_and, and_false, or_false, false_or, or_true, true_or, not_true_eq_false, not_false_eq_true] at *
  all_goals omega
set_option maxRecDepth 20000 in
theorem lf_isCell_4 (a : Nat) (wide : Int32) (high : Int32) (heat : Int32) (cools : Int32) (skinHeat : Int32) (today : Int32) (stirs : Int32) (steps : Int32) (lumps : Int32) (boats : Int32) (thickness : Nat) (lumpNames : Nat) (lumpCells : Nat) (boatNames : Nat) (boatCells : Nat) (loads : Nat) (spoons : Nat) (spoonsLeft : Nat) (depths : Nat) (x : Int32) (y : Int32) (c1 : ¬ x < 0) (c2 : ¬ wide ≤ x) (c3 : ¬ y < 0) (c4 : high ≤ y) : ((nI 0) = nI 1 ∧ (0 ≤ x.toInt ∧ x.toInt < wide.toInt ∧ 0 ≤ y.toInt ∧ y.toInt < high.toInt)) ∨ ((nI 0) = nI 0 ∧ ¬ (0 ≤ x.toInt ∧ x.toInt < wide.toInt ∧ 0 ≤ y.toInt ∧ y.toInt < high.toInt)) := by
  have k_0 := ia_n 0 (by decide)
  have k_1 := ia_n 1 (by decide)
  simp only [ia_lt, ia_le, ia_eq, ia_m1, ia_0, ia_1, ne_eq, true_and, and_true, false_and, and_false, or_false, false_or, or_true, true_or, not_true_eq_false, not_false_eq_true] at *
  all_goals omega
set_option maxRecDepth 20000 in
theorem lf_isCell_5 (a : Nat) (wide : Int32) (high : Int32) (heat : Int32) (cools : Int32) (skinHeat : Int32) (today : Int32) (stirs : Int32) (steps : Int32) (lumps : Int32) (boats : Int32) (thickness : Nat) (lumpNames : Nat) (lumpCells : Nat) (boatNames : Nat) (boatCells : Nat) (loads : Nat) (spoons : Nat) (spoonsLeft : Nat) (depths : Nat) (x : Int32) (y : Int32) (c1 : ¬ x < 0) (c2 : ¬ wide ≤ x) (c3 : ¬ y < 0) (c4 : ¬ high ≤ y) : ((nI 1) = nI 1 ∧ (0 ≤ x.toInt ∧ x.toInt < wide.toInt ∧ 0 ≤ y.toInt ∧ y.toInt < high.toInt)) ∨ ((nI 1) = nI 0 ∧ ¬ (0 ≤ x.toInt ∧ x.toInt < wide.toInt ∧ 0 ≤ y.toInt ∧ y.toInt < high.toInt)) := by
  have k_0 := ia_n 1 (by decide)
  have k_1 := ia_n 0 (by decide)
  simp only [ia_lt, ia_le, ia_eq, ia_m1, ia_0, ia_1, ne_eq, true_and, and_true, false_and, and_false, or_false, false_or, or_true, true_or, not_true_eq_false, not_false_eq_true] at *
  all_goals omega
set_option maxHeartbeats 4000000 in
set_option maxRecDepth 100000 in
theorem c_isCell (l : Launch) (dC : Nat → ClassId) (dI : Nat → Nat → Nat) (ky : Nat → ClassId) (a : Nat) (wide : Int32) (high : Int32) (heat : Int32) (cools : Int32) (skinHeat : Int32) (today : Int32) (stirs : Int32) (steps : Int32) (lumps : Int32) (boats : Int32) (thickness : Nat) (lumpNames : Nat) (lumpCells : Nat) (boatNames : Nat) (boatCells : Nat) (loads : Nat) (spoons : Nat) (spoonsLeft : Nat) (depths : Nat) (x : Int32) (y : Int32)  : Met l yX7_isCell wsX7_isCell ({ frames := 0, cells := 0, slots := 0, locals := 0 }) (PcP dC dI ky [.ref a, .int x, .int y] [(a, .inr (7, [.int wide, .int high, .int heat, .int cools, .int skinHeat, .int today, .int stirs, .int steps, .int lumps, .int boats, .ref thickness, .ref lumpNames, .ref lumpCells, .ref boatNames, .ref boatCells, .ref loads, .ref spoons, .ref spoonsLeft, .ref depths]))]) (vp_Si (fun r : Int32 => (r = nI 1 ∧ (0 ≤ x.toInt ∧ x.toInt < wide.toInt ∧ 0 ≤ y.toInt ∧ y.toInt < high.toInt)) ∨ (r = nI 0 ∧ ¬ (0 ≤ x.toInt ∧ x.toInt < wide.toInt ∧ 0 ≤ y.toInt ∧ y.toInt < high.toInt)))) 0 0 (fun _ => False) := by
  refine Met.ofW (cc := cX7_isCell) (maxL := 3) (ret := (some .boolean)) (by decide) rfl ?_
  intro p e s m args below meth c s₁ B hml hv
  obtain ⟨rfl, hP, hK⟩ := hv
  have hx := B.exec
  have hb := B.bytes
  have hr := B.returns
  have hts := atoms_spec (ws := wsX7_isCell) B.pre
  have hown : s.vm.findClass RX7 = some m.cls := findClass_of_methodNamed B.named
  have hlocks := B.notSynchronized
  have hin7 : ∀ w ∈ u_ws RX7 TX7 19, w ∈ wsX7_isCell := by decide +kernel
  have hl := lv_entry ([.ref a, .int x, .int y]) (n := 3) (Nat.le_of_ble_eq_true rfl)
  rw [lg_entry_eq]
  generalize (lg_sl ([.ref a, .int x, .int y]) ++ List.replicate (3 - (lg_sl ([.ref a, .int x, .int y])).length) Slot.unset).toArray = ls at hl ⊢
  have hl : lv_has ls 3 [(0, .ref a), (1, .int x), (2, .int y)] := hl
  refine lv_iload_n hx hb dX7_isCell_0 rfl (lv_at hl 1 rfl) ?_
  refine lv_if_lt (tgt := 28) hx hb dX7_isCell_1 (by decide) (fun c1 => ?_) (fun c1 => ?_)
  · refine lv_iconst (v := nI 0) hx hb dX7_isCell_28 (by decide) ?_
    exact W.zret (v := nI 0) hx hb hr (by decide) (fun t ht9 hW9 => ⟨nI 0, rfl, (lf_isCell_1 a wide high heat cools skinHeat today stirs steps lumps boats thickness lumpNames lumpCells boatNames boatCells loads spoons spoonsLeft depths x y c1), ht9⟩) (fun _ h => absurd h List.not_mem_nil) dX7_isCell_29
  · refine lv_iload_n hx hb dX7_isCell_4 rfl (lv_at hl 1 rfl) ?_
    refine lv_aload_n hx hb dX7_isCell_5 rfl (lv_at hl 0 rfl) ?_
    refine va_get (D := (dC, dI)) (ci := 7) (v := .int wide) (C := RX7) (T := TX7) (N := 19) hx hb hts hin7 hown hK hP 0 rfl rfl 0 (by decide) (hts (.fieldLink RX7 43 "PorridgeSea$Sea" "wide" "I") (List.mem_of_getElem? (i := 1) rfl)) (fun _ h9 => h9) rfl dX7_isCell_6 ?_
    refine lv_icmp_ge (tgt := 28) hx hb dX7_isCell_9 (by decide) (fun c2 => ?_) (fun c2 => ?_)
    · refine lv_iconst (v := nI 0) hx hb dX7_isCell_28 (by decide) ?_
      exact W.zret (v := nI 0) hx hb hr (by decide) (fun t ht9 hW9 => ⟨nI 0, rfl, (lf_isCell_2 a wide high heat cools skinHeat today stirs steps lumps boats thickness lumpNames lumpCells boatNames boatCells loads spoons spoonsLeft depths x y c1 c2), ht9⟩) (fun _ h => absurd h List.not_mem_nil) dX7_isCell_29
    · refine lv_iload_n hx hb dX7_isCell_12 rfl (lv_at hl 2 rfl) ?_
      refine lv_if_lt (tgt := 28) hx hb dX7_isCell_13 (by decide) (fun c3 => ?_) (fun c3 => ?_)
      · refine lv_iconst (v := nI 0) hx hb dX7_isCell_28 (by decide) ?_
        exact W.zret (v := nI 0) hx hb hr (by decide) (fun t ht9 hW9 => ⟨nI 0, rfl, (lf_isCell_3 a wide high heat cools skinHeat today stirs steps lumps boats thickness lumpNames lumpCells boatNames boatCells loads spoons spoonsLeft depths x y c1 c2 c3), ht9⟩) (fun _ h => absurd h List.not_mem_nil) dX7_isCell_29
      · refine lv_iload_n hx hb dX7_isCell_16 rfl (lv_at hl 2 rfl) ?_
        refine lv_aload_n hx hb dX7_isCell_17 rfl (lv_at hl 0 rfl) ?_
        refine va_get (D := (dC, dI)) (ci := 7) (v := .int high) (C := RX7) (T := TX7) (N := 19) hx hb hts hin7 hown hK hP 0 rfl rfl 1 (by decide) (hts (.fieldLink RX7 47 "PorridgeSea$Sea" "high" "I") (List.mem_of_getElem? (i := 2) rfl)) (fun _ h9 => h9) rfl dX7_isCell_18 ?_
        refine lv_icmp_ge (tgt := 28) hx hb dX7_isCell_21 (by decide) (fun c4 => ?_) (fun c4 => ?_)
        · refine lv_iconst (v := nI 0) hx hb dX7_isCell_28 (by decide) ?_
          exact W.zret (v := nI 0) hx hb hr (by decide) (fun t ht9 hW9 => ⟨nI 0, rfl, (lf_isCell_4 a wide high heat cools skinHeat today stirs steps lumps boats thickness lumpNames lumpCells boatNames boatCells loads spoons spoonsLeft depths x y c1 c2 c3 c4), ht9⟩) (fun _ h => absurd h List.not_mem_nil) dX7_isCell_29
        · refine lv_iconst (v := nI 1) hx hb dX7_isCell_24 (by decide) ?_
          refine lv_goto (tgt := 29) hx hb dX7_isCell_25 (by decide) ?_
          exact W.zret (v := nI 1) hx hb hr (by decide) (fun t ht9 hW9 => ⟨nI 1, rfl, (lf_isCell_5 a wide high heat cools skinHeat today stirs steps lumps boats thickness lumpNames lumpCells boatNames boatCells loads spoons spoonsLeft depths x y c1 c2 c3 c4), ht9⟩) (fun _ h => absurd h List.not_mem_nil) dX7_isCell_29
set_option maxRecDepth 20000 in
theorem lf_isLump_1 (a : Nat) (wide : Int32) (high : Int32) (heat : Int32) (cools : Int32) (skinHeat : Int32) (today : Int32) (stirs : Int32) (steps : Int32) (lumps : Int32) (boats : Int32) (thickness : Nat) (lumpNames : Nat) (lumpCells : Nat) (boatNames : Nat) (boatCells : Nat) (loads : Nat) (spoons : Nat) (spoonsLeft : Nat) (depths : Nat) (x : Int32) (c1 : x < 0) : ((nI 0) = nI 1 ∧ 0 ≤ x.toInt ∧ x.toInt < lumps.toInt) ∨ ((nI 0) = nI 0 ∧ ¬ (0 ≤ x.toInt ∧ x.toInt < lumps.toInt)) := by
  have k_0 := ia_n 0 (by decide)
  have k_1 := ia_n 1 (by decide)
  simp only [ia_lt, ia_le, ia_eq, ia_m1, ia_0, ia_1, ne_eq, true_and, and_true, false_and, and_false, or_false, false_or, or_true, true_or, not_true_eq_false, not_false_eq_true] at *
  all_goals omega
set_option maxRecDepth 20000 in
theorem lf_isLump_2 (a : Nat) (wide : Int32) (high : Int32) (heat : Int32) (cools : Int32) (skinHeat : Int32) (today : Int32) (stirs : Int32) (steps : Int32) (lumps : Int32) (boats : Int32) (thickness : Nat) (lumpNames : Nat) (lumpCells : Nat) (boatNames : Nat) (boatCells : Nat) (loads : Nat) (spoons : Nat) (spoonsLeft : Nat) (depths : Nat) (x : Int32) (c1 : ¬ x < 0) (c2 : lumps ≤ x) : ((nI 0) = nI 1 ∧ 0 ≤ x.toInt ∧ x.toInt < lumps.toInt) ∨ ((nI 0) = nI 0 ∧ ¬ (0 ≤ x.toInt ∧ x.toInt < lumps.toInt)) := by
  have k_0 := ia_n 0 (by decide)
  have k_1 := ia_n 1 (by decide)
  simp only [ia_lt, ia_le, ia_eq, ia_m1, ia_0, ia_1, ne_eq, true_and, and_true, false_and, and_false, or_false, false_or, or_true, true_or, not_true_eq_false, not_false_eq_true] at *
  all_goals omega
set_option maxRecDepth 20000 in
theorem lf_isLump_3 (a : Nat) (wide : Int32) (high : Int32) (heat : Int32) (cools : Int32) (skinHeat : Int32) (today : Int32) (stirs : Int32) (steps : Int32) (lumps : Int32) (boats : Int32) (thickness : Nat) (lumpNames : Nat) (lumpCells : Nat) (boatNames : Nat) (boatCells : Nat) (loads : Nat) (spoons : Nat) (spoonsLeft : Nat) (depths : Nat) (x : Int32) (c1 : ¬ x < 0) (c2 : ¬ lumps ≤ x) : ((nI 1) = nI 1 ∧ 0 ≤ x.toInt ∧ x.toInt < lumps.toInt) ∨ ((nI 1) = nI 0 ∧ ¬ (0 ≤ x.toInt ∧ x.toInt < lumps.toInt)) := by
  have k_0 := ia_n 1 (by decide)
  have k_1 := ia_n 0 (by decide)
  simp only [ia_lt, ia_le, ia_eq, ia_m1, ia_0, ia_1, ne_eq, true_and, and_true, false_and, and_false, or_false, false_or, or_true, true_or, not_true_eq_false, not_false_eq_true] at *
  all_goals omega
set_option maxHeartbeats 4000000 in
set_option maxRecDepth 100000 in
theorem c_isLump (l : Launch) (dC : Nat → ClassId) (dI : Nat → Nat → Nat) (ky : Nat → ClassId) (a : Nat) (wide : Int32) (high : Int32) (heat : Int32) (cools : Int32) (skinHeat : Int32) (today : Int32) (stirs : Int32) (steps : Int32) (lumps : Int32) (boats : Int32) (thickness : Nat) (lumpNames : Nat) (lumpCells : Nat) (boatNames : Nat) (boatCells : Nat) (loads : Nat) (spoons : Nat) (spoonsLeft : Nat) (depths : Nat) (x : Int32)  : Met l yX7_isLump wsX7_isLump ({ frames := 0, cells := 0, slots := 0, locals := 0 }) (PcP dC dI ky [.ref a, .int x] [(a, .inr (7, [.int wide, .int high, .int heat, .int cools, .int skinHeat, .int today, .int stirs, .int steps, .int lumps, .int boats, .ref thickness, .ref lumpNames, .ref lumpCells, .ref boatNames, .ref boatCells, .ref loads, .ref spoons, .ref spoonsLeft, .ref depths]))]) (vp_Si (fun r : Int32 => (r = nI 1 ∧ 0 ≤ x.toInt ∧ x.toInt < lumps.toInt) ∨ (r = nI 0 ∧ ¬ (0 ≤ x.toInt ∧ x.toInt < lumps.toInt)))) 0 0 (fun _ => False) := by
  refine Met.ofW (cc := cX7_isLump) (maxL := 2) (ret := (some .boolean)) (by decide) rfl ?_
  intro p e s m args below meth c s₁ B hml hv
  obtain ⟨rfl, hP, hK⟩ := hv
  have hx := B.exec
  have hb := B.bytes
  have hr := B.returns
  have hts := atoms_spec (ws := wsX7_isLump) B.pre
  have hown : s.vm.findClass RX7 = some m.cls := findClass_of_methodNamed B.named
  have hlocks := B.notSynchronized
  have hin7 : ∀ w ∈ u_ws RX7 TX7 19, w ∈ wsX7_isLump := by decide +kernel
  have hl := lv_entry ([.ref a, .int x]) (n := 2) (Nat.le_of_ble_eq_true rfl)
  rw [lg_entry_eq]
  generalize (lg_sl ([.ref a, .int x]) ++ List.replicate (2 - (lg_sl ([.ref a, .int x])).length) Slot.unset).toArray = ls at hl ⊢
  have hl : lv_has ls 2 [(0, .ref a), (1, .int x)] := hl
  refine lv_iload_n hx hb dX7_isLump_0 rfl (lv_at hl 1 rfl) ?_
  refine lv_if_lt (tgt := 16) hx hb dX7_isLump_1 (by decide) (fun c1 => ?_) (fun c1 => ?_)
  · refine lv_iconst (v := nI 0) hx hb dX7_isLump_16 (by decide) ?_
    exact W.zret (v := nI 0) hx hb hr (by decide) (fun t ht9 hW9 => ⟨nI 0, rfl, (lf_isLump_1 a wide high heat cools skinHeat today stirs steps lumps boats thickness lumpNames lumpCells boatNames boatCells loads spoons spoonsLeft depths x c1), ht9⟩) (fun _ h => absurd h List.not_mem_nil) dX7_isLump_17
  · refine lv_iload_n hx hb dX7_isLump_4 rfl (lv_at hl 1 rfl) ?_
    refine lv_aload_n hx hb dX7_isLump_5 rfl (lv_at hl 0 rfl) ?_
    refine va_get (D := (dC, dI)) (ci := 7) (v := .int lumps) (C := RX7) (T := TX7) (N := 19) hx hb hts hin7 hown hK hP 0 rfl rfl 8 (by decide) (hts (.fieldLink RX7 68 "PorridgeSea$Sea" "lumps" "I") (List.mem_of_getElem? (i := 1) rfl)) (fun _ h9 => h9) rfl dX7_isLump_6 ?_
    refine lv_icmp_ge (tgt := 16) hx hb dX7_isLump_9 (by decide) (fun c2 => ?_) (fun c2 => ?_)
    · refine lv_iconst (v := nI 0) hx hb dX7_isLump_16 (by decide) ?_
      exact W.zret (v := nI 0) hx hb hr (by decide) (fun t ht9 hW9 => ⟨nI 0, rfl, (lf_isLump_2 a wide high heat cools skinHeat today stirs steps lumps boats thickness lumpNames lumpCells boatNames boatCells loads spoons spoonsLeft depths x c1 c2), ht9⟩) (fun _ h => absurd h List.not_mem_nil) dX7_isLump_17
    · refine lv_iconst (v := nI 1) hx hb dX7_isLump_12 (by decide) ?_
      refine lv_goto (tgt := 17) hx hb dX7_isLump_13 (by decide) ?_
      exact W.zret (v := nI 1) hx hb hr (by decide) (fun t ht9 hW9 => ⟨nI 1, rfl, (lf_isLump_3 a wide high heat cools skinHeat today stirs steps lumps boats thickness lumpNames lumpCells boatNames boatCells loads spoons spoonsLeft depths x c1 c2), ht9⟩) (fun _ h => absurd h List.not_mem_nil) dX7_isLump_17
set_option maxRecDepth 20000 in
theorem lf_isBoat_1 (a : Nat) (wide : Int32) (high : Int32) (heat : Int32) (cools : Int32) (skinHeat : Int32) (today : Int32) (stirs : Int32) (steps : Int32) (lumps : Int32) (boats : Int32) (thickness : Nat) (lumpNames : Nat) (lumpCells : Nat) (boatNames : Nat) (boatCells : Nat) (loads : Nat) (spoons : Nat) (spoonsLeft : Nat) (depths : Nat) (x : Int32) (c1 : x < 0) : ((nI 0) = nI 1 ∧ 0 ≤ x.toInt ∧ x.toInt < boats.toInt) ∨ ((nI 0) = nI 0 ∧ ¬ (0 ≤ x.toInt ∧ x.toInt < boats.toInt)) := by
  have k_0 := ia_n 0 (by decide)
  have k_1 := ia_n 1 (by decide)
  simp only [ia_lt, ia_le, ia_eq, ia_m1, ia_0, ia_1, ne_eq, true_and, and_true, false_and, and_false, or_false, false_or, or_true, true_or, not_true_eq_false, not_false_eq_true] at *
  all_goals omega
set_option maxRecDepth 20000 in
theorem lf_isBoat_2 (a : Nat) (wide : Int32) (high : Int32) (heat : Int32) (cools : Int32) (skinHeat : Int32) (today : Int32) (stirs : Int32) (steps : Int32) (lumps : Int32) (boats : Int32) (thickness : Nat) (lumpNames : Nat) (lumpCells : Nat) (boatNames : Nat) (boatCells : Nat) (loads : Nat) (spoons : Nat) (spoonsLeft : Nat) (depths : Nat) (x : Int32) (c1 : ¬ x < 0) (c2 : boats ≤ x) : ((nI 0) = nI 1 ∧ 0 ≤ x.toInt ∧ x.toInt < boats.toInt) ∨ ((nI 0) = nI 0 ∧ ¬ (0 ≤ x.toInt ∧ x.toInt < boats.toInt)) := by
  have k_0 := ia_n 0 (by decide)
  have k_1 := ia_n 1 (by decide)
  simp only [ia_lt, ia_le, ia_eq, ia_m1, ia_0, ia_1, ne_eq, true_and, and_true, false_and, and_false, or_false, false_or, or_true, true_or, not_true_eq_false, not_false_eq_true] at *
  all_goals omega
set_option maxRecDepth 20000 in
theorem lf_isBoat_3 (a : Nat) (wide : Int32) (high : Int32) (heat : Int32) (cools : Int32) (skinHeat : Int32) (today : Int32) (stirs : Int32) (steps : Int32) (lumps : Int32) (boats : Int32) (thickness : Nat) (lumpNames : Nat) (lumpCells : Nat) (boatNames : Nat) (boatCells : Nat) (loads : Nat) (spoons : Nat) (spoonsLeft : Nat) (depths : Nat) (x : Int32) (c1 : ¬ x < 0) (c2 : ¬ boats ≤ x) : ((nI 1) = nI 1 ∧ 0 ≤ x.toInt ∧ x.toInt < boats.toInt) ∨ ((nI 1) = nI 0 ∧ ¬ (0 ≤ x.toInt ∧ x.toInt < boats.toInt)) := by
  have k_0 := ia_n 1 (by decide)
  have k_1 := ia_n 0 (by decide)
  simp only [ia_lt, ia_le, ia_eq, ia_m1, ia_0, ia_1, ne_eq, true_and, and_true, false_and, and_false, or_false, false_or, or_true, true_or, not_true_eq_false, not_false_eq_true] at *
  all_goals omega
set_option maxHeartbeats 4000000 in
set_option maxRecDepth 100000 in
theorem c_isBoat (l : Launch) (dC : Nat → ClassId) (dI : Nat → Nat → Nat) (ky : Nat → ClassId) (a : Nat) (wide : Int32) (high : Int32) (heat : Int32) (cools : Int32) (skinHeat : Int32) (today : Int32) (stirs : Int32) (steps : Int32) (lumps : Int32) (boats : Int32) (thickness : Nat) (lumpNames : Nat) (lumpCells : Nat) (boatNames : Nat) (boatCells : Nat) (loads : Nat) (spoons : Nat) (spoonsLeft : Nat) (depths : Nat) (x : Int32)  : Met l yX7_isBoat wsX7_isBoat ({ frames := 0, cells := 0, slots := 0, locals := 0 }) (PcP dC dI ky [.ref a, .int x] [(a, .inr (7, [.int wide, .int high, .int heat, .int cools, .int skinHeat, .int today, .int stirs, .int steps, .int lumps, .int boats, .ref thickness, .ref lumpNames, .ref lumpCells, .ref boatNames, .ref boatCells, .ref loads, .ref spoons, .ref spoonsLeft, .ref depths]))]) (vp_Si (fun r : Int32 => (r = nI 1 ∧ 0 ≤ x.toInt ∧ x.toInt < boats.toInt) ∨ (r = nI 0 ∧ ¬ (0 ≤ x.toInt ∧ x.toInt < boats.toInt)))) 0 0 (fun _ => False) := by
  refine Met.ofW (cc := cX7_isBoat) (maxL := 2) (ret := (some .boolean)) (by decide) rfl ?_
  intro p e s m args below meth c s₁ B hml hv
  obtain ⟨rfl, hP, hK⟩ := hv
  have hx := B.exec
  have hb := B.bytes
  have hr := B.returns
  have hts := atoms_spec (ws := wsX7_isBoat) B.pre
  have hown : s.vm.findClass RX7 = some m.cls := findClass_of_methodNamed B.named
  have hlocks := B.notSynchronized
  have hin7 : ∀ w ∈ u_ws RX7 TX7 19, w ∈ wsX7_isBoat := by decide +kernel
  have hl := lv_entry ([.ref a, .int x]) (n := 2) (Nat.le_of_ble_eq_true rfl)
  rw [lg_entry_eq]
  generalize (lg_sl ([.ref a, .int x]) ++ List.replicate (2 - (lg_sl ([.ref a, .int x])).length) Slot.unset).toArray = ls at hl ⊢
  have hl : lv_has ls 2 [(0, .ref a), (1, .int x)] := hl
  refine lv_iload_n hx hb dX7_isBoat_0 rfl (lv_at hl 1 rfl) ?_
  refine lv_if_lt (tgt := 16) hx hb dX7_isBoat_1 (by decide) (fun c1 => ?_) (fun c1 => ?_)
  · refine lv_iconst (v := nI 0) hx hb dX7_isBoat_16 (by decide) ?_
    exact W.zret (v := nI 0) hx hb hr (by decide) (fun t ht9 hW9 => ⟨nI 0, rfl, (lf_isBoat_1 a wide high heat cools skinHeat today stirs steps lumps boats thickness lumpNames lumpCells boatNames boatCells loads spoons spoonsLeft depths x c1), ht9⟩) (fun _ h => absurd h List.not_mem_nil) dX7_isBoat_17
  · refine lv_iload_n hx hb dX7_isBoat_4 rfl (lv_at hl 1 rfl) ?_
    refine lv_aload_n hx hb dX7_isBoat_5 rfl (lv_at hl 0 rfl) ?_
    refine va_get (D := (dC, dI)) (ci := 7) (v := .int boats) (C := RX7) (T := TX7) (N := 19) hx hb hts hin7 hown hK hP 0 rfl rfl 9 (by decide) (hts (.fieldLink RX7 71 "PorridgeSea$Sea" "boats" "I") (List.mem_of_getElem? (i := 1) rfl)) (fun _ h9 => h9) rfl dX7_isBoat_6 ?_
    refine lv_icmp_ge (tgt := 16) hx hb dX7_isBoat_9 (by decide) (fun c2 => ?_) (fun c2 => ?_)
    · refine lv_iconst (v := nI 0) hx hb dX7_isBoat_16 (by decide) ?_
      exact W.zret (v := nI 0) hx hb hr (by decide) (fun t ht9 hW9 => ⟨nI 0, rfl, (lf_isBoat_2 a wide high heat cools skinHeat today stirs steps lumps boats thickness lumpNames lumpCells boatNames boatCells loads spoons spoonsLeft depths x c1 c2), ht9⟩) (fun _ h => absurd h List.not_mem_nil) dX7_isBoat_17
    · refine lv_iconst (v := nI 1) hx hb dX7_isBoat_12 (by decide) ?_
      refine lv_goto (tgt := 17) hx hb dX7_isBoat_13 (by decide) ?_
      exact W.zret (v := nI 1) hx hb hr (by decide) (fun t ht9 hW9 => ⟨nI 1, rfl, (lf_isBoat_3 a wide high heat cools skinHeat today stirs steps lumps boats thickness lumpNames lumpCells boatNames boatCells loads spoons spoonsLeft depths x c1 c2), ht9⟩) (fun _ h => absurd h List.not_mem_nil) dX7_isBoat_17
set_option maxRecDepth 20000 in
theorem lf_hasSkin_1 (a : Nat) (wide : Int32) (high : Int32) (heat : Int32) (cools : Int32) (skinHeat : Int32) (today : Int32) (stirs : Int32) (steps : Int32) (lumps : Int32) (boats : Int32) (thickness : Nat) (lumpNames : Nat) (lumpCells : Nat) (boatNames : Nat) (boatCells : Nat) (loads : Nat) (spoons : Nat) (spoonsLeft : Nat) (depths : Nat) (c1 : skinHeat < heat) : ((nI 0) = nI 1 ∧ heat.toInt ≤ skinHeat.toInt) ∨ ((nI 0) = nI 0 ∧ skinHeat.toInt < heat.toInt) := by
  have k_0 := ia_n 0 (by decide)
  have k_1 := ia_n 1 (by decide)
  simp only [ia_lt, ia_le, ia_eq, ia_m1, ia_0, ia_1, ne_eq, true_and, and_true, false_and, and_false, or_false, false_or, or_true, true_or, not_true_eq_false, not_false_eq_true] at *
  all_goals omega
set_option maxRecDepth 20000 in
theorem lf_hasSkin_2 (a : Nat) (wide : Int32) (high : Int32) (heat : Int32) (cools : Int32) (skinHeat : Int32) (today : Int32) (stirs : Int32) (steps : Int32) (lumps : Int32) (boats : Int32) (thickness : Nat) (lumpNames : Nat) (lumpCells : Nat) (boatNames : Nat) (boatCells : Nat) (loads : Nat) (spoons : Nat) (spoonsLeft : Nat) (depths : Nat) (c1 : ¬ skinHeat < heat) : ((nI 1) = nI 1 ∧ heat.toInt ≤ skinHeat.toInt) ∨ ((nI 1) = nI 0 ∧ skinHeat.toInt < heat.toInt) := by
  have k_0 := ia_n 1 (by decide)
  have k_1 := ia_n 0 (by decide)
  simp only [ia_lt, ia_le, ia_eq, ia_m1, ia_0, ia_1, ne_eq, true_and, and_true, false_and, and_false, or_false, false_or, or_true, true_or, not_true_eq_false, not_false_eq_true] at *
  all_goals omega
set_option maxHeartbeats 4000000 in
set_option maxRecDepth 100000 in
theorem c_hasSkin (l : Launch) (dC : Nat → ClassId) (dI : Nat → Nat → Nat) (ky : Nat → ClassId) (a : Nat) (wide : Int32) (high : Int32) (heat : Int32) (cools : Int32) (skinHeat : Int32) (today : Int32) (stirs : Int32) (steps : Int32) (lumps : Int32) (boats : Int32) (thickness : Nat) (lumpNames : Nat) (lumpCells : Nat) (boatNames : Nat) (boatCells : Nat) (loads : Nat) (spoons : Nat) (spoonsLeft : Nat) (depths : Nat)  : Met l yX7_hasSkin wsX7_hasSkin ({ frames := 0, cells := 0, slots := 0, locals := 0 }) (PcP dC dI ky [.ref a] [(a, .inr (7, [.int wide, .int high, .int heat, .int cools, .int skinHeat, .int today, .int stirs, .int steps, .int lumps, .int boats, .ref thickness, .ref lumpNames, .ref lumpCells, .ref boatNames, .ref boatCells, .ref loads, .ref spoons, .ref spoonsLeft, .ref depths]))]) (vp_Si (fun r : Int32 => (r = nI 1 ∧ heat.toInt ≤ skinHeat.toInt) ∨ (r = nI 0 ∧ skinHeat.toInt < heat.toInt))) 0 0 (fun _ => False) := by
  refine Met.ofW (cc := cX7_hasSkin) (maxL := 1) (ret := (some .boolean)) (by decide) rfl ?_
  intro p e s m args below meth c s₁ B hml hv
  obtain ⟨rfl, hP, hK⟩ := hv
  have hx := B.exec
  have hb := B.bytes
  have hr := B.returns
  have hts := atoms_spec (ws := wsX7_hasSkin) B.pre
  have hown : s.vm.findClass RX7 = some m.cls := findClass_of_methodNamed B.named
  have hlocks := B.notSynchronized
  have hin7 : ∀ w ∈ u_ws RX7 TX7 19, w ∈ wsX7_hasSkin := by decide +kernel
  have hl := lv_entry ([.ref a]) (n := 1) (Nat.le_of_ble_eq_true rfl)
  rw [lg_entry_eq]
  generalize (lg_sl ([.ref a]) ++ List.replicate (1 - (lg_sl ([.ref a])).length) Slot.unset).toArray = ls at hl ⊢
  have hl : lv_has ls 1 [(0, .ref a)] := hl
  refine lv_aload_n hx hb dX7_hasSkin_0 rfl (lv_at hl 0 rfl) ?_
  refine va_get (D := (dC, dI)) (ci := 7) (v := .int heat) (C := RX7) (T := TX7) (N := 19) hx hb hts hin7 hown hK hP 0 rfl rfl 2 (by decide) (hts (.fieldLink RX7 50 "PorridgeSea$Sea" "heat" "I") (List.mem_of_getElem? (i := 1) rfl)) (fun _ h9 => h9) rfl dX7_hasSkin_1 ?_
  refine lv_aload_n hx hb dX7_hasSkin_4 rfl (lv_at hl 0 rfl) ?_
  refine va_get (D := (dC, dI)) (ci := 7) (v := .int skinHeat) (C := RX7) (T := TX7) (N := 19) hx hb hts hin7 hown hK hP 0 rfl rfl 4 (by decide) (hts (.fieldLink RX7 56 "PorridgeSea$Sea" "skinHeat" "I") (List.mem_of_getElem? (i := 2) rfl)) (fun _ h9 => h9) rfl dX7_hasSkin_5 ?_
  refine lv_icmp_gt (tgt := 15) hx hb dX7_hasSkin_8 (by decide) (fun c1 => ?_) (fun c1 => ?_)
  · refine lv_iconst (v := nI 0) hx hb dX7_hasSkin_15 (by decide) ?_
    exact W.zret (v := nI 0) hx hb hr (by decide) (fun t ht9 hW9 => ⟨nI 0, rfl, (lf_hasSkin_1 a wide high heat cools skinHeat today stirs steps lumps boats thickness lumpNames lumpCells boatNames boatCells loads spoons spoonsLeft depths c1), ht9⟩) (fun _ h => absurd h List.not_mem_nil) dX7_hasSkin_16
  · refine lv_iconst (v := nI 1) hx hb dX7_hasSkin_11 (by decide) ?_
    refine lv_goto (tgt := 16) hx hb dX7_hasSkin_12 (by decide) ?_
    exact W.zret (v := nI 1) hx hb hr (by decide) (fun t ht9 hW9 => ⟨nI 1, rfl, (lf_hasSkin_2 a wide high heat cools skinHeat today stirs steps lumps boats thickness lumpNames lumpCells boatNames boatCells loads spoons spoonsLeft depths c1), ht9⟩) (fun _ h => absurd h List.not_mem_nil) dX7_hasSkin_16
set_option maxRecDepth 20000 in
theorem lf_daysLeft_1 (a : Nat) (wide : Int32) (high : Int32) (heat : Int32) (cools : Int32) (skinHeat : Int32) (today : Int32) (stirs : Int32) (steps : Int32) (lumps : Int32) (boats : Int32) (thickness : Nat) (lumpNames : Nat) (lumpCells : Nat) (boatNames : Nat) (boatCells : Nat) (loads : Nat) (spoons : Nat) (spoonsLeft : Nat) (depths : Nat) (y1 : Int32) (e2 : y1 = (nI 400) - today) : y1 = nI 400 - today := by
  have k_0 := ia_n 400 (by decide)
  simp only [ia_lt, ia_le, ia_eq, ia_m1, ia_0, ia_1, ne_eq, true_and, and_true, false_and, and_false, or_false, false_or, or_true, true_or, not_true_eq_false, not_false_eq_true] at *
  all_goals omega
set_option maxHeartbeats 4000000 in
set_option maxRecDepth 100000 in
theorem c_daysLeft (l : Launch) (dC : Nat → ClassId) (dI : Nat → Nat → Nat) (ky : Nat → ClassId) (a : Nat) (wide : Int32) (high : Int32) (heat : Int32) (cools : Int32) (skinHeat : Int32) (today : Int32) (stirs : Int32) (steps : Int32) (lumps : Int32) (boats : Int32) (thickness : Nat) (lumpNames : Nat) (lumpCells : Nat) (boatNames : Nat) (boatCells : Nat) (loads : Nat) (spoons : Nat) (spoonsLeft : Nat) (depths : Nat)  : Met l yX7_daysLeft wsX7_daysLeft ({ frames := 0, cells := 0, slots := 0, locals := 0 }) (PcP dC dI ky [.ref a] [(a, .inr (7, [.int wide, .int high, .int heat, .int cools, .int skinHeat, .int today, .int stirs, .int steps, .int lumps, .int boats, .ref thickness, .ref lumpNames, .ref lumpCells, .ref boatNames, .ref boatCells, .ref loads, .ref spoons, .ref spoonsLeft, .ref depths]))]) (vp_Si (fun r : Int32 => r = nI 400 - today)) 0 0 (fun _ => False) := by
  refine Met.ofW (cc := cX7_daysLeft) (maxL := 1) (ret := (some .int)) (by decide) rfl ?_
  intro p e s m args below meth c s₁ B hml hv
  obtain ⟨rfl, hP, hK⟩ := hv
  have hx := B.exec
  have hb := B.bytes
  have hr := B.returns
  have hts := atoms_spec (ws := wsX7_daysLeft) B.pre
  have hown : s.vm.findClass RX7 = some m.cls := findClass_of_methodNamed B.named
  have hlocks := B.notSynchronized
  have hin7 : ∀ w ∈ u_ws RX7 TX7 19, w ∈ wsX7_daysLeft := by decide +kernel
  have hl := lv_entry ([.ref a]) (n := 1) (Nat.le_of_ble_eq_true rfl)
  rw [lg_entry_eq]
  generalize (lg_sl ([.ref a]) ++ List.replicate (1 - (lg_sl ([.ref a])).length) Slot.unset).toArray = ls at hl ⊢
  have hl : lv_has ls 1 [(0, .ref a)] := hl
  refine lv_sipush (v := nI 400) hx hb dX7_daysLeft_0 (by decide) ?_
  refine lv_aload_n hx hb dX7_daysLeft_3 rfl (lv_at hl 0 rfl) ?_
  refine va_get (D := (dC, dI)) (ci := 7) (v := .int today) (C := RX7) (T := TX7) (N := 19) hx hb hts hin7 hown hK hP 0 rfl rfl 5 (by decide) (hts (.fieldLink RX7 59 "PorridgeSea$Sea" "today" "I") (List.mem_of_getElem? (i := 1) rfl)) (fun _ h9 => h9) rfl dX7_daysLeft_4 ?_
  refine lv_isub hx hb dX7_daysLeft_7 ?_
  refine lv_topi (fun y1 e2 => ?_)
  exact W.iret (v := y1) hx hb hr (fun t ht9 hW9 => ⟨y1, rfl, (lf_daysLeft_1 a wide high heat cools skinHeat today stirs steps lumps boats thickness lumpNames lumpCells boatNames boatCells loads spoons spoonsLeft depths y1 e2), ht9⟩) (fun _ h => absurd h List.not_mem_nil) dX7_daysLeft_8
