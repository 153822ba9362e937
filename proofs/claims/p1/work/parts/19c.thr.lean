theorem dX11_commonDivisor_0 : decode cX11_commonDivisor 0 = .ok (.iload_n 1, 1) := by decide +kernel
theorem dX11_commonDivisor_1 : decode cX11_commonDivisor 1 = .ok (.istore_n 2, 1) := by decide +kernel
theorem dX11_commonDivisor_2 : decode cX11_commonDivisor 2 = .ok (.iload_n 2, 1) := by decide +kernel
theorem dX11_commonDivisor_3 : decode cX11_commonDivisor 3 = .ok (.iconst 1, 1) := by decide +kernel
theorem dX11_commonDivisor_4 : decode cX11_commonDivisor 4 = .ok (.if_icmp .le 23, 3) := by decide +kernel
theorem dX11_commonDivisor_7 : decode cX11_commonDivisor 7 = .ok (.iload_n 0, 1) := by decide +kernel
theorem dX11_commonDivisor_8 : decode cX11_commonDivisor 8 = .ok (.iload_n 2, 1) := by decide +kernel
theorem dX11_commonDivisor_9 : decode cX11_commonDivisor 9 = .ok (.irem, 1) := by decide +kernel
theorem dX11_commonDivisor_10 : decode cX11_commonDivisor 10 = .ok (.ifCond .ne 11, 3) := by decide +kernel
theorem dX11_commonDivisor_13 : decode cX11_commonDivisor 13 = .ok (.iload_n 1, 1) := by decide +kernel
theorem dX11_commonDivisor_14 : decode cX11_commonDivisor 14 = .ok (.iload_n 2, 1) := by decide +kernel
theorem dX11_commonDivisor_15 : decode cX11_commonDivisor 15 = .ok (.irem, 1) := by decide +kernel
theorem dX11_commonDivisor_16 : decode cX11_commonDivisor 16 = .ok (.ifCond .ne 5, 3) := by decide +kernel
theorem dX11_commonDivisor_19 : decode cX11_commonDivisor 19 = .ok (.iload_n 2, 1) := by decide +kernel
theorem dX11_commonDivisor_20 : decode cX11_commonDivisor 20 = .ok (.ireturn, 1) := by decide +kernel
theorem dX11_mean_35 : decode cX11_mean 35 = .ok (.iconst 0, 1) := by decide +kernel
theorem dX11_mean_36 : decode cX11_mean 36 = .ok (.istore_n 3, 1) := by decide +kernel
theorem dX11_mean_37 : decode cX11_mean 37 = .ok (.iconst 0, 1) := by decide +kernel
theorem dX11_mean_38 : decode cX11_mean 38 = .ok (.istore 4, 2) := by decide +kernel
theorem dX11_mean_40 : decode cX11_mean 40 = .ok (.iload 4, 2) := by decide +kernel
theorem dX11_mean_42 : decode cX11_mean 42 = .ok (.aload_n 0, 1) := by decide +kernel
theorem dX11_mean_43 : decode cX11_mean 43 = .ok (.getfield 26, 3) := by decide +kernel
theorem dX11_mean_46 : decode cX11_mean 46 = .ok (.getfield 197, 3) := by decide +kernel
theorem dX11_mean_49 : decode cX11_mean 49 = .ok (.if_icmp .ge 26, 3) := by decide +kernel
theorem dX11_mean_52 : decode cX11_mean 52 = .ok (.iload_n 3, 1) := by decide +kernel
theorem dX11_mean_53 : decode cX11_mean 53 = .ok (.aload_n 0, 1) := by decide +kernel
theorem dX11_mean_54 : decode cX11_mean 54 = .ok (.getfield 26, 3) := by decide +kernel
theorem dX11_mean_57 : decode cX11_mean 57 = .ok (.bipush 6, 2) := by decide +kernel
theorem dX11_mean_59 : decode cX11_mean 59 = .ok (.iload_n 1, 1) := by decide +kernel
theorem dX11_mean_60 : decode cX11_mean 60 = .ok (.imul, 1) := by decide +kernel
theorem dX11_mean_61 : decode cX11_mean 61 = .ok (.iload 4, 2) := by decide +kernel
theorem dX11_mean_63 : decode cX11_mean 63 = .ok (.iadd, 1) := by decide +kernel
theorem dX11_mean_64 : decode cX11_mean 64 = .ok (.invokevirtual 145, 3) := by decide +kernel
theorem dX11_mean_67 : decode cX11_mean 67 = .ok (.iadd, 1) := by decide +kernel
theorem dX11_mean_68 : decode cX11_mean 68 = .ok (.istore_n 3, 1) := by decide +kernel
theorem dX11_mean_69 : decode cX11_mean 69 = .ok (.iinc 4 1, 3) := by decide +kernel
theorem dX11_mean_72 : decode cX11_mean 72 = .ok (.goto (-32), 3) := by decide +kernel
theorem dX11_mean_75 : decode cX11_mean 75 = .ok (.iload_n 3, 1) := by decide +kernel
theorem dX11_mean_76 : decode cX11_mean 76 = .ok (.aload_n 0, 1) := by decide +kernel
theorem dX11_mean_77 : decode cX11_mean 77 = .ok (.getfield 26, 3) := by decide +kernel
theorem dX11_mean_80 : decode cX11_mean 80 = .ok (.getfield 197, 3) := by decide +kernel
theorem dX11_mean_83 : decode cX11_mean 83 = .ok (.invokestatic 292, 3) := by decide +kernel
theorem dX11_mean_86 : decode cX11_mean 86 = .ok (.istore 4, 2) := by decide +kernel
theorem dX11_mean_88 : decode cX11_mean 88 = .ok (.iload_n 2, 1) := by decide +kernel
theorem dX11_mean_89 : decode cX11_mean 89 = .ok (.ifCond .ne 7, 3) := by decide +kernel
theorem dX11_mean_92 : decode cX11_mean 92 = .ok (.iload_n 3, 1) := by decide +kernel
theorem dX11_mean_93 : decode cX11_mean 93 = .ok (.goto 10, 3) := by decide +kernel
theorem dX11_mean_103 : decode cX11_mean 103 = .ok (.iload 4, 2) := by decide +kernel
theorem dX11_mean_105 : decode cX11_mean 105 = .ok (.idiv, 1) := by decide +kernel
theorem dX11_mean_106 : decode cX11_mean 106 = .ok (.ireturn, 1) := by decide +kernel
theorem dX11_mean_96 : decode cX11_mean 96 = .ok (.aload_n 0, 1) := by decide +kernel
theorem dX11_mean_97 : decode cX11_mean 97 = .ok (.getfield 26, 3) := by decide +kernel
theorem dX11_mean_100 : decode cX11_mean 100 = .ok (.getfield 197, 3) := by decide +kernel
set_option maxRecDepth 100000 in
theorem ggX11_mean_X7_thicknessIn : GoodIn wsX11_mean wsX7_thicknessIn := goodIn_r _ [10, 11, 34, 35, 36, 37, 38, 39, 40, 41, 42, 43, 44, 45, 46, 47, 48, 49, 50, 51, 52] rfl (by decide +kernel)
set_option maxRecDepth 100000 in
theorem ggX11_mean_X11_commonDivisor : GoodIn wsX11_mean wsX11_commonDivisor := goodIn_r _ [15] rfl (by decide +kernel)
set_option maxRecDepth 100000 in
theorem gX11_mean_X7_thicknessIn : GoodIn wsX11_mean (wsV RX11 145 RX7 yX7_thicknessIn wsX7_thicknessIn) := goodIn_app (goodIn_of _ (by decide +kernel)) ggX11_mean_X7_thicknessIn
set_option maxRecDepth 100000 in
theorem gX11_mean_X11_commonDivisor : GoodIn wsX11_mean (va_wsS RX11 292 yX11_commonDivisor wsX11_commonDivisor) := goodIn_app (goodIn_of _ (by decide +kernel)) ggX11_mean_X11_commonDivisor
set_option maxHeartbeats 4000000 in
set_option maxRecDepth 100000 in
theorem c_commonDivisor (l : Launch) (dC : Nat → ClassId) (dI : Nat → Nat → Nat) (ky : Nat → ClassId)   : Met l yX11_commonDivisor wsX11_commonDivisor ({ frames := 0, cells := 0, slots := 0, locals := 0 }) (PcP dC dI ky [.int (nI 0), .int (nI 4)] []) (vp_Si (fun r : Int32 => r = nI 4)) 0 0 (fun _ => False) := by
  refine Met.ofW (cc := cX11_commonDivisor) (maxL := 3) (ret := (some .int)) (by decide) rfl ?_
  intro p e s m args below meth c s₁ B hml hv
  obtain ⟨rfl, hP, hK⟩ := hv
  have hx := B.exec
  have hb := B.bytes
  have hr := B.returns
  have hts := atoms_spec (ws := wsX11_commonDivisor) B.pre
  have hown : s.vm.findClass RX11 = some m.cls := findClass_of_methodNamed B.named
  have hlocks := B.notSynchronized
  have hl := lv_entry ([.int (nI 0), .int (nI 4)]) (n := 3) (Nat.le_of_ble_eq_true rfl)
  rw [lg_entry_eq]
  generalize (lg_sl ([.int (nI 0), .int (nI 4)]) ++ List.replicate (3 - (lg_sl ([.int (nI 0), .int (nI 4)])).length) Slot.unset).toArray = ls at hl ⊢
  have hl : lv_has ls 3 [(0, .int (nI 0)), (1, .int (nI 4))] := hl
  refine lv_iload_n hx hb dX11_commonDivisor_0 rfl (lv_at hl 1 rfl) ?_
  refine lv_istore_n (lv' := [(2, .int (nI 4)), (0, .int (nI 0)), (1, .int (nI 4))]) hx hb dX11_commonDivisor_1 rfl hl (by decide) rfl (fun ls hl => ?_)
  refine lv_iload_n hx hb dX11_commonDivisor_2 rfl (lv_at hl 0 rfl) ?_
  refine lv_iconst (v := nI 1) hx hb dX11_commonDivisor_3 (by decide) ?_
  refine lv_icmp_le (tgt := 27) hx hb dX11_commonDivisor_4 (by decide) (fun c1 => absurd c1 (by decide)) (fun c1 => ?_)
  refine lv_iload_n hx hb dX11_commonDivisor_7 rfl (lv_at hl 1 rfl) ?_
  refine lv_iload_n hx hb dX11_commonDivisor_8 rfl (lv_at hl 0 rfl) ?_
  refine lv_irem hx hb dX11_commonDivisor_9 (by decide) ?_
  refine r_ti (nI 0) (by decide) ?_
  refine lv_if_ne (tgt := 21) hx hb dX11_commonDivisor_10 (by decide) (fun c2 => absurd c2 (by decide)) (fun c2 => ?_)
  refine lv_iload_n hx hb dX11_commonDivisor_13 rfl (lv_at hl 2 rfl) ?_
  refine lv_iload_n hx hb dX11_commonDivisor_14 rfl (lv_at hl 0 rfl) ?_
  refine lv_irem hx hb dX11_commonDivisor_15 (by decide) ?_
  refine r_ti (nI 0) (by decide) ?_
  refine lv_if_ne (tgt := 21) hx hb dX11_commonDivisor_16 (by decide) (fun c3 => absurd c3 (by decide)) (fun c3 => ?_)
  refine lv_iload_n hx hb dX11_commonDivisor_19 rfl (lv_at hl 0 rfl) ?_
  exact W.iret (v := nI 4) hx hb hr (fun t ht9 hW9 => ⟨nI 4, rfl, rfl, ht9⟩) (fun _ h => absurd h List.not_mem_nil) dX11_commonDivisor_20
set_option maxHeartbeats 4000000 in
set_option maxRecDepth 100000 in
theorem c_meanOk0 (l : Launch) (dC : Nat → ClassId) (dI : Nat → Nat → Nat) (ky : Nat → ClassId) (t : Nat) (reader : Nat) (sea : Nat) (spareSea : Nat) (seaText : Nat) (book : Nat) (sentence : Nat) (spareSentence : Nat) (route : Nat) (meeting : Nat) (sighting : Nat) (draws : Nat) (history : Nat) (images : Nat) (chartBytes : Nat) (thickness : Nat) (lumpNames : Nat) (lumpCells : Nat) (boatNames : Nat) (boatCells : Nat) (loads : Nat) (spoons : Nat) (spoonsLeft : Nat) (depths : Nat) (thicknessF : Nat → Int32) (x : Nat) (hz : ∀ j, j < 36 → thicknessF j = nI 0) (hx4 : x < 4) : Met l yX11_mean wsX11_mean ({ frames := 1, cells := 0, slots := 0, locals := 22 }) (PcP dC dI ky [.ref t, .int (nI x), .int (nI 0)] [(t, .inr (11, [.ref reader, .int (nI 0), .int (nI 0), .ref sea, .ref spareSea, .ref seaText, .ref book, .ref sentence, .ref spareSentence, .ref route, .ref meeting, .ref sighting, .ref draws, .ref history, .ref images, .ref chartBytes, .int (nI 0), .int (-1 : Int32)])), (sea, .inr (7, [.int (nI 4), .int (nI 4), .int (nI 10), .int (nI 1), .int (nI 3), .int (nI 0), .int (nI 0), .int (nI 0), .int (nI 0), .int (nI 0), .ref thickness, .ref lumpNames, .ref lumpCells, .ref boatNames, .ref boatCells, .ref loads, .ref spoons, .ref spoonsLeft, .ref depths])), (thickness, .inl (ky 0, 36, .inl thicknessF))]) (vp_Si (fun r : Int32 => r = nI 0)) 0 0 (fun _ => False) := by
  refine Met.ofW (cc := cX11_mean) (maxL := 5) (ret := (some .int)) (by decide) rfl ?_
  intro p e s m args below meth c s₁ B hml hv
  obtain ⟨rfl, hP, hK⟩ := hv
  have hx := B.exec
  have hb := B.bytes
  have hr := B.returns
  have hts := atoms_spec (ws := wsX11_mean) B.pre
  have hown : s.vm.findClass RX11 = some m.cls := findClass_of_methodNamed B.named
  have hlocks := B.notSynchronized
  have hin7 : ∀ w ∈ u_ws RX7 TX7 19, w ∈ wsX11_mean := by decide +kernel
  have hin11 : ∀ w ∈ u_ws RX11 TX11 18, w ∈ wsX11_mean := by decide +kernel
  have hl := lv_entry ([.ref t, .int (nI x), .int (nI 0)]) (n := 5) (Nat.le_of_ble_eq_true rfl)
  rw [lg_entry_eq]
  generalize (lg_sl ([.ref t, .int (nI x), .int (nI 0)]) ++ List.replicate (5 - (lg_sl ([.ref t, .int (nI x), .int (nI 0)])).length) Slot.unset).toArray = ls at hl ⊢
  have hl : lv_has ls 5 [(0, .ref t), (1, .int (nI x)), (2, .int (nI 0))] := hl
  refine lv_iload_n hx hb dX11_mean_0 rfl (lv_at hl 1 rfl) ?_
  refine n_if_lt (x := x) (tgt := 24) hx hb (by omega) dX11_mean_1 (by decide) (fun c1 => c1.elim) (fun c1 => ?_)
  refine lv_iload_n hx hb dX11_mean_4 rfl (lv_at hl 1 rfl) ?_
  refine lv_aload_n hx hb dX11_mean_5 rfl (lv_at hl 0 rfl) ?_
  refine va_get (D := (dC, dI)) (ci := 11) (v := .ref sea) (C := RX11) (T := TX11) (N := 18) hx hb hts hin11 hown hK hP 0 rfl rfl 3 (by decide) (hts (.fieldLink RX11 26 "PorridgeSea" "sea" "LPorridgeSea$Sea;") (List.mem_of_getElem? (i := 3) rfl)) (fun _ h9 => h9) rfl dX11_mean_6 ?_
  refine va_get (D := (dC, dI)) (ci := 7) (v := .int (nI 4)) (C := RX7) (T := TX7) (N := 19) hx hb hts hin7 hown hK hP 1 rfl rfl 1 (by decide) (hts (.fieldLink RX11 200 "PorridgeSea$Sea" "high" "I") (List.mem_of_getElem? (i := 4) rfl)) (fun _ h9 => h9) rfl dX11_mean_9 ?_
  refine n_icmp_ge (x := x) (y := 4) (tgt := 24) hx hb (by omega) (by omega) dX11_mean_12 (by decide) (fun c2 => by exfalso; omega) (fun c2 => ?_)
  refine lv_iload_n hx hb dX11_mean_15 rfl (lv_at hl 2 rfl) ?_
  refine lv_if_lt (tgt := 24) hx hb dX11_mean_16 (by decide) (fun c3 => absurd c3 (by decide)) (fun c3 => ?_)
  refine lv_iload_n hx hb dX11_mean_19 rfl (lv_at hl 2 rfl) ?_
  refine lv_iconst (v := nI 1) hx hb dX11_mean_20 (by decide) ?_
  refine lv_icmp_le (tgt := 35) hx hb dX11_mean_21 (by decide) (fun c4 => ?_) (fun c4 => absurd (by decide) c4)
  refine lv_iconst (v := nI 0) hx hb dX11_mean_35 (by decide) ?_
  refine lv_istore_n (lv' := [(3, .int (nI 0)), (0, .ref t), (1, .int (nI x)), (2, .int (nI 0))]) hx hb dX11_mean_36 rfl hl (by decide) rfl (fun ls hl => ?_)
  refine lv_iconst (v := nI 0) hx hb dX11_mean_37 (by decide) ?_
  refine lv_istore (lv' := [(4, .int (nI 0)), (3, .int (nI 0)), (0, .ref t), (1, .int (nI x)), (2, .int (nI 0))]) hx hb dX11_mean_38 hl (by decide) rfl (fun ls hl => ?_)
  refine lv_iload hx hb dX11_mean_40 (lv_at hl 0 rfl) ?_
  refine lv_aload_n hx hb dX11_mean_42 rfl (lv_at hl 2 rfl) ?_
  refine va_get (D := (dC, dI)) (ci := 11) (v := .ref sea) (C := RX11) (T := TX11) (N := 18) hx hb hts hin11 hown hK hP 0 rfl rfl 3 (by decide) (hts (.fieldLink RX11 26 "PorridgeSea" "sea" "LPorridgeSea$Sea;") (List.mem_of_getElem? (i := 3) rfl)) (fun _ h9 => h9) rfl dX11_mean_43 ?_
  refine va_get (D := (dC, dI)) (ci := 7) (v := .int (nI 4)) (C := RX7) (T := TX7) (N := 19) hx hb hts hin7 hown hK hP 1 rfl rfl 0 (by decide) (hts (.fieldLink RX11 197 "PorridgeSea$Sea" "wide" "I") (List.mem_of_getElem? (i := 5) rfl)) (fun _ h9 => h9) rfl dX11_mean_46 ?_
  refine lv_icmp_ge (tgt := 75) hx hb dX11_mean_49 (by decide) (fun c5 => absurd c5 (by decide)) (fun c5 => ?_)
  refine lv_iload_n hx hb dX11_mean_52 rfl (lv_at hl 1 rfl) ?_
  refine lv_aload_n hx hb dX11_mean_53 rfl (lv_at hl 2 rfl) ?_
  refine va_get (D := (dC, dI)) (ci := 11) (v := .ref sea) (C := RX11) (T := TX11) (N := 18) hx hb hts hin11 hown hK hP 0 rfl rfl 3 (by decide) (hts (.fieldLink RX11 26 "PorridgeSea" "sea" "LPorridgeSea$Sea;") (List.mem_of_getElem? (i := 3) rfl)) (fun _ h9 => h9) rfl dX11_mean_54 ?_
  refine lv_bipush (v := nI 6) hx hb dX11_mean_57 (by decide) ?_
  refine lv_iload_n hx hb dX11_mean_59 rfl (lv_at hl 3 rfl) ?_
  refine lv_imul hx hb dX11_mean_60 ?_
  refine r_ti (nI (6 * x)) (pk_mul _ _) ?_
  refine lv_iload hx hb dX11_mean_61 (lv_at hl 0 rfl) ?_
  refine lv_iadd hx hb dX11_mean_63 ?_
  refine r_ti (nI ((6 * x) + 0)) (nI_add _ _) ?_
  refine vp_callSi (W.runV (As := [.int (nI ((6 * x) + 0))]) (rest := [.int (nI 0)]) ⟨hx, hb, hml, hown, hts⟩ (c_thicknessIn0 l dC dI ky sea (nI 10) (nI 1) (nI 3) (nI 0) (nI 0) (nI 0) thickness lumpNames lumpCells boatNames boatCells loads spoons spoonsLeft depths thicknessF ((6 * x) + 0) hz (by omega)) (cwV 1 hts gX11_mean_X7_thicknessIn rfl rfl rfl (by decide +kernel) ⟨(Nat.le_of_ble_eq_true rfl), (Nat.le_of_ble_eq_true rfl)⟩) (pre_PV hK hP [1, 2] rfl (ci := 7) (q0 := 1) rfl rfl) rfl rfl hl.1 rfl (lv_room (Nat.le_of_ble_eq_true rfl)) dX11_mean_64 ⟨(Nat.le_of_ble_eq_true rfl), (Nat.le_of_ble_eq_true rfl)⟩) (fun r6 p7 => ?_)
  subst p7
  refine lv_iadd hx hb dX11_mean_67 ?_
  refine r_ti (nI 0) (by decide) ?_
  refine lv_istore_n (lv' := [(3, .int (nI 0)), (4, .int (nI 0)), (0, .ref t), (1, .int (nI x)), (2, .int (nI 0))]) hx hb dX11_mean_68 rfl hl (by decide) rfl (fun ls hl => ?_)
  refine lv_iinc (v := nI 1) (lv' := [(4, .int (nI 1)), (3, .int (nI 0)), (0, .ref t), (1, .int (nI x)), (2, .int (nI 0))]) hx hb dX11_mean_69 hl (k := 1) rfl (by decide) (by decide) rfl (fun ls hl => ?_)
  refine lv_goto (tgt := 40) hx hb dX11_mean_72 (by decide) ?_
  refine lv_iload hx hb dX11_mean_40 (lv_at hl 0 rfl) ?_
  refine lv_aload_n hx hb dX11_mean_42 rfl (lv_at hl 2 rfl) ?_
  refine va_get (D := (dC, dI)) (ci := 11) (v := .ref sea) (C := RX11) (T := TX11) (N := 18) hx hb hts hin11 hown hK hP 0 rfl rfl 3 (by decide) (hts (.fieldLink RX11 26 "PorridgeSea" "sea" "LPorridgeSea$Sea;") (List.mem_of_getElem? (i := 3) rfl)) (fun _ h9 => h9) rfl dX11_mean_43 ?_
  refine va_get (D := (dC, dI)) (ci := 7) (v := .int (nI 4)) (C := RX7) (T := TX7) (N := 19) hx hb hts hin7 hown hK hP 1 rfl rfl 0 (by decide) (hts (.fieldLink RX11 197 "PorridgeSea$Sea" "wide" "I") (List.mem_of_getElem? (i := 5) rfl)) (fun _ h9 => h9) rfl dX11_mean_46 ?_
  refine lv_icmp_ge (tgt := 75) hx hb dX11_mean_49 (by decide) (fun c8 => absurd c8 (by decide)) (fun c8 => ?_)
  refine lv_iload_n hx hb dX11_mean_52 rfl (lv_at hl 1 rfl) ?_
  refine lv_aload_n hx hb dX11_mean_53 rfl (lv_at hl 2 rfl) ?_
  refine va_get (D := (dC, dI)) (ci := 11) (v := .ref sea) (C := RX11) (T := TX11) (N := 18) hx hb hts hin11 hown hK hP 0 rfl rfl 3 (by decide) (hts (.fieldLink RX11 26 "PorridgeSea" "sea" "LPorridgeSea$Sea;") (List.mem_of_getElem? (i := 3) rfl)) (fun _ h9 => h9) rfl dX11_mean_54 ?_
  refine lv_bipush (v := nI 6) hx hb dX11_mean_57 (by decide) ?_
  refine lv_iload_n hx hb dX11_mean_59 rfl (lv_at hl 3 rfl) ?_
  refine lv_imul hx hb dX11_mean_60 ?_
  refine r_ti (nI (6 * x)) (pk_mul _ _) ?_
  refine lv_iload hx hb dX11_mean_61 (lv_at hl 0 rfl) ?_
  refine lv_iadd hx hb dX11_mean_63 ?_
  refine r_ti (nI ((6 * x) + 1)) (nI_add _ _) ?_
  refine vp_callSi (W.runV (As := [.int (nI ((6 * x) + 1))]) (rest := [.int (nI 0)]) ⟨hx, hb, hml, hown, hts⟩ (c_thicknessIn0 l dC dI ky sea (nI 10) (nI 1) (nI 3) (nI 0) (nI 0) (nI 0) thickness lumpNames lumpCells boatNames boatCells loads spoons spoonsLeft depths thicknessF ((6 * x) + 1) hz (by omega)) (cwV 1 hts gX11_mean_X7_thicknessIn rfl rfl rfl (by decide +kernel) ⟨(Nat.le_of_ble_eq_true rfl), (Nat.le_of_ble_eq_true rfl)⟩) (pre_PV hK hP [1, 2] rfl (ci := 7) (q0 := 1) rfl rfl) rfl rfl hl.1 rfl (lv_room (Nat.le_of_ble_eq_true rfl)) dX11_mean_64 ⟨(Nat.le_of_ble_eq_true rfl), (Nat.le_of_ble_eq_true rfl)⟩) (fun r9 p10 => ?_)
  subst p10
  refine lv_iadd hx hb dX11_mean_67 ?_
  refine r_ti (nI 0) (by decide) ?_
  refine lv_istore_n (lv' := [(3, .int (nI 0)), (4, .int (nI 1)), (0, .ref t), (1, .int (nI x)), (2, .int (nI 0))]) hx hb dX11_mean_68 rfl hl (by decide) rfl (fun ls hl => ?_)
  refine lv_iinc (v := nI 2) (lv' := [(4, .int (nI 2)), (3, .int (nI 0)), (0, .ref t), (1, .int (nI x)), (2, .int (nI 0))]) hx hb dX11_mean_69 hl (k := 1) rfl (by decide) (by decide) rfl (fun ls hl => ?_)
  refine lv_goto (tgt := 40) hx hb dX11_mean_72 (by decide) ?_
  refine lv_iload hx hb dX11_mean_40 (lv_at hl 0 rfl) ?_
  refine lv_aload_n hx hb dX11_mean_42 rfl (lv_at hl 2 rfl) ?_
  refine va_get (D := (dC, dI)) (ci := 11) (v := .ref sea) (C := RX11) (T := TX11) (N := 18) hx hb hts hin11 hown hK hP 0 rfl rfl 3 (by decide) (hts (.fieldLink RX11 26 "PorridgeSea" "sea" "LPorridgeSea$Sea;") (List.mem_of_getElem? (i := 3) rfl)) (fun _ h9 => h9) rfl dX11_mean_43 ?_
  refine va_get (D := (dC, dI)) (ci := 7) (v := .int (nI 4)) (C := RX7) (T := TX7) (N := 19) hx hb hts hin7 hown hK hP 1 rfl rfl 0 (by decide) (hts (.fieldLink RX11 197 "PorridgeSea$Sea" "wide" "I") (List.mem_of_getElem? (i := 5) rfl)) (fun _ h9 => h9) rfl dX11_mean_46 ?_
  refine lv_icmp_ge (tgt := 75) hx hb dX11_mean_49 (by decide) (fun c11 => absurd c11 (by decide)) (fun c11 => ?_)
  refine lv_iload_n hx hb dX11_mean_52 rfl (lv_at hl 1 rfl) ?_
  refine lv_aload_n hx hb dX11_mean_53 rfl (lv_at hl 2 rfl) ?_
  refine va_get (D := (dC, dI)) (ci := 11) (v := .ref sea) (C := RX11) (T := TX11) (N := 18) hx hb hts hin11 hown hK hP 0 rfl rfl 3 (by decide) (hts (.fieldLink RX11 26 "PorridgeSea" "sea" "LPorridgeSea$Sea;") (List.mem_of_getElem? (i := 3) rfl)) (fun _ h9 => h9) rfl dX11_mean_54 ?_
  refine lv_bipush (v := nI 6) hx hb dX11_mean_57 (by decide) ?_
  refine lv_iload_n hx hb dX11_mean_59 rfl (lv_at hl 3 rfl) ?_
  refine lv_imul hx hb dX11_mean_60 ?_
  refine r_ti (nI (6 * x)) (pk_mul _ _) ?_
  refine lv_iload hx hb dX11_mean_61 (lv_at hl 0 rfl) ?_
  refine lv_iadd hx hb dX11_mean_63 ?_
  refine r_ti (nI ((6 * x) + 2)) (nI_add _ _) ?_
  refine vp_callSi (W.runV (As := [.int (nI ((6 * x) + 2))]) (rest := [.int (nI 0)]) ⟨hx, hb, hml, hown, hts⟩ (c_thicknessIn0 l dC dI ky sea (nI 10) (nI 1) (nI 3) (nI 0) (nI 0) (nI 0) thickness lumpNames lumpCells boatNames boatCells loads spoons spoonsLeft depths thicknessF ((6 * x) + 2) hz (by omega)) (cwV 1 hts gX11_mean_X7_thicknessIn rfl rfl rfl (by decide +kernel) ⟨(Nat.le_of_ble_eq_true rfl), (Nat.le_of_ble_eq_true rfl)⟩) (pre_PV hK hP [1, 2] rfl (ci := 7) (q0 := 1) rfl rfl) rfl rfl hl.1 rfl (lv_room (Nat.le_of_ble_eq_true rfl)) dX11_mean_64 ⟨(Nat.le_of_ble_eq_true rfl), (Nat.le_of_ble_eq_true rfl)⟩) (fun r12 p13 => ?_)
  subst p13
  refine lv_iadd hx hb dX11_mean_67 ?_
  refine r_ti (nI 0) (by decide) ?_
  refine lv_istore_n (lv' := [(3, .int (nI 0)), (4, .int (nI 2)), (0, .ref t), (1, .int (nI x)), (2, .int (nI 0))]) hx hb dX11_mean_68 rfl hl (by decide) rfl (fun ls hl => ?_)
  refine lv_iinc (v := nI 3) (lv' := [(4, .int (nI 3)), (3, .int (nI 0)), (0, .ref t), (1, .int (nI x)), (2, .int (nI 0))]) hx hb dX11_mean_69 hl (k := 1) rfl (by decide) (by decide) rfl (fun ls hl => ?_)
  refine lv_goto (tgt := 40) hx hb dX11_mean_72 (by decide) ?_
  refine lv_iload hx hb dX11_mean_40 (lv_at hl 0 rfl) ?_
  refine lv_aload_n hx hb dX11_mean_42 rfl (lv_at hl 2 rfl) ?_
  refine va_get (D := (dC, dI)) (ci := 11) (v := .ref sea) (C := RX11) (T := TX11) (N := 18) hx hb hts hin11 hown hK hP 0 rfl rfl 3 (by decide) (hts (.fieldLink RX11 26 "PorridgeSea" "sea" "LPorridgeSea$Sea;") (List.mem_of_getElem? (i := 3) rfl)) (fun _ h9 => h9) rfl dX11_mean_43 ?_
  refine va_get (D := (dC, dI)) (ci := 7) (v := .int (nI 4)) (C := RX7) (T := TX7) (N := 19) hx hb hts hin7 hown hK hP 1 rfl rfl 0 (by decide) (hts (.fieldLink RX11 197 "PorridgeSea$Sea" "wide" "I") (List.mem_of_getElem? (i := 5) rfl)) (fun _ h9 => h9) rfl dX11_mean_46 ?_
  refine lv_icmp_ge (tgt := 75) hx hb dX11_mean_49 (by decide) (fun c14 => absurd c14 (by decide)) (fun c14 => ?_)
  refine lv_iload_n hx hb dX11_mean_52 rfl (lv_at hl 1 rfl) ?_
  refine lv_aload_n hx hb dX11_mean_53 rfl (lv_at hl 2 rfl) ?_
  refine va_get (D := (dC, dI)) (ci := 11) (v := .ref sea) (C := RX11) (T := TX11) (N := 18) hx hb hts hin11 hown hK hP 0 rfl rfl 3 (by decide) (hts (.fieldLink RX11 26 "PorridgeSea" "sea" "LPorridgeSea$Sea;") (List.mem_of_getElem? (i := 3) rfl)) (fun _ h9 => h9) rfl dX11_mean_54 ?_
  refine lv_bipush (v := nI 6) hx hb dX11_mean_57 (by decide) ?_
  refine lv_iload_n hx hb dX11_mean_59 rfl (lv_at hl 3 rfl) ?_
  refine lv_imul hx hb dX11_mean_60 ?_
  refine r_ti (nI (6 * x)) (pk_mul _ _) ?_
  refine lv_iload hx hb dX11_mean_61 (lv_at hl 0 rfl) ?_
  refine lv_iadd hx hb dX11_mean_63 ?_
  refine r_ti (nI ((6 * x) + 3)) (nI_add _ _) ?_
  refine vp_callSi (W.runV (As := [.int (nI ((6 * x) + 3))]) (rest := [.int (nI 0)]) ⟨hx, hb, hml, hown, hts⟩ (c_thicknessIn0 l dC dI ky sea (nI 10) (nI 1) (nI 3) (nI 0) (nI 0) (nI 0) thickness lumpNames lumpCells boatNames boatCells loads spoons spoonsLeft depths thicknessF ((6 * x) + 3) hz (by omega)) (cwV 1 hts gX11_mean_X7_thicknessIn rfl rfl rfl (by decide +kernel) ⟨(Nat.le_of_ble_eq_true rfl), (Nat.le_of_ble_eq_true rfl)⟩) (pre_PV hK hP [1, 2] rfl (ci := 7) (q0 := 1) rfl rfl) rfl rfl hl.1 rfl (lv_room (Nat.le_of_ble_eq_true rfl)) dX11_mean_64 ⟨(Nat.le_of_ble_eq_true rfl), (Nat.le_of_ble_eq_true rfl)⟩) (fun r15 p16 => ?_)
  subst p16
  refine lv_iadd hx hb dX11_mean_67 ?_
  refine r_ti (nI 0) (by decide) ?_
  refine lv_istore_n (lv' := [(3, .int (nI 0)), (4, .int (nI 3)), (0, .ref t), (1, .int (nI x)), (2, .int (nI 0))]) hx hb dX11_mean_68 rfl hl (by decide) rfl (fun ls hl => ?_)
  refine lv_iinc (v := nI 4) (lv' := [(4, .int (nI 4)), (3, .int (nI 0)), (0, .ref t), (1, .int (nI x)), (2, .int (nI 0))]) hx hb dX11_mean_69 hl (k := 1) rfl (by decide) (by decide) rfl (fun ls hl => ?_)
  refine lv_goto (tgt := 40) hx hb dX11_mean_72 (by decide) ?_
  refine lv_iload hx hb dX11_mean_40 (lv_at hl 0 rfl) ?_
  refine lv_aload_n hx hb dX11_mean_42 rfl (lv_at hl 2 rfl) ?_
  refine va_get (D := (dC, dI)) (ci := 11) (v := .ref sea) (C := RX11) (T := TX11) (N := 18) hx hb hts hin11 hown hK hP 0 rfl rfl 3 (by decide) (hts (.fieldLink RX11 26 "PorridgeSea" "sea" "LPorridgeSea$Sea;") (List.mem_of_getElem? (i := 3) rfl)) (fun _ h9 => h9) rfl dX11_mean_43 ?_
  refine va_get (D := (dC, dI)) (ci := 7) (v := .int (nI 4)) (C := RX7) (T := TX7) (N := 19) hx hb hts hin7 hown hK hP 1 rfl rfl 0 (by decide) (hts (.fieldLink RX11 197 "PorridgeSea$Sea" "wide" "I") (List.mem_of_getElem? (i := 5) rfl)) (fun _ h9 => h9) rfl dX11_mean_46 ?_
  refine lv_icmp_ge (tgt := 75) hx hb dX11_mean_49 (by decide) (fun c17 => ?_) (fun c17 => absurd (by decide) c17)
  refine lv_iload_n hx hb dX11_mean_75 rfl (lv_at hl 1 rfl) ?_
  refine lv_aload_n hx hb dX11_mean_76 rfl (lv_at hl 2 rfl) ?_
  refine va_get (D := (dC, dI)) (ci := 11) (v := .ref sea) (C := RX11) (T := TX11) (N := 18) hx hb hts hin11 hown hK hP 0 rfl rfl 3 (by decide) (hts (.fieldLink RX11 26 "PorridgeSea" "sea" "LPorridgeSea$Sea;") (List.mem_of_getElem? (i := 3) rfl)) (fun _ h9 => h9) rfl dX11_mean_77 ?_
  refine va_get (D := (dC, dI)) (ci := 7) (v := .int (nI 4)) (C := RX7) (T := TX7) (N := 19) hx hb hts hin7 hown hK hP 1 rfl rfl 0 (by decide) (hts (.fieldLink RX11 197 "PorridgeSea$Sea" "wide" "I") (List.mem_of_getElem? (i := 5) rfl)) (fun _ h9 => h9) rfl dX11_mean_80 ?_
  refine vp_callSi (W.runS (As := [.int (nI 0), .int (nI 4)]) (rest := []) ⟨hx, hb, hml, hown, hts⟩ (c_commonDivisor l dC dI ky) (va_cwS 2 hts gX11_mean_X11_commonDivisor rfl rfl rfl (by decide +kernel) ⟨(Nat.le_of_ble_eq_true rfl), (Nat.le_of_ble_eq_true rfl)⟩) (pre_PS hK hP [] rfl) rfl rfl hl.1 rfl (lv_room (Nat.le_of_ble_eq_true rfl)) dX11_mean_83 ⟨(Nat.le_of_ble_eq_true rfl), (Nat.le_of_ble_eq_true rfl)⟩) (fun r18 p19 => ?_)
  subst p19
  refine lv_istore (lv' := [(4, .int (nI 4)), (3, .int (nI 0)), (0, .ref t), (1, .int (nI x)), (2, .int (nI 0))]) hx hb dX11_mean_86 hl (by decide) rfl (fun ls hl => ?_)
  refine lv_iload_n hx hb dX11_mean_88 rfl (lv_at hl 4 rfl) ?_
  refine lv_if_ne (tgt := 96) hx hb dX11_mean_89 (by decide) (fun c20 => absurd c20 (by decide)) (fun c20 => ?_)
  refine lv_iload_n hx hb dX11_mean_92 rfl (lv_at hl 1 rfl) ?_
  refine lv_goto (tgt := 103) hx hb dX11_mean_93 (by decide) ?_
  refine lv_iload hx hb dX11_mean_103 (lv_at hl 0 rfl) ?_
  refine lv_idiv hx hb dX11_mean_105 (by decide) ?_
  refine r_ti (nI 0) (by decide) ?_
  exact W.iret (v := nI 0) hx hb hr (fun t9 ht9 hW9 => ⟨nI 0, rfl, rfl, ht9⟩) (fun _ h => absurd h List.not_mem_nil) dX11_mean_106
set_option maxHeartbeats 4000000 in
set_option maxRecDepth 100000 in
theorem c_meanOk1 (l : Launch) (dC : Nat → ClassId) (dI : Nat → Nat → Nat) (ky : Nat → ClassId) (t : Nat) (reader : Nat) (sea : Nat) (spareSea : Nat) (seaText : Nat) (book : Nat) (sentence : Nat) (spareSentence : Nat) (route : Nat) (meeting : Nat) (sighting : Nat) (draws : Nat) (history : Nat) (images : Nat) (chartBytes : Nat) (thickness : Nat) (lumpNames : Nat) (lumpCells : Nat) (boatNames : Nat) (boatCells : Nat) (loads : Nat) (spoons : Nat) (spoonsLeft : Nat) (depths : Nat) (thicknessF : Nat → Int32) (x : Nat) (hz : ∀ j, j < 36 → thicknessF j = nI 0) (hx4 : x < 4) : Met l yX11_mean wsX11_mean ({ frames := 1, cells := 0, slots := 0, locals := 22 }) (PcP dC dI ky [.ref t, .int (nI x), .int (nI 1)] [(t, .inr (11, [.ref reader, .int (nI 0), .int (nI 0), .ref sea, .ref spareSea, .ref seaText, .ref book, .ref sentence, .ref spareSentence, .ref route, .ref meeting, .ref sighting, .ref draws, .ref history, .ref images, .ref chartBytes, .int (nI 0), .int (-1 : Int32)])), (sea, .inr (7, [.int (nI 4), .int (nI 4), .int (nI 10), .int (nI 1), .int (nI 3), .int (nI 0), .int (nI 0), .int (nI 0), .int (nI 0), .int (nI 0), .ref thickness, .ref lumpNames, .ref lumpCells, .ref boatNames, .ref boatCells, .ref loads, .ref spoons, .ref spoonsLeft, .ref depths])), (thickness, .inl (ky 0, 36, .inl thicknessF))]) (vp_Si (fun r : Int32 => r = nI 1)) 0 0 (fun _ => False) := by
  refine Met.ofW (cc := cX11_mean) (maxL := 5) (ret := (some .int)) (by decide) rfl ?_
  intro p e s m args below meth c s₁ B hml hv
  obtain ⟨rfl, hP, hK⟩ := hv
  have hx := B.exec
  have hb := B.bytes
  have hr := B.returns
  have hts := atoms_spec (ws := wsX11_mean) B.pre
  have hown : s.vm.findClass RX11 = some m.cls := findClass_of_methodNamed B.named
  have hlocks := B.notSynchronized
  have hin7 : ∀ w ∈ u_ws RX7 TX7 19, w ∈ wsX11_mean := by decide +kernel
  have hin11 : ∀ w ∈ u_ws RX11 TX11 18, w ∈ wsX11_mean := by decide +kernel
  have hl := lv_entry ([.ref t, .int (nI x), .int (nI 1)]) (n := 5) (Nat.le_of_ble_eq_true rfl)
  rw [lg_entry_eq]
  generalize (lg_sl ([.ref t, .int (nI x), .int (nI 1)]) ++ List.replicate (5 - (lg_sl ([.ref t, .int (nI x), .int (nI 1)])).length) Slot.unset).toArray = ls at hl ⊢
  have hl : lv_has ls 5 [(0, .ref t), (1, .int (nI x)), (2, .int (nI 1))] := hl
  refine lv_iload_n hx hb dX11_mean_0 rfl (lv_at hl 1 rfl) ?_
  refine n_if_lt (x := x) (tgt := 24) hx hb (by omega) dX11_mean_1 (by decide) (fun c1 => c1.elim) (fun c1 => ?_)
  refine lv_iload_n hx hb dX11_mean_4 rfl (lv_at hl 1 rfl) ?_
  refine lv_aload_n hx hb dX11_mean_5 rfl (lv_at hl 0 rfl) ?_
  refine va_get (D := (dC, dI)) (ci := 11) (v := .ref sea) (C := RX11) (T := TX11) (N := 18) hx hb hts hin11 hown hK hP 0 rfl rfl 3 (by decide) (hts (.fieldLink RX11 26 "PorridgeSea" "sea" "LPorridgeSea$Sea;") (List.mem_of_getElem? (i := 3) rfl)) (fun _ h9 => h9) rfl dX11_mean_6 ?_
  refine va_get (D := (dC, dI)) (ci := 7) (v := .int (nI 4)) (C := RX7) (T := TX7) (N := 19) hx hb hts hin7 hown hK hP 1 rfl rfl 1 (by decide) (hts (.fieldLink RX11 200 "PorridgeSea$Sea" "high" "I") (List.mem_of_getElem? (i := 4) rfl)) (fun _ h9 => h9) rfl dX11_mean_9 ?_
  refine n_icmp_ge (x := x) (y := 4) (tgt := 24) hx hb (by omega) (by omega) dX11_mean_12 (by decide) (fun c2 => by exfalso; omega) (fun c2 => ?_)
  refine lv_iload_n hx hb dX11_mean_15 rfl (lv_at hl 2 rfl) ?_
  refine lv_if_lt (tgt := 24) hx hb dX11_mean_16 (by decide) (fun c3 => absurd c3 (by decide)) (fun c3 => ?_)
  refine lv_iload_n hx hb dX11_mean_19 rfl (lv_at hl 2 rfl) ?_
  refine lv_iconst (v := nI 1) hx hb dX11_mean_20 (by decide) ?_
  refine lv_icmp_le (tgt := 35) hx hb dX11_mean_21 (by decide) (fun c4 => ?_) (fun c4 => absurd (by decide) c4)
  refine lv_iconst (v := nI 0) hx hb dX11_mean_35 (by decide) ?_
  refine lv_istore_n (lv' := [(3, .int (nI 0)), (0, .ref t), (1, .int (nI x)), (2, .int (nI 1))]) hx hb dX11_mean_36 rfl hl (by decide) rfl (fun ls hl => ?_)
  refine lv_iconst (v := nI 0) hx hb dX11_mean_37 (by decide) ?_
  refine lv_istore (lv' := [(4, .int (nI 0)), (3, .int (nI 0)), (0, .ref t), (1, .int (nI x)), (2, .int (nI 1))]) hx hb dX11_mean_38 hl (by decide) rfl (fun ls hl => ?_)
  refine lv_iload hx hb dX11_mean_40 (lv_at hl 0 rfl) ?_
  refine lv_aload_n hx hb dX11_mean_42 rfl (lv_at hl 2 rfl) ?_
  refine va_get (D := (dC, dI)) (ci := 11) (v := .ref sea) (C := RX11) (T := TX11) (N := 18) hx hb hts hin11 hown hK hP 0 rfl rfl 3 (by decide) (hts (.fieldLink RX11 26 "PorridgeSea" "sea" "LPorridgeSea$Sea;") (List.mem_of_getElem? (i := 3) rfl)) (fun _ h9 => h9) rfl dX11_mean_43 ?_
  refine va_get (D := (dC, dI)) (ci := 7) (v := .int (nI 4)) (C := RX7) (T := TX7) (N := 19) hx hb hts hin7 hown hK hP 1 rfl rfl 0 (by decide) (hts (.fieldLink RX11 197 "PorridgeSea$Sea" "wide" "I") (List.mem_of_getElem? (i := 5) rfl)) (fun _ h9 => h9) rfl dX11_mean_46 ?_
  refine lv_icmp_ge (tgt := 75) hx hb dX11_mean_49 (by decide) (fun c5 => absurd c5 (by decide)) (fun c5 => ?_)
  refine lv_iload_n hx hb dX11_mean_52 rfl (lv_at hl 1 rfl) ?_
  refine lv_aload_n hx hb dX11_mean_53 rfl (lv_at hl 2 rfl) ?_
  refine va_get (D := (dC, dI)) (ci := 11) (v := .ref sea) (C := RX11) (T := TX11) (N := 18) hx hb hts hin11 hown hK hP 0 rfl rfl 3 (by decide) (hts (.fieldLink RX11 26 "PorridgeSea" "sea" "LPorridgeSea$Sea;") (List.mem_of_getElem? (i := 3) rfl)) (fun _ h9 => h9) rfl dX11_mean_54 ?_
  refine lv_bipush (v := nI 6) hx hb dX11_mean_57 (by decide) ?_
  refine lv_iload_n hx hb dX11_mean_59 rfl (lv_at hl 3 rfl) ?_
  refine lv_imul hx hb dX11_mean_60 ?_
  refine r_ti (nI (6 * x)) (pk_mul _ _) ?_
  refine lv_iload hx hb dX11_mean_61 (lv_at hl 0 rfl) ?_
  refine lv_iadd hx hb dX11_mean_63 ?_
  refine r_ti (nI ((6 * x) + 0)) (nI_add _ _) ?_
  refine vp_callSi (W.runV (As := [.int (nI ((6 * x) + 0))]) (rest := [.int (nI 0)]) ⟨hx, hb, hml, hown, hts⟩ (c_thicknessIn0 l dC dI ky sea (nI 10) (nI 1) (nI 3) (nI 0) (nI 0) (nI 0) thickness lumpNames lumpCells boatNames boatCells loads spoons spoonsLeft depths thicknessF ((6 * x) + 0) hz (by omega)) (cwV 1 hts gX11_mean_X7_thicknessIn rfl rfl rfl (by decide +kernel) ⟨(Nat.le_of_ble_eq_true rfl), (Nat.le_of_ble_eq_true rfl)⟩) (pre_PV hK hP [1, 2] rfl (ci := 7) (q0 := 1) rfl rfl) rfl rfl hl.1 rfl (lv_room (Nat.le_of_ble_eq_true rfl)) dX11_mean_64 ⟨(Nat.le_of_ble_eq_true rfl), (Nat.le_of_ble_eq_true rfl)⟩) (fun r6 p7 => ?_)
  subst p7
  refine lv_iadd hx hb dX11_mean_67 ?_
  refine r_ti (nI 0) (by decide) ?_
  refine lv_istore_n (lv' := [(3, .int (nI 0)), (4, .int (nI 0)), (0, .ref t), (1, .int (nI x)), (2, .int (nI 1))]) hx hb dX11_mean_68 rfl hl (by decide) rfl (fun ls hl => ?_)
  refine lv_iinc (v := nI 1) (lv' := [(4, .int (nI 1)), (3, .int (nI 0)), (0, .ref t), (1, .int (nI x)), (2, .int (nI 1))]) hx hb dX11_mean_69 hl (k := 1) rfl (by decide) (by decide) rfl (fun ls hl => ?_)
  refine lv_goto (tgt := 40) hx hb dX11_mean_72 (by decide) ?_
  refine lv_iload hx hb dX11_mean_40 (lv_at hl 0 rfl) ?_
  refine lv_aload_n hx hb dX11_mean_42 rfl (lv_at hl 2 rfl) ?_
  refine va_get (D := (dC, dI)) (ci := 11) (v := .ref sea) (C := RX11) (T := TX11) (N := 18) hx hb hts hin11 hown hK hP 0 rfl rfl 3 (by decide) (hts (.fieldLink RX11 26 "PorridgeSea" "sea" "LPorridgeSea$Sea;") (List.mem_of_getElem? (i := 3) rfl)) (fun _ h9 => h9) rfl dX11_mean_43 ?_
  refine va_get (D := (dC, dI)) (ci := 7) (v := .int (nI 4)) (C := RX7) (T := TX7) (N := 19) hx hb hts hin7 hown hK hP 1 rfl rfl 0 (by decide) (hts (.fieldLink RX11 197 "PorridgeSea$Sea" "wide" "I") (List.mem_of_getElem? (i := 5) rfl)) (fun _ h9 => h9) rfl dX11_mean_46 ?_
  refine lv_icmp_ge (tgt := 75) hx hb dX11_mean_49 (by decide) (fun c8 => absurd c8 (by decide)) (fun c8 => ?_)
  refine lv_iload_n hx hb dX11_mean_52 rfl (lv_at hl 1 rfl) ?_
  refine lv_aload_n hx hb dX11_mean_53 rfl (lv_at hl 2 rfl) ?_
  refine va_get (D := (dC, dI)) (ci := 11) (v := .ref sea) (C := RX11) (T := TX11) (N := 18) hx hb hts hin11 hown hK hP 0 rfl rfl 3 (by decide) (hts (.fieldLink RX11 26 "PorridgeSea" "sea" "LPorridgeSea$Sea;") (List.mem_of_getElem? (i := 3) rfl)) (fun _ h9 => h9) rfl dX11_mean_54 ?_
  refine lv_bipush (v := nI 6) hx hb dX11_mean_57 (by decide) ?_
  refine lv_iload_n hx hb dX11_mean_59 rfl (lv_at hl 3 rfl) ?_
  refine lv_imul hx hb dX11_mean_60 ?_
  refine r_ti (nI (6 * x)) (pk_mul _ _) ?_
  refine lv_iload hx hb dX11_mean_61 (lv_at hl 0 rfl) ?_
  refine lv_iadd hx hb dX11_mean_63 ?_
  refine r_ti (nI ((6 * x) + 1)) (nI_add _ _) ?_
  refine vp_callSi (W.runV (As := [.int (nI ((6 * x) + 1))]) (rest := [.int (nI 0)]) ⟨hx, hb, hml, hown, hts⟩ (c_thicknessIn0 l dC dI ky sea (nI 10) (nI 1) (nI 3) (nI 0) (nI 0) (nI 0) thickness lumpNames lumpCells boatNames boatCells loads spoons spoonsLeft depths thicknessF ((6 * x) + 1) hz (by omega)) (cwV 1 hts gX11_mean_X7_thicknessIn rfl rfl rfl (by decide +kernel) ⟨(Nat.le_of_ble_eq_true rfl), (Nat.le_of_ble_eq_true rfl)⟩) (pre_PV hK hP [1, 2] rfl (ci := 7) (q0 := 1) rfl rfl) rfl rfl hl.1 rfl (lv_room (Nat.le_of_ble_eq_true rfl)) dX11_mean_64 ⟨(Nat.le_of_ble_eq_true rfl), (Nat.le_of_ble_eq_true rfl)⟩) (fun r9 p10 => ?_)
  subst p10
  refine lv_iadd hx hb dX11_mean_67 ?_
  refine r_ti (nI 0) (by decide) ?_
  refine lv_istore_n (lv' := [(3, .int (nI 0)), (4, .int (nI 1)), (0, .ref t), (1, .int (nI x)), (2, .int (nI 1))]) hx hb dX11_mean_68 rfl hl (by decide) rfl (fun ls hl => ?_)
  refine lv_iinc (v := nI 2) (lv' := [(4, .int (nI 2)), (3, .int (nI 0)), (0, .ref t), (1, .int (nI x)), (2, .int (nI 1))]) hx hb dX11_mean_69 hl (k := 1) rfl (by decide) (by decide) rfl (fun ls hl => ?_)
  refine lv_goto (tgt := 40) hx hb dX11_mean_72 (by decide) ?_
  refine lv_iload hx hb dX11_mean_40 (lv_at hl 0 rfl) ?_
  refine lv_aload_n hx hb dX11_mean_42 rfl (lv_at hl 2 rfl) ?_
  refine va_get (D := (dC, dI)) (ci := 11) (v := .ref sea) (C := RX11) (T := TX11) (N := 18) hx hb hts hin11 hown hK hP 0 rfl rfl 3 (by decide) (hts (.fieldLink RX11 26 "PorridgeSea" "sea" "LPorridgeSea$Sea;") (List.mem_of_getElem? (i := 3) rfl)) (fun _ h9 => h9) rfl dX11_mean_43 ?_
  refine va_get (D := (dC, dI)) (ci := 7) (v := .int (nI 4)) (C := RX7) (T := TX7) (N := 19) hx hb hts hin7 hown hK hP 1 rfl rfl 0 (by decide) (hts (.fieldLink RX11 197 "PorridgeSea$Sea" "wide" "I") (List.mem_of_getElem? (i := 5) rfl)) (fun _ h9 => h9) rfl dX11_mean_46 ?_
  refine lv_icmp_ge (tgt := 75) hx hb dX11_mean_49 (by decide) (fun c11 => absurd c11 (by decide)) (fun c11 => ?_)
  refine lv_iload_n hx hb dX11_mean_52 rfl (lv_at hl 1 rfl) ?_
  refine lv_aload_n hx hb dX11_mean_53 rfl (lv_at hl 2 rfl) ?_
  refine va_get (D := (dC, dI)) (ci := 11) (v := .ref sea) (C := RX11) (T := TX11) (N := 18) hx hb hts hin11 hown hK hP 0 rfl rfl 3 (by decide) (hts (.fieldLink RX11 26 "PorridgeSea" "sea" "LPorridgeSea$Sea;") (List.mem_of_getElem? (i := 3) rfl)) (fun _ h9 => h9) rfl dX11_mean_54 ?_
  refine lv_bipush (v := nI 6) hx hb dX11_mean_57 (by decide) ?_
  refine lv_iload_n hx hb dX11_mean_59 rfl (lv_at hl 3 rfl) ?_
  refine lv_imul hx hb dX11_mean_60 ?_
  refine r_ti (nI (6 * x)) (pk_mul _ _) ?_
  refine lv_iload hx hb dX11_mean_61 (lv_at hl 0 rfl) ?_
  refine lv_iadd hx hb dX11_mean_63 ?_
  refine r_ti (nI ((6 * x) + 2)) (nI_add _ _) ?_
  refine vp_callSi (W.runV (As := [.int (nI ((6 * x) + 2))]) (rest := [.int (nI 0)]) ⟨hx, hb, hml, hown, hts⟩ (c_thicknessIn0 l dC dI ky sea (nI 10) (nI 1) (nI 3) (nI 0) (nI 0) (nI 0) thickness lumpNames lumpCells boatNames boatCells loads spoons spoonsLeft depths thicknessF ((6 * x) + 2) hz (by omega)) (cwV 1 hts gX11_mean_X7_thicknessIn rfl rfl rfl (by decide +kernel) ⟨(Nat.le_of_ble_eq_true rfl), (Nat.le_of_ble_eq_true rfl)⟩) (pre_PV hK hP [1, 2] rfl (ci := 7) (q0 := 1) rfl rfl) rfl rfl hl.1 rfl (lv_room (Nat.le_of_ble_eq_true rfl)) dX11_mean_64 ⟨(Nat.le_of_ble_eq_true rfl), (Nat.le_of_ble_eq_true rfl)⟩) (fun r12 p13 => ?_)
  subst p13
  refine lv_iadd hx hb dX11_mean_67 ?_
  refine r_ti (nI 0) (by decide) ?_
  refine lv_istore_n (lv' := [(3, .int (nI 0)), (4, .int (nI 2)), (0, .ref t), (1, .int (nI x)), (2, .int (nI 1))]) hx hb dX11_mean_68 rfl hl (by decide) rfl (fun ls hl => ?_)
  refine lv_iinc (v := nI 3) (lv' := [(4, .int (nI 3)), (3, .int (nI 0)), (0, .ref t), (1, .int (nI x)), (2, .int (nI 1))]) hx hb dX11_mean_69 hl (k := 1) rfl (by decide) (by decide) rfl (fun ls hl => ?_)
  refine lv_goto (tgt := 40) hx hb dX11_mean_72 (by decide) ?_
  refine lv_iload hx hb dX11_mean_40 (lv_at hl 0 rfl) ?_
  refine lv_aload_n hx hb dX11_mean_42 rfl (lv_at hl 2 rfl) ?_
  refine va_get (D := (dC, dI)) (ci := 11) (v := .ref sea) (C := RX11) (T := TX11) (N := 18) hx hb hts hin11 hown hK hP 0 rfl rfl 3 (by decide) (hts (.fieldLink RX11 26 "PorridgeSea" "sea" "LPorridgeSea$Sea;") (List.mem_of_getElem? (i := 3) rfl)) (fun _ h9 => h9) rfl dX11_mean_43 ?_
  refine va_get (D := (dC, dI)) (ci := 7) (v := .int (nI 4)) (C := RX7) (T := TX7) (N := 19) hx hb hts hin7 hown hK hP 1 rfl rfl 0 (by decide) (hts (.fieldLink RX11 197 "PorridgeSea$Sea" "wide" "I") (List.mem_of_getElem? (i := 5) rfl)) (fun _ h9 => h9) rfl dX11_mean_46 ?_
  refine lv_icmp_ge (tgt := 75) hx hb dX11_mean_49 (by decide) (fun c14 => absurd c14 (by decide)) (fun c14 => ?_)
  refine lv_iload_n hx hb dX11_mean_52 rfl (lv_at hl 1 rfl) ?_
  refine lv_aload_n hx hb dX11_mean_53 rfl (lv_at hl 2 rfl) ?_
  refine va_get (D := (dC, dI)) (ci := 11) (v := .ref sea) (C := RX11) (T := TX11) (N := 18) hx hb hts hin11 hown hK hP 0 rfl rfl 3 (by decide) (hts (.fieldLink RX11 26 "PorridgeSea" "sea" "LPorridgeSea$Sea;") (List.mem_of_getElem? (i := 3) rfl)) (fun _ h9 => h9) rfl dX11_mean_54 ?_
  refine lv_bipush (v := nI 6) hx hb dX11_mean_57 (by decide) ?_
  refine lv_iload_n hx hb dX11_mean_59 rfl (lv_at hl 3 rfl) ?_
  refine lv_imul hx hb dX11_mean_60 ?_
  refine r_ti (nI (6 * x)) (pk_mul _ _) ?_
  refine lv_iload hx hb dX11_mean_61 (lv_at hl 0 rfl) ?_
  refine lv_iadd hx hb dX11_mean_63 ?_
  refine r_ti (nI ((6 * x) + 3)) (nI_add _ _) ?_
  refine vp_callSi (W.runV (As := [.int (nI ((6 * x) + 3))]) (rest := [.int (nI 0)]) ⟨hx, hb, hml, hown, hts⟩ (c_thicknessIn0 l dC dI ky sea (nI 10) (nI 1) (nI 3) (nI 0) (nI 0) (nI 0) thickness lumpNames lumpCells boatNames boatCells loads spoons spoonsLeft depths thicknessF ((6 * x) + 3) hz (by omega)) (cwV 1 hts gX11_mean_X7_thicknessIn rfl rfl rfl (by decide +kernel) ⟨(Nat.le_of_ble_eq_true rfl), (Nat.le_of_ble_eq_true rfl)⟩) (pre_PV hK hP [1, 2] rfl (ci := 7) (q0 := 1) rfl rfl) rfl rfl hl.1 rfl (lv_room (Nat.le_of_ble_eq_true rfl)) dX11_mean_64 ⟨(Nat.le_of_ble_eq_true rfl), (Nat.le_of_ble_eq_true rfl)⟩) (fun r15 p16 => ?_)
  subst p16
  refine lv_iadd hx hb dX11_mean_67 ?_
  refine r_ti (nI 0) (by decide) ?_
  refine lv_istore_n (lv' := [(3, .int (nI 0)), (4, .int (nI 3)), (0, .ref t), (1, .int (nI x)), (2, .int (nI 1))]) hx hb dX11_mean_68 rfl hl (by decide) rfl (fun ls hl => ?_)
  refine lv_iinc (v := nI 4) (lv' := [(4, .int (nI 4)), (3, .int (nI 0)), (0, .ref t), (1, .int (nI x)), (2, .int (nI 1))]) hx hb dX11_mean_69 hl (k := 1) rfl (by decide) (by decide) rfl (fun ls hl => ?_)
  refine lv_goto (tgt := 40) hx hb dX11_mean_72 (by decide) ?_
  refine lv_iload hx hb dX11_mean_40 (lv_at hl 0 rfl) ?_
  refine lv_aload_n hx hb dX11_mean_42 rfl (lv_at hl 2 rfl) ?_
  refine va_get (D := (dC, dI)) (ci := 11) (v := .ref sea) (C := RX11) (T := TX11) (N := 18) hx hb hts hin11 hown hK hP 0 rfl rfl 3 (by decide) (hts (.fieldLink RX11 26 "PorridgeSea" "sea" "LPorridgeSea$Sea;") (List.mem_of_getElem? (i := 3) rfl)) (fun _ h9 => h9) rfl dX11_mean_43 ?_
  refine va_get (D := (dC, dI)) (ci := 7) (v := .int (nI 4)) (C := RX7) (T := TX7) (N := 19) hx hb hts hin7 hown hK hP 1 rfl rfl 0 (by decide) (hts (.fieldLink RX11 197 "PorridgeSea$Sea" "wide" "I") (List.mem_of_getElem? (i := 5) rfl)) (fun _ h9 => h9) rfl dX11_mean_46 ?_
  refine lv_icmp_ge (tgt := 75) hx hb dX11_mean_49 (by decide) (fun c17 => ?_) (fun c17 => absurd (by decide) c17)
  refine lv_iload_n hx hb dX11_mean_75 rfl (lv_at hl 1 rfl) ?_
  refine lv_aload_n hx hb dX11_mean_76 rfl (lv_at hl 2 rfl) ?_
  refine va_get (D := (dC, dI)) (ci := 11) (v := .ref sea) (C := RX11) (T := TX11) (N := 18) hx hb hts hin11 hown hK hP 0 rfl rfl 3 (by decide) (hts (.fieldLink RX11 26 "PorridgeSea" "sea" "LPorridgeSea$Sea;") (List.mem_of_getElem? (i := 3) rfl)) (fun _ h9 => h9) rfl dX11_mean_77 ?_
  refine va_get (D := (dC, dI)) (ci := 7) (v := .int (nI 4)) (C := RX7) (T := TX7) (N := 19) hx hb hts hin7 hown hK hP 1 rfl rfl 0 (by decide) (hts (.fieldLink RX11 197 "PorridgeSea$Sea" "wide" "I") (List.mem_of_getElem? (i := 5) rfl)) (fun _ h9 => h9) rfl dX11_mean_80 ?_
  refine vp_callSi (W.runS (As := [.int (nI 0), .int (nI 4)]) (rest := []) ⟨hx, hb, hml, hown, hts⟩ (c_commonDivisor l dC dI ky) (va_cwS 2 hts gX11_mean_X11_commonDivisor rfl rfl rfl (by decide +kernel) ⟨(Nat.le_of_ble_eq_true rfl), (Nat.le_of_ble_eq_true rfl)⟩) (pre_PS hK hP [] rfl) rfl rfl hl.1 rfl (lv_room (Nat.le_of_ble_eq_true rfl)) dX11_mean_83 ⟨(Nat.le_of_ble_eq_true rfl), (Nat.le_of_ble_eq_true rfl)⟩) (fun r18 p19 => ?_)
  subst p19
  refine lv_istore (lv' := [(4, .int (nI 4)), (3, .int (nI 0)), (0, .ref t), (1, .int (nI x)), (2, .int (nI 1))]) hx hb dX11_mean_86 hl (by decide) rfl (fun ls hl => ?_)
  refine lv_iload_n hx hb dX11_mean_88 rfl (lv_at hl 4 rfl) ?_
  refine lv_if_ne (tgt := 96) hx hb dX11_mean_89 (by decide) (fun c20 => ?_) (fun c20 => absurd c20 (by decide))
  refine lv_aload_n hx hb dX11_mean_96 rfl (lv_at hl 2 rfl) ?_
  refine va_get (D := (dC, dI)) (ci := 11) (v := .ref sea) (C := RX11) (T := TX11) (N := 18) hx hb hts hin11 hown hK hP 0 rfl rfl 3 (by decide) (hts (.fieldLink RX11 26 "PorridgeSea" "sea" "LPorridgeSea$Sea;") (List.mem_of_getElem? (i := 3) rfl)) (fun _ h9 => h9) rfl dX11_mean_97 ?_
  refine va_get (D := (dC, dI)) (ci := 7) (v := .int (nI 4)) (C := RX7) (T := TX7) (N := 19) hx hb hts hin7 hown hK hP 1 rfl rfl 0 (by decide) (hts (.fieldLink RX11 197 "PorridgeSea$Sea" "wide" "I") (List.mem_of_getElem? (i := 5) rfl)) (fun _ h9 => h9) rfl dX11_mean_100 ?_
  refine lv_iload hx hb dX11_mean_103 (lv_at hl 0 rfl) ?_
  refine lv_idiv hx hb dX11_mean_105 (by decide) ?_
  refine r_ti (nI 1) (by decide) ?_
  exact W.iret (v := nI 1) hx hb hr (fun t9 ht9 hW9 => ⟨nI 1, rfl, rfl, ht9⟩) (fun _ h => absurd h List.not_mem_nil) dX11_mean_106
