theorem dX12_restore_0 : decode cX12_restore 0 = .ok (.aload_n 0, 1) := by decide +kernel
theorem dX12_restore_1 : decode cX12_restore 1 = .ok (.iconst 0, 1) := by decide +kernel
theorem dX12_restore_2 : decode cX12_restore 2 = .ok (.putfield 1, 3) := by decide +kernel
theorem dX12_restore_5 : decode cX12_restore 5 = .ok (.iload_n 1, 1) := by decide +kernel
theorem dX12_restore_6 : decode cX12_restore 6 = .ok (.iconst 0, 1) := by decide +kernel
theorem dX12_restore_7 : decode cX12_restore 7 = .ok (.iconst 1, 1) := by decide +kernel
theorem dX12_restore_8 : decode cX12_restore 8 = .ok (.invokestatic 75, 3) := by decide +kernel
theorem dX12_restore_11 : decode cX12_restore 11 = .ok (.ifCond .eq 12, 3) := by decide +kernel
theorem dX12_restore_23 : decode cX12_restore 23 = .ok (.iconst 0, 1) := by decide +kernel
theorem dX12_restore_24 : decode cX12_restore 24 = .ok (.ireturn, 1) := by decide +kernel
theorem dX12_restore_14 : decode cX12_restore 14 = .ok (.aload_n 0, 1) := by decide +kernel
theorem dX12_restore_15 : decode cX12_restore 15 = .ok (.getfield 123, 3) := by decide +kernel
theorem dX12_restore_18 : decode cX12_restore 18 = .ok (.iload_n 1, 1) := by decide +kernel
theorem dX12_restore_19 : decode cX12_restore 19 = .ok (.baload, 1) := by decide +kernel
theorem dX12_restore_20 : decode cX12_restore 20 = .ok (.ifCond .ne 5, 3) := by decide +kernel
theorem dX12_restore_25 : decode cX12_restore 25 = .ok (.iconst 0, 1) := by decide +kernel
theorem dX12_restore_26 : decode cX12_restore 26 = .ok (.istore_n 2, 1) := by decide +kernel
theorem dX12_restore_27 : decode cX12_restore 27 = .ok (.iload_n 2, 1) := by decide +kernel
theorem dX12_restore_28 : decode cX12_restore 28 = .ok (.sipush 373, 3) := by decide +kernel
theorem dX12_restore_31 : decode cX12_restore 31 = .ok (.if_icmp .ge 27, 3) := by decide +kernel
theorem dX12_restore_34 : decode cX12_restore 34 = .ok (.aload_n 0, 1) := by decide +kernel
theorem dX12_restore_35 : decode cX12_restore 35 = .ok (.getfield 98, 3) := by decide +kernel
theorem dX12_restore_38 : decode cX12_restore 38 = .ok (.iload_n 2, 1) := by decide +kernel
theorem dX12_restore_39 : decode cX12_restore 39 = .ok (.aload_n 0, 1) := by decide +kernel
theorem dX12_restore_40 : decode cX12_restore 40 = .ok (.getfield 104, 3) := by decide +kernel
theorem dX12_restore_43 : decode cX12_restore 43 = .ok (.sipush 373, 3) := by decide +kernel
theorem dX12_restore_46 : decode cX12_restore 46 = .ok (.iload_n 1, 1) := by decide +kernel
theorem dX12_restore_47 : decode cX12_restore 47 = .ok (.imul, 1) := by decide +kernel
theorem dX12_restore_48 : decode cX12_restore 48 = .ok (.iload_n 2, 1) := by decide +kernel
theorem dX12_restore_49 : decode cX12_restore 49 = .ok (.iadd, 1) := by decide +kernel
theorem dX12_restore_50 : decode cX12_restore 50 = .ok (.iaload, 1) := by decide +kernel
theorem dX12_restore_51 : decode cX12_restore 51 = .ok (.iastore, 1) := by decide +kernel
theorem dX12_restore_52 : decode cX12_restore 52 = .ok (.iinc 2 1, 3) := by decide +kernel
theorem dX12_restore_55 : decode cX12_restore 55 = .ok (.goto (-28), 3) := by decide +kernel
theorem dX12_restore_58 : decode cX12_restore 58 = .ok (.iconst 0, 1) := by decide +kernel
theorem dX12_restore_59 : decode cX12_restore 59 = .ok (.istore_n 2, 1) := by decide +kernel
theorem dX12_restore_60 : decode cX12_restore 60 = .ok (.iload_n 2, 1) := by decide +kernel
theorem dX12_restore_61 : decode cX12_restore 61 = .ok (.bipush 12, 2) := by decide +kernel
theorem dX12_restore_63 : decode cX12_restore 63 = .ok (.if_icmp .ge 26, 3) := by decide +kernel
theorem dX12_restore_66 : decode cX12_restore 66 = .ok (.aload_n 0, 1) := by decide +kernel
theorem dX12_restore_67 : decode cX12_restore 67 = .ok (.getfield 113, 3) := by decide +kernel
theorem dX12_restore_70 : decode cX12_restore 70 = .ok (.iload_n 2, 1) := by decide +kernel
theorem dX12_restore_71 : decode cX12_restore 71 = .ok (.aload_n 0, 1) := by decide +kernel
theorem dX12_restore_72 : decode cX12_restore 72 = .ok (.getfield 120, 3) := by decide +kernel
theorem dX12_restore_75 : decode cX12_restore 75 = .ok (.bipush 12, 2) := by decide +kernel
theorem dX12_restore_77 : decode cX12_restore 77 = .ok (.iload_n 1, 1) := by decide +kernel
theorem dX12_restore_78 : decode cX12_restore 78 = .ok (.imul, 1) := by decide +kernel
theorem dX12_restore_79 : decode cX12_restore 79 = .ok (.iload_n 2, 1) := by decide +kernel
theorem dX12_restore_80 : decode cX12_restore 80 = .ok (.iadd, 1) := by decide +kernel
theorem dX12_restore_81 : decode cX12_restore 81 = .ok (.laload, 1) := by decide +kernel
theorem dX12_restore_82 : decode cX12_restore 82 = .ok (.lastore, 1) := by decide +kernel
theorem dX12_restore_83 : decode cX12_restore 83 = .ok (.iinc 2 1, 3) := by decide +kernel
theorem dX12_restore_86 : decode cX12_restore 86 = .ok (.goto (-26), 3) := by decide +kernel
theorem dX12_restore_89 : decode cX12_restore 89 = .ok (.aload_n 0, 1) := by decide +kernel
theorem dX12_restore_90 : decode cX12_restore 90 = .ok (.iconst 0, 1) := by decide +kernel
theorem dX12_restore_91 : decode cX12_restore 91 = .ok (.putfield 237, 3) := by decide +kernel
theorem dX12_restore_94 : decode cX12_restore 94 = .ok (.iconst 1, 1) := by decide +kernel
theorem dX12_restore_95 : decode cX12_restore 95 = .ok (.ireturn, 1) := by decide +kernel
set_option maxRecDepth 100000 in
theorem ggX12_restore_X12_isIn : GoodIn wsX12_restore wsX12_isIn := goodIn_r _ [11] rfl (by decide +kernel)
set_option maxRecDepth 100000 in
theorem gX12_restore_X12_isIn : GoodIn wsX12_restore (va_wsS RX12 75 yX12_isIn wsX12_isIn) := goodIn_app (goodIn_of _ (by decide +kernel)) ggX12_restore_X12_isIn
set_option maxRecDepth 20000 in
theorem lf_x_restoreNo_1 (ktaped : Nat) (ksize : Nat) (klimit : Nat) (kto : Nat) (kfrom : Nat) (ksnapMany : Nat) (ksideMany : Nat) (kmetMany : Nat) (ksunkMany : Nat) (ktexts : Nat) (klineMany : Nat) (knodes : Nat) (konesMany : Nat) (kwithin : Nat) (ktop : Nat) (x : Int32) (iv_ko_0 : ktaped ≤ 940) (iv_ko_1 : ksize ≤ 940) (iv_ko_2 : klimit ≤ 900) (iv_ko_3 : kto ≤ ksize) (iv_ko_4 : kfrom ≤ 940) (iv_ko_5 : ksnapMany ≤ 8) (iv_ko_6 : ksideMany ≤ 36) (iv_ko_7 : kmetMany ≤ 3) (iv_ko_8 : ksunkMany ≤ 36) (iv_ko_9 : ktexts ≤ 64) (iv_ko_10 : klineMany ≤ 40) (iv_ko_11 : knodes ≤ 60) (iv_ko_12 : konesMany ≤ 20) (iv_ko_13 : kwithin ≤ 8) (iv_ko_14 : ktop ≤ 59) (hno : ¬ (0 ≤ x.toInt ∧ x.toInt ≤ 1)) (t3 : (nI 0).toInt ≤ x.toInt) (t4 : x.toInt ≤ (nI 1).toInt) : False := by
  have b_x := ia_b x
  try have k_0 := ia_n 0 (by first | decide | omega)
  try have k_1 := ia_n 1 (by first | decide | omega)
  try simp only [ia_lt, ia_le, ia_eq, ia_m1, ia_0, ia_1, ne_eq, true_and, and_true, false_and, and_false, or_false, false_or, or_true, true_or, not_true_eq_false, not_false_eq_true] at *
  all_goals omega
set_option maxRecDepth 20000 in
theorem lf_x_restoreNo_2   : (nI 0) = nI 0 := by
  try have k_0 := ia_n 0 (by first | decide | omega)
  try simp only [ia_lt, ia_le, ia_eq, ia_m1, ia_0, ia_1, ne_eq, true_and, and_true, false_and, and_false, or_false, false_or, or_true, true_or, not_true_eq_false, not_false_eq_true] at *
  all_goals omega
set_option maxHeartbeats 4000000 in
set_option maxRecDepth 100000 in
theorem c_x_restoreNo (l : Launch) (dC : Nat → ClassId) (dI : Nat → Nat → Nat) (ky : Nat → ClassId) (sz : Nat) (o : Nat) (kthrown : Int32) (ktape : Nat) (ktaped : Nat) (ksize : Nat) (klimit : Nat) (kto : Nat) (kfrom : Nat) (kkind : Int32) (knumber : Int32) (ksign : Int32) (kfault : Int32) (kplace : Int32) (kword : Int64) (ktold : Int32) (know : Nat) (kread : Nat) (kkept : Nat) (ksnaps : Nat) (kaside : Nat) (kname : Nat) (kreadName : Nat) (kkeptName : Nat) (kisKept : Nat) (konces : Nat) (ksnapMany : Nat) (khasCells : Int32) (kpoured : Nat) (kfar : Nat) (ksides : Nat) (ksideMany : Nat) (kwayDays : Int32) (khasWay : Int32) (klines : Nat) (kmet : Nat) (kmetMany : Nat) (ksunk : Nat) (ktrying : Nat) (ksunkMany : Nat) (ksending : Int32) (kfleets : Int32) (ktext : Nat) (ktexts : Nat) (kseed : Int32) (kline : Nat) (kwritten : Nat) (klineMany : Nat) (khasWritten : Int32) (knode : Nat) (knodes : Nat) (konesMany : Nat) (kwithin : Nat) (ktop : Nat) (x : Int32) (iv_ko_0 : ktaped ≤ 940) (iv_ko_1 : ksize ≤ 940) (iv_ko_2 : klimit ≤ 900) (iv_ko_3 : kto ≤ ksize) (iv_ko_4 : kfrom ≤ 940) (iv_ko_5 : ksnapMany ≤ 8) (iv_ko_6 : ksideMany ≤ 36) (iv_ko_7 : kmetMany ≤ 3) (iv_ko_8 : ksunkMany ≤ 36) (iv_ko_9 : ktexts ≤ 64) (iv_ko_10 : klineMany ≤ 40) (iv_ko_11 : knodes ≤ 60) (iv_ko_12 : konesMany ≤ 20) (iv_ko_13 : kwithin ≤ 8) (iv_ko_14 : ktop ≤ 59) (hno : ¬ (0 ≤ x.toInt ∧ x.toInt ≤ 1)) : Met l yX12_restore wsX12_restore ({ frames := 1, cells := 0, slots := 0, locals := 22 }) (PcU dC dI ky [.ref o, .int x] [(o, .inr (12, [.int kthrown, .ref ktape, .int (nI ktaped), .int (nI ksize), .int (nI klimit), .int (nI kto), .int (nI kfrom), .int kkind, .int knumber, .int ksign, .int kfault, .int kplace, .long kword, .int ktold, .ref know, .ref kread, .ref kkept, .ref ksnaps, .ref kaside, .ref kname, .ref kreadName, .ref kkeptName, .ref kisKept, .ref konces, .int (nI ksnapMany), .int khasCells, .ref kpoured, .ref kfar, .ref ksides, .int (nI ksideMany), .int kwayDays, .int khasWay, .ref klines, .ref kmet, .int (nI kmetMany), .ref ksunk, .ref ktrying, .int (nI ksunkMany), .int ksending, .int kfleets, .ref ktext, .int (nI ktexts), .int kseed, .ref kline, .ref kwritten, .int (nI klineMany), .int khasWritten, .ref knode, .int (nI knodes), .int (nI konesMany), .int (nI kwithin), .int (nI ktop)]))] sz) (va_Qi (fun (r : Int32) (kthrownG : Int32) => r = nI 0) (BU dC dI ky (fun (kthrownG : Int32) => [(o, .inr (12, [.int kthrownG, .ref ktape, .int (nI ktaped), .int (nI ksize), .int (nI klimit), .int (nI kto), .int (nI kfrom), .int kkind, .int knumber, .int ksign, .int kfault, .int kplace, .long kword, .int ktold, .ref know, .ref kread, .ref kkept, .ref ksnaps, .ref kaside, .ref kname, .ref kreadName, .ref kkeptName, .ref kisKept, .ref konces, .int (nI ksnapMany), .int khasCells, .ref kpoured, .ref kfar, .ref ksides, .int (nI ksideMany), .int kwayDays, .int khasWay, .ref klines, .ref kmet, .int (nI kmetMany), .ref ksunk, .ref ktrying, .int (nI ksunkMany), .int ksending, .int kfleets, .ref ktext, .int (nI ktexts), .int kseed, .ref kline, .ref kwritten, .int (nI klineMany), .int khasWritten, .ref knode, .int (nI knodes), .int (nI konesMany), .int (nI kwithin), .int (nI ktop)]))]) (va_A [(o, .inr (12, [.int kthrown, .ref ktape, .int (nI ktaped), .int (nI ksize), .int (nI klimit), .int (nI kto), .int (nI kfrom), .int kkind, .int knumber, .int ksign, .int kfault, .int kplace, .long kword, .int ktold, .ref know, .ref kread, .ref kkept, .ref ksnaps, .ref kaside, .ref kname, .ref kreadName, .ref kkeptName, .ref kisKept, .ref konces, .int (nI ksnapMany), .int khasCells, .ref kpoured, .ref kfar, .ref ksides, .int (nI ksideMany), .int kwayDays, .int khasWay, .ref klines, .ref kmet, .int (nI kmetMany), .ref ksunk, .ref ktrying, .int (nI ksunkMany), .int ksending, .int kfleets, .ref ktext, .int (nI ktexts), .int kseed, .ref kline, .ref kwritten, .int (nI klineMany), .int khasWritten, .ref knode, .int (nI knodes), .int (nI konesMany), .int (nI kwithin), .int (nI ktop)]))] sz)) (va_A [(o, .inr (12, [.int kthrown, .ref ktape, .int (nI ktaped), .int (nI ksize), .int (nI klimit), .int (nI kto), .int (nI kfrom), .int kkind, .int knumber, .int ksign, .int kfault, .int kplace, .long kword, .int ktold, .ref know, .ref kread, .ref kkept, .ref ksnaps, .ref kaside, .ref kname, .ref kreadName, .ref kkeptName, .ref kisKept, .ref konces, .int (nI ksnapMany), .int khasCells, .ref kpoured, .ref kfar, .ref ksides, .int (nI ksideMany), .int kwayDays, .int khasWay, .ref klines, .ref kmet, .int (nI kmetMany), .ref ksunk, .ref ktrying, .int (nI ksunkMany), .int ksending, .int kfleets, .ref ktext, .int (nI ktexts), .int kseed, .ref kline, .ref kwritten, .int (nI klineMany), .int khasWritten, .ref knode, .int (nI knodes), .int (nI konesMany), .int (nI kwithin), .int (nI ktop)]))] sz)) 0 0 (va_A [(o, .inr (12, [.int kthrown, .ref ktape, .int (nI ktaped), .int (nI ksize), .int (nI klimit), .int (nI kto), .int (nI kfrom), .int kkind, .int knumber, .int ksign, .int kfault, .int kplace, .long kword, .int ktold, .ref know, .ref kread, .ref kkept, .ref ksnaps, .ref kaside, .ref kname, .ref kreadName, .ref kkeptName, .ref kisKept, .ref konces, .int (nI ksnapMany), .int khasCells, .ref kpoured, .ref kfar, .ref ksides, .int (nI ksideMany), .int kwayDays, .int khasWay, .ref klines, .ref kmet, .int (nI kmetMany), .ref ksunk, .ref ktrying, .int (nI ksunkMany), .int ksending, .int kfleets, .ref ktext, .int (nI ktexts), .int kseed, .ref kline, .ref kwritten, .int (nI klineMany), .int khasWritten, .ref knode, .int (nI knodes), .int (nI konesMany), .int (nI kwithin), .int (nI ktop)]))] sz) := by
  refine Met.ofW (cc := cX12_restore) (maxL := 3) (ret := (some .boolean)) (by decide) rfl ?_
  intro p e s m args below meth c s₁ B hml hv
  obtain ⟨rfl, hsz, hP, hK, hD0⟩ := hv
  have hx := B.exec
  have hb := B.bytes
  have hr := B.returns
  have hts := atoms_spec (ws := wsX12_restore) B.pre
  have hown : s.vm.findClass RX12 = some m.cls := findClass_of_methodNamed B.named
  have hlocks := B.notSynchronized
  have hin12 : ∀ w ∈ u_ws RX12 TX12 52, w ∈ wsX12_restore := by decide +kernel
  subst hsz
  have hD := hD0.self (sz := s.heap.size)
  generalize hAe : va_A [(o, .inr (12, [.int kthrown, .ref ktape, .int (nI ktaped), .int (nI ksize), .int (nI klimit), .int (nI kto), .int (nI kfrom), .int kkind, .int knumber, .int ksign, .int kfault, .int kplace, .long kword, .int ktold, .ref know, .ref kread, .ref kkept, .ref ksnaps, .ref kaside, .ref kname, .ref kreadName, .ref kkeptName, .ref kisKept, .ref konces, .int (nI ksnapMany), .int khasCells, .ref kpoured, .ref kfar, .ref ksides, .int (nI ksideMany), .int kwayDays, .int khasWay, .ref klines, .ref kmet, .int (nI kmetMany), .ref ksunk, .ref ktrying, .int (nI ksunkMany), .int ksending, .int kfleets, .ref ktext, .int (nI ktexts), .int kseed, .ref kline, .ref kwritten, .int (nI klineMany), .int khasWritten, .ref knode, .int (nI knodes), .int (nI konesMany), .int (nI kwithin), .int (nI ktop)]))] s.heap.size = A at hD ⊢
  have hA : ∀ q : Nat, s.heap.size ≤ q → A q := fun q h => by rw [← hAe]; exact Or.inr h
  have hS : va_S A s.heap s.heap [] := va_S.rf
  have hl := lv_entry ([.ref o, .int x]) (n := 3) (Nat.le_of_ble_eq_true rfl)
  rw [lg_entry_eq]
  generalize (lg_sl ([.ref o, .int x]) ++ List.replicate (3 - (lg_sl ([.ref o, .int x])).length) Slot.unset).toArray = ls at hl ⊢
  have hl : lv_has ls 3 [(0, .ref o), (1, .int x)] := hl
  refine q_name (fun Q hQ => ?_)
  generalize ([.ref o, .int x] : List Value).toArray = args at hts hQ ⊢
  refine lv_aload_n hx hb dX12_restore_0 rfl (lv_at hl 0 rfl) ?_
  refine lv_iconst (v := nI 0) hx hb dX12_restore_1 (by decide) ?_
  refine va_put (D := (dC, dI)) (ci := 12) (v := .int (nI 0)) (ty := .int) (C := RX12) (T := TX12) (N := 52) hx hb hts hin12 tyX12 tyX12_ok nmX12 hown hK hP hD hS 0 rfl rfl 0 (by decide) (hts (.fieldLink RX12 1 "PorridgeSeaModel" "thrown" "I") (List.mem_of_getElem? (i := 1) rfl)) (fun _ h9 => h9) rfl (by decide +kernel) rfl rfl (Nat.le_of_ble_eq_true rfl) dX12_restore_2 (fun H locs hP hD hS => ?_)
  have hP : va_P (dC, dI) vwCl [(o, .inr (12, [.int (nI 0), .ref ktape, .int (nI ktaped), .int (nI ksize), .int (nI klimit), .int (nI kto), .int (nI kfrom), .int kkind, .int knumber, .int ksign, .int kfault, .int kplace, .long kword, .int ktold, .ref know, .ref kread, .ref kkept, .ref ksnaps, .ref kaside, .ref kname, .ref kreadName, .ref kkeptName, .ref kisKept, .ref konces, .int (nI ksnapMany), .int khasCells, .ref kpoured, .ref kfar, .ref ksides, .int (nI ksideMany), .int kwayDays, .int khasWay, .ref klines, .ref kmet, .int (nI kmetMany), .ref ksunk, .ref ktrying, .int (nI ksunkMany), .int ksending, .int kfleets, .ref ktext, .int (nI ktexts), .int kseed, .ref kline, .ref kwritten, .int (nI klineMany), .int khasWritten, .ref knode, .int (nI knodes), .int (nI konesMany), .int (nI kwithin), .int (nI ktop)]))] H := hP
  have hD : va_D A [(o, .inr (12, [.int (nI 0), .ref ktape, .int (nI ktaped), .int (nI ksize), .int (nI klimit), .int (nI kto), .int (nI kfrom), .int kkind, .int knumber, .int ksign, .int kfault, .int kplace, .long kword, .int ktold, .ref know, .ref kread, .ref kkept, .ref ksnaps, .ref kaside, .ref kname, .ref kreadName, .ref kkeptName, .ref kisKept, .ref konces, .int (nI ksnapMany), .int khasCells, .ref kpoured, .ref kfar, .ref ksides, .int (nI ksideMany), .int kwayDays, .int khasWay, .ref klines, .ref kmet, .int (nI kmetMany), .ref ksunk, .ref ktrying, .int (nI ksunkMany), .int ksending, .int kfleets, .ref ktext, .int (nI ktexts), .int kseed, .ref kline, .ref kwritten, .int (nI klineMany), .int khasWritten, .ref knode, .int (nI knodes), .int (nI konesMany), .int (nI kwithin), .int (nI ktop)]))] := hD
  refine lv_iload_n hx hb dX12_restore_5 rfl (lv_at hl 1 rfl) ?_
  refine lv_iconst (v := nI 0) hx hb dX12_restore_6 (by decide) ?_
  refine lv_iconst (v := nI 1) hx hb dX12_restore_7 (by decide) ?_
  refine vp_callSi (W.runS (As := [.int x, .int (nI 0), .int (nI 1)]) (rest := []) ⟨hx, hb, hml, hown, hts⟩ (c_x_isIn l dC dI ky x (nI 0) (nI 1)) (va_cwS 3 hts gX12_restore_X12_isIn rfl rfl rfl (by decide +kernel) ⟨(Nat.le_of_ble_eq_true rfl), (Nat.le_of_ble_eq_true rfl)⟩) (pre_PS hK hP [] rfl) rfl rfl hl.1 rfl (lv_room (Nat.le_of_ble_eq_true rfl)) dX12_restore_8 ⟨(Nat.le_of_ble_eq_true rfl), (Nat.le_of_ble_eq_true rfl)⟩) (fun r1 p2 => ?_)
  rcases p2 with ⟨rfl, t3, t4⟩ | ⟨rfl, t5⟩
  · refine lv_if_eq (tgt := 23) hx hb dX12_restore_11 (by decide) (fun c6 => absurd c6 (by decide)) (fun c6 => ?_)
    exact ((lf_x_restoreNo_1 ktaped ksize klimit kto kfrom ksnapMany ksideMany kmetMany ksunkMany ktexts klineMany knodes konesMany kwithin ktop x iv_ko_0 iv_ko_1 iv_ko_2 iv_ko_3 iv_ko_4 iv_ko_5 iv_ko_6 iv_ko_7 iv_ko_8 iv_ko_9 iv_ko_10 iv_ko_11 iv_ko_12 iv_ko_13 iv_ko_14 hno t3 t4)).elim
  · refine lv_if_eq (tgt := 23) hx hb dX12_restore_11 (by decide) (fun c7 => ?_) (fun c7 => absurd (by decide) c7)
    refine lv_iconst (v := nI 0) hx hb dX12_restore_23 (by decide) ?_
    rw [hQ]
    exact W.zret (v := nI 0) hx hb hr (by decide) (fun t9 ht9 hW9 => ⟨⟨nI 0, (nI 0), rfl, (lf_x_restoreNo_2), by rw [ht9]; exact hP, va_K.moved hW9.alike hK, hD⟩, hS.F ht9⟩) hS.2.2 dX12_restore_24
set_option maxRecDepth 20000 in
theorem lf_x_restore0_1 (kkeptF : Nat → Int32) (kisKeptF : Nat → Int32) (y7 : Int32) (k16 : Nat) (f17 : Nat → Int32) (n20 : Nat) (kb0 : KBf kkeptF kisKeptF 0) (kb1 : KBf kkeptF kisKeptF 1) (t3 : (nI 0).toInt ≤ (nI 0).toInt) (t4 : (nI 0).toInt ≤ (nI 1).toInt) (e8 : y7 = kisKeptF 0) (c9 : y7 ≠ 0) (j18 : k16 ≤ 373) (hpre : ∀ j9, j9 < k16 → f17 j9 = kkeptF (0 + j9)) (hm22 : 373 - k16 < n20 + 1) (c23 : 373 ≤ k16) : ((nI 1) = nI 1 ∧ (¬ kisKeptF 0 = 0)) ∨ ((nI 1) = nI 0 ∧ (kisKeptF 0 = 0)) := by
  have b_y7 := ia_b y7
  try have k_0 := ia_n 0 (by first | decide | omega)
  try have k_1 := ia_n 1 (by first | decide | omega)
  try simp only [ia_lt, ia_le, ia_eq, ia_m1, ia_0, ia_1, ne_eq, true_and, and_true, false_and, and_false, or_false, false_or, or_true, true_or, not_true_eq_false, not_false_eq_true] at *
  all_goals omega
set_option maxRecDepth 20000 in
theorem lf_x_restore0_2  (t3 : (nI 0).toInt ≤ (nI 0).toInt) (t4 : (nI 0).toInt ≤ (nI 1).toInt) : 0 ≤ 8 := by
  try have k_0 := ia_n 0 (by first | decide | omega)
  try have k_1 := ia_n 1 (by first | decide | omega)
  try simp only [ia_lt, ia_le, ia_eq, ia_m1, ia_0, ia_1, ne_eq, true_and, and_true, false_and, and_false, or_false, false_or, or_true, true_or, not_true_eq_false, not_false_eq_true] at *
  all_goals omega
set_option maxRecDepth 20000 in
theorem lf_x_restore0_3 (kkeptF : Nat → Int32) (kisKeptF : Nat → Int32) (y7 : Int32) (k16 : Nat) (f17 : Nat → Int32) (n20 : Nat) (kb0 : KBf kkeptF kisKeptF 0) (kb1 : KBf kkeptF kisKeptF 1) (t3 : (nI 0).toInt ≤ (nI 0).toInt) (t4 : (nI 0).toInt ≤ (nI 1).toInt) (e8 : y7 = kisKeptF 0) (c9 : y7 ≠ 0) (j18 : k16 ≤ 373) (hpre : ∀ j9, j9 < k16 → f17 j9 = kkeptF (0 + j9)) (hm22 : 373 - k16 < n20 + 1) (c23 : 373 ≤ k16) : NB f17 := by
  exact NB_ext (f := fun j => kkeptF (373 * 0 + j)) (fun j h => (hpre j (by omega)).trans (congrArg kkeptF (by omega))) (kb0 (by rw [← e8]; exact c9)).1
set_option maxRecDepth 20000 in
theorem lf_x_restore0_4 (kkeptF : Nat → Int32) (kisKeptF : Nat → Int32) (y7 : Int32) (k16 : Nat) (f17 : Nat → Int32) (n20 : Nat) (kb0 : KBf kkeptF kisKeptF 0) (kb1 : KBf kkeptF kisKeptF 1) (t3 : (nI 0).toInt ≤ (nI 0).toInt) (t4 : (nI 0).toInt ≤ (nI 1).toInt) (e8 : y7 = kisKeptF 0) (c9 : y7 ≠ 0) (j18 : k16 ≤ 373) (hpre : ∀ j9, j9 < k16 → f17 j9 = kkeptF (0 + j9)) (hm22 : 373 - k16 < n20 + 1) (c23 : 373 ≤ k16) : SB f17 := by
  exact SB_ext (f := fun j => kkeptF (373 * 0 + j)) (fun j h => (hpre j (by omega)).trans (congrArg kkeptF (by omega))) (kb0 (by rw [← e8]; exact c9)).2
set_option maxRecDepth 20000 in
theorem lf_x_restore0_5 (kkeptNameF : Nat → Int64) (k30 : Nat) (n34 : Nat) (y38 : Int64) (t3 : (nI 0).toInt ≤ (nI 0).toInt) (t4 : (nI 0).toInt ≤ (nI 1).toInt) (j32 : k30 ≤ 12) (hm36 : 12 - k30 < n34 + 1) (c37 : k30 < 12) (e39 : y38 = kkeptNameF (0 + k30)) : (0 + k30) < 24 := by
  have b_y38 := Int64.toInt_lt y38
  try have k_0 := ia_n 0 (by first | decide | omega)
  try have k_1 := ia_n 1 (by first | decide | omega)
  try simp only [ia_lt, ia_le, ia_eq, ia_m1, ia_0, ia_1, ne_eq, true_and, and_true, false_and, and_false, or_false, false_or, or_true, true_or, not_true_eq_false, not_false_eq_true] at *
  all_goals omega
set_option maxRecDepth 20000 in
theorem lf_x_restore0_6 (kkeptNameF : Nat → Int64) (k30 : Nat) (n34 : Nat) (y38 : Int64) (t3 : (nI 0).toInt ≤ (nI 0).toInt) (t4 : (nI 0).toInt ≤ (nI 1).toInt) (j32 : k30 ≤ 12) (hm36 : 12 - k30 < n34 + 1) (c37 : k30 < 12) (e39 : y38 = kkeptNameF (0 + k30)) : k30 < 12 := by
  have b_y38 := Int64.toInt_lt y38
  try have k_0 := ia_n 0 (by first | decide | omega)
  try have k_1 := ia_n 1 (by first | decide | omega)
  try simp only [ia_lt, ia_le, ia_eq, ia_m1, ia_0, ia_1, ne_eq, true_and, and_true, false_and, and_false, or_false, false_or, or_true, true_or, not_true_eq_false, not_false_eq_true] at *
  all_goals omega
set_option maxRecDepth 20000 in
theorem lf_x_restore0_7 (kkeptNameF : Nat → Int64) (k30 : Nat) (n34 : Nat) (y38 : Int64) (t3 : (nI 0).toInt ≤ (nI 0).toInt) (t4 : (nI 0).toInt ≤ (nI 1).toInt) (j32 : k30 ≤ 12) (hm36 : 12 - k30 < n34 + 1) (c37 : k30 < 12) (e39 : y38 = kkeptNameF (0 + k30)) : (k30 + 1) ≤ 12 := by
  have b_y38 := Int64.toInt_lt y38
  try have k_0 := ia_n 0 (by first | decide | omega)
  try have k_1 := ia_n 1 (by first | decide | omega)
  try simp only [ia_lt, ia_le, ia_eq, ia_m1, ia_0, ia_1, ne_eq, true_and, and_true, false_and, and_false, or_false, false_or, or_true, true_or, not_true_eq_false, not_false_eq_true] at *
  all_goals omega
set_option maxRecDepth 20000 in
theorem lf_x_restore0_8 (kkeptNameF : Nat → Int64) (k30 : Nat) (n34 : Nat) (y38 : Int64) (t3 : (nI 0).toInt ≤ (nI 0).toInt) (t4 : (nI 0).toInt ≤ (nI 1).toInt) (j32 : k30 ≤ 12) (hm36 : 12 - k30 < n34 + 1) (c37 : k30 < 12) (e39 : y38 = kkeptNameF (0 + k30)) : 12 - (k30 + 1) < n34 := by
  have b_y38 := Int64.toInt_lt y38
  try have k_0 := ia_n 0 (by first | decide | omega)
  try have k_1 := ia_n 1 (by first | decide | omega)
  try simp only [ia_lt, ia_le, ia_eq, ia_m1, ia_0, ia_1, ne_eq, true_and, and_true, false_and, and_false, or_false, false_or, or_true, true_or, not_true_eq_false, not_false_eq_true] at *
  all_goals omega
set_option maxRecDepth 20000 in
theorem lf_x_restore0_9  (t3 : (nI 0).toInt ≤ (nI 0).toInt) (t4 : (nI 0).toInt ≤ (nI 1).toInt) : 0 ≤ 12 := by
  try have k_0 := ia_n 0 (by first | decide | omega)
  try have k_1 := ia_n 1 (by first | decide | omega)
  try simp only [ia_lt, ia_le, ia_eq, ia_m1, ia_0, ia_1, ne_eq, true_and, and_true, false_and, and_false, or_false, false_or, or_true, true_or, not_true_eq_false, not_false_eq_true] at *
  all_goals omega
set_option maxRecDepth 20000 in
theorem lf_x_restore0_10 (kkeptF : Nat → Int32) (kisKeptF : Nat → Int32) (y7 : Int32) (k16 : Nat) (f17 : Nat → Int32) (n20 : Nat) (y42 : Int32) (kb0 : KBf kkeptF kisKeptF 0) (kb1 : KBf kkeptF kisKeptF 1) (t3 : (nI 0).toInt ≤ (nI 0).toInt) (t4 : (nI 0).toInt ≤ (nI 1).toInt) (e8 : y7 = kisKeptF 0) (c9 : y7 ≠ 0) (j18 : k16 ≤ 373) (hpre : ∀ j9, j9 < k16 → f17 j9 = kkeptF (0 + j9)) (hm22 : 373 - k16 < n20 + 1) (c23 : k16 < 373) (e43 : y42 = kkeptF (0 + k16)) : (0 + k16) < 746 := by
  have b_y7 := ia_b y7
  have b_y42 := ia_b y42
  try have k_0 := ia_n 0 (by first | decide | omega)
  try have k_1 := ia_n 1 (by first | decide | omega)
  try simp only [ia_lt, ia_le, ia_eq, ia_m1, ia_0, ia_1, ne_eq, true_and, and_true, false_and, and_false, or_false, false_or, or_true, true_or, not_true_eq_false, not_false_eq_true] at *
  all_goals omega
set_option maxRecDepth 20000 in
theorem lf_x_restore0_11 (kkeptF : Nat → Int32) (kisKeptF : Nat → Int32) (y7 : Int32) (k16 : Nat) (f17 : Nat → Int32) (n20 : Nat) (y42 : Int32) (kb0 : KBf kkeptF kisKeptF 0) (kb1 : KBf kkeptF kisKeptF 1) (t3 : (nI 0).toInt ≤ (nI 0).toInt) (t4 : (nI 0).toInt ≤ (nI 1).toInt) (e8 : y7 = kisKeptF 0) (c9 : y7 ≠ 0) (j18 : k16 ≤ 373) (hpre : ∀ j9, j9 < k16 → f17 j9 = kkeptF (0 + j9)) (hm22 : 373 - k16 < n20 + 1) (c23 : k16 < 373) (e43 : y42 = kkeptF (0 + k16)) : k16 < 373 := by
  have b_y7 := ia_b y7
  have b_y42 := ia_b y42
  try have k_0 := ia_n 0 (by first | decide | omega)
  try have k_1 := ia_n 1 (by first | decide | omega)
  try simp only [ia_lt, ia_le, ia_eq, ia_m1, ia_0, ia_1, ne_eq, true_and, and_true, false_and, and_false, or_false, false_or, or_true, true_or, not_true_eq_false, not_false_eq_true] at *
  all_goals omega
set_option maxRecDepth 20000 in
theorem lf_x_restore0_12 (kkeptF : Nat → Int32) (kisKeptF : Nat → Int32) (y7 : Int32) (k16 : Nat) (f17 : Nat → Int32) (n20 : Nat) (y42 : Int32) (g44 : Nat → Int32) (kb0 : KBf kkeptF kisKeptF 0) (kb1 : KBf kkeptF kisKeptF 1) (t3 : (nI 0).toInt ≤ (nI 0).toInt) (t4 : (nI 0).toInt ≤ (nI 1).toInt) (e8 : y7 = kisKeptF 0) (c9 : y7 ≠ 0) (j18 : k16 ≤ 373) (hpre : ∀ j9, j9 < k16 → f17 j9 = kkeptF (0 + j9)) (hm22 : 373 - k16 < n20 + 1) (c23 : k16 < 373) (e43 : y42 = kkeptF (0 + k16)) (e45 : g44 = upd f17 k16 y42) : (k16 + 1) ≤ 373 := by
  have b_y7 := ia_b y7
  have b_y42 := ia_b y42
  try have k_0 := ia_n 0 (by first | decide | omega)
  try have k_1 := ia_n 1 (by first | decide | omega)
  try simp only [ia_lt, ia_le, ia_eq, ia_m1, ia_0, ia_1, ne_eq, true_and, and_true, false_and, and_false, or_false, false_or, or_true, true_or, not_true_eq_false, not_false_eq_true] at *
  all_goals omega
set_option maxRecDepth 20000 in
theorem lf_x_restore0_13 (kkeptF : Nat → Int32) (kisKeptF : Nat → Int32) (y7 : Int32) (k16 : Nat) (f17 : Nat → Int32) (n20 : Nat) (y42 : Int32) (g44 : Nat → Int32) (kb0 : KBf kkeptF kisKeptF 0) (kb1 : KBf kkeptF kisKeptF 1) (t3 : (nI 0).toInt ≤ (nI 0).toInt) (t4 : (nI 0).toInt ≤ (nI 1).toInt) (e8 : y7 = kisKeptF 0) (c9 : y7 ≠ 0) (j18 : k16 ≤ 373) (hpre : ∀ j9, j9 < k16 → f17 j9 = kkeptF (0 + j9)) (hm22 : 373 - k16 < n20 + 1) (c23 : k16 < 373) (e43 : y42 = kkeptF (0 + k16)) (e45 : g44 = upd f17 k16 y42) : ∀ j9, j9 < (k16 + 1) → g44 j9 = kkeptF (0 + j9) := by
  intro j9 hj9
  by_cases h9 : j9 = k16
  · rw [h9, e45, upd_eq]; exact e43
  · rw [e45, upd_ne (by omega)]; exact hpre j9 (by omega)
set_option maxRecDepth 20000 in
theorem lf_x_restore0_14 (kkeptF : Nat → Int32) (kisKeptF : Nat → Int32) (y7 : Int32) (k16 : Nat) (f17 : Nat → Int32) (n20 : Nat) (y42 : Int32) (g44 : Nat → Int32) (kb0 : KBf kkeptF kisKeptF 0) (kb1 : KBf kkeptF kisKeptF 1) (t3 : (nI 0).toInt ≤ (nI 0).toInt) (t4 : (nI 0).toInt ≤ (nI 1).toInt) (e8 : y7 = kisKeptF 0) (c9 : y7 ≠ 0) (j18 : k16 ≤ 373) (hpre : ∀ j9, j9 < k16 → f17 j9 = kkeptF (0 + j9)) (hm22 : 373 - k16 < n20 + 1) (c23 : k16 < 373) (e43 : y42 = kkeptF (0 + k16)) (e45 : g44 = upd f17 k16 y42) : 373 - (k16 + 1) < n20 := by
  have b_y7 := ia_b y7
  have b_y42 := ia_b y42
  try have k_0 := ia_n 0 (by first | decide | omega)
  try have k_1 := ia_n 1 (by first | decide | omega)
  try simp only [ia_lt, ia_le, ia_eq, ia_m1, ia_0, ia_1, ne_eq, true_and, and_true, false_and, and_false, or_false, false_or, or_true, true_or, not_true_eq_false, not_false_eq_true] at *
  all_goals omega
set_option maxRecDepth 20000 in
theorem lf_x_restore0_15  (t3 : (nI 0).toInt ≤ (nI 0).toInt) (t4 : (nI 0).toInt ≤ (nI 1).toInt) : 0 ≤ 373 := by
  try have k_0 := ia_n 0 (by first | decide | omega)
  try have k_1 := ia_n 1 (by first | decide | omega)
  try simp only [ia_lt, ia_le, ia_eq, ia_m1, ia_0, ia_1, ne_eq, true_and, and_true, false_and, and_false, or_false, false_or, or_true, true_or, not_true_eq_false, not_false_eq_true] at *
  all_goals omega
set_option maxRecDepth 20000 in
theorem lf_x_restore0_16 (knowF : Nat → Int32) (kkeptF : Nat → Int32) (kisKeptF : Nat → Int32) (y7 : Int32) (ab_now : NB knowF) (sb_now : SB knowF) (kb0 : KBf kkeptF kisKeptF 0) (kb1 : KBf kkeptF kisKeptF 1) (t3 : (nI 0).toInt ≤ (nI 0).toInt) (t4 : (nI 0).toInt ≤ (nI 1).toInt) (e8 : y7 = kisKeptF 0) (c9 : y7 ≠ 0) : ∀ j9, j9 < 0 → knowF j9 = kkeptF (0 + j9) := by
  intro j9 hj9
  omega
set_option maxRecDepth 20000 in
theorem lf_x_restore0_17 (kkeptF : Nat → Int32) (kisKeptF : Nat → Int32) (y7 : Int32) (kb0 : KBf kkeptF kisKeptF 0) (kb1 : KBf kkeptF kisKeptF 1) (t3 : (nI 0).toInt ≤ (nI 0).toInt) (t4 : (nI 0).toInt ≤ (nI 1).toInt) (e8 : y7 = kisKeptF 0) (c9 : y7 = 0) : ((nI 0) = nI 1 ∧ (¬ kisKeptF 0 = 0)) ∨ ((nI 0) = nI 0 ∧ (kisKeptF 0 = 0)) := by
  have b_y7 := ia_b y7
  try have k_0 := ia_n 0 (by first | decide | omega)
  try have k_1 := ia_n 1 (by first | decide | omega)
  try simp only [ia_lt, ia_le, ia_eq, ia_m1, ia_0, ia_1, ne_eq, true_and, and_true, false_and, and_false, or_false, false_or, or_true, true_or, not_true_eq_false, not_false_eq_true] at *
  all_goals omega
set_option maxRecDepth 20000 in
theorem lf_x_restore0_18 (kkeptF : Nat → Int32) (kisKeptF : Nat → Int32) (kb0 : KBf kkeptF kisKeptF 0) (kb1 : KBf kkeptF kisKeptF 1) (t5 : ¬ ((nI 0).toInt ≤ (nI 0).toInt ∧ (nI 0).toInt ≤ (nI 1).toInt)) : ((nI 0) = nI 1 ∧ (¬ kisKeptF 0 = 0)) ∨ ((nI 0) = nI 0 ∧ (kisKeptF 0 = 0)) := by
  try have k_0 := ia_n 0 (by first | decide | omega)
  try have k_1 := ia_n 1 (by first | decide | omega)
  try simp only [ia_lt, ia_le, ia_eq, ia_m1, ia_0, ia_1, ne_eq, true_and, and_true, false_and, and_false, or_false, false_or, or_true, true_or, not_true_eq_false, not_false_eq_true] at *
  all_goals omega
set_option maxHeartbeats 4000000 in
set_option maxRecDepth 100000 in
theorem c_x_restore0 (l : Launch) (dC : Nat → ClassId) (dI : Nat → Nat → Nat) (ky : Nat → ClassId) (sz : Nat) (o : Nat) (kthrown : Int32) (ktape : Nat) (ktaped : Nat) (ksize : Nat) (klimit : Nat) (kto : Nat) (kfrom : Nat) (kkind : Int32) (knumber : Int32) (ksign : Int32) (kfault : Int32) (kplace : Int32) (kword : Int64) (ktold : Int32) (know : Nat) (kread : Nat) (kkept : Nat) (ksnaps : Nat) (kaside : Nat) (kname : Nat) (kreadName : Nat) (kkeptName : Nat) (kisKept : Nat) (konces : Nat) (ksnapMany : Nat) (khasCells : Int32) (kpoured : Nat) (kfar : Nat) (ksides : Nat) (ksideMany : Nat) (kwayDays : Int32) (khasWay : Int32) (klines : Nat) (kmet : Nat) (kmetMany : Nat) (ksunk : Nat) (ktrying : Nat) (ksunkMany : Nat) (ksending : Int32) (kfleets : Int32) (ktext : Nat) (ktexts : Nat) (kseed : Int32) (kline : Nat) (kwritten : Nat) (klineMany : Nat) (khasWritten : Int32) (knode : Nat) (knodes : Nat) (konesMany : Nat) (kwithin : Nat) (ktop : Nat) (knowF : Nat → Int32) (knameF : Nat → Int64) (kkeptF : Nat → Int32) (kkeptNameF : Nat → Int64) (kisKeptF : Nat → Int32) (iv_ko_0 : ktaped ≤ 940) (iv_ko_1 : ksize ≤ 940) (iv_ko_2 : klimit ≤ 900) (iv_ko_3 : kto ≤ ksize) (iv_ko_4 : kfrom ≤ 940) (iv_ko_5 : ksnapMany ≤ 8) (iv_ko_6 : ksideMany ≤ 36) (iv_ko_7 : kmetMany ≤ 3) (iv_ko_8 : ksunkMany ≤ 36) (iv_ko_9 : ktexts ≤ 64) (iv_ko_10 : klineMany ≤ 40) (iv_ko_11 : knodes ≤ 60) (iv_ko_12 : konesMany ≤ 20) (iv_ko_13 : kwithin ≤ 8) (iv_ko_14 : ktop ≤ 59) (ab_now : NB knowF) (sb_now : SB knowF) (kb0 : KBf kkeptF kisKeptF 0) (kb1 : KBf kkeptF kisKeptF 1) : Met l yX12_restore wsX12_restore ({ frames := 1, cells := 0, slots := 0, locals := 22 }) (PcU dC dI ky [.ref o, .int (nI 0)] [(o, .inr (12, [.int kthrown, .ref ktape, .int (nI ktaped), .int (nI ksize), .int (nI klimit), .int (nI kto), .int (nI kfrom), .int kkind, .int knumber, .int ksign, .int kfault, .int kplace, .long kword, .int ktold, .ref know, .ref kread, .ref kkept, .ref ksnaps, .ref kaside, .ref kname, .ref kreadName, .ref kkeptName, .ref kisKept, .ref konces, .int (nI ksnapMany), .int khasCells, .ref kpoured, .ref kfar, .ref ksides, .int (nI ksideMany), .int kwayDays, .int khasWay, .ref klines, .ref kmet, .int (nI kmetMany), .ref ksunk, .ref ktrying, .int (nI ksunkMany), .int ksending, .int kfleets, .ref ktext, .int (nI ktexts), .int kseed, .ref kline, .ref kwritten, .int (nI klineMany), .int khasWritten, .ref knode, .int (nI knodes), .int (nI konesMany), .int (nI kwithin), .int (nI ktop)])), (know, .inl (ky 0, 373, .inl knowF)), (kname, .inl (ky 1, 12, .inr (.inl knameF))), (kkept, .inl (ky 0, 746, .inl kkeptF)), (kkeptName, .inl (ky 1, 24, .inr (.inl kkeptNameF))), (kisKept, .inl (ky 3, 2, .inl kisKeptF))] sz) (va_Qi (fun (r : Int32) (u : Int32 × Nat × (Nat → Int32) × (Nat → Int64)) => match u with | (kthrownG, ksnapManyG, knowG, knameG) => ((r = nI 1 ∧ (¬ kisKeptF 0 = 0)) ∨ (r = nI 0 ∧ (kisKeptF 0 = 0))) ∧ (ksnapManyG ≤ 8) ∧ (NB knowG) ∧ (SB knowG)) (BU dC dI ky (fun (u : Int32 × Nat × (Nat → Int32) × (Nat → Int64)) => match u with | (kthrownG, ksnapManyG, knowG, knameG) => [(o, .inr (12, [.int kthrownG, .ref ktape, .int (nI ktaped), .int (nI ksize), .int (nI klimit), .int (nI kto), .int (nI kfrom), .int kkind, .int knumber, .int ksign, .int kfault, .int kplace, .long kword, .int ktold, .ref know, .ref kread, .ref kkept, .ref ksnaps, .ref kaside, .ref kname, .ref kreadName, .ref kkeptName, .ref kisKept, .ref konces, .int (nI ksnapManyG), .int khasCells, .ref kpoured, .ref kfar, .ref ksides, .int (nI ksideMany), .int kwayDays, .int khasWay, .ref klines, .ref kmet, .int (nI kmetMany), .ref ksunk, .ref ktrying, .int (nI ksunkMany), .int ksending, .int kfleets, .ref ktext, .int (nI ktexts), .int kseed, .ref kline, .ref kwritten, .int (nI klineMany), .int khasWritten, .ref knode, .int (nI knodes), .int (nI konesMany), .int (nI kwithin), .int (nI ktop)])), (know, .inl (ky 0, 373, .inl knowG)), (kname, .inl (ky 1, 12, .inr (.inl knameG))), (kkept, .inl (ky 0, 746, .inl kkeptF)), (kkeptName, .inl (ky 1, 24, .inr (.inl kkeptNameF))), (kisKept, .inl (ky 3, 2, .inl kisKeptF))]) (va_A [(o, .inr (12, [.int kthrown, .ref ktape, .int (nI ktaped), .int (nI ksize), .int (nI klimit), .int (nI kto), .int (nI kfrom), .int kkind, .int knumber, .int ksign, .int kfault, .int kplace, .long kword, .int ktold, .ref know, .ref kread, .ref kkept, .ref ksnaps, .ref kaside, .ref kname, .ref kreadName, .ref kkeptName, .ref kisKept, .ref konces, .int (nI ksnapMany), .int khasCells, .ref kpoured, .ref kfar, .ref ksides, .int (nI ksideMany), .int kwayDays, .int khasWay, .ref klines, .ref kmet, .int (nI kmetMany), .ref ksunk, .ref ktrying, .int (nI ksunkMany), .int ksending, .int kfleets, .ref ktext, .int (nI ktexts), .int kseed, .ref kline, .ref kwritten, .int (nI klineMany), .int khasWritten, .ref knode, .int (nI knodes), .int (nI konesMany), .int (nI kwithin), .int (nI ktop)])), (know, .inl (ky 0, 373, .inl knowF)), (kname, .inl (ky 1, 12, .inr (.inl knameF))), (kkept, .inl (ky 0, 746, .inl kkeptF)), (kkeptName, .inl (ky 1, 24, .inr (.inl kkeptNameF))), (kisKept, .inl (ky 3, 2, .inl kisKeptF))] sz)) (va_A [(o, .inr (12, [.int kthrown, .ref ktape, .int (nI ktaped), .int (nI ksize), .int (nI klimit), .int (nI kto), .int (nI kfrom), .int kkind, .int knumber, .int ksign, .int kfault, .int kplace, .long kword, .int ktold, .ref know, .ref kread, .ref kkept, .ref ksnaps, .ref kaside, .ref kname, .ref kreadName, .ref kkeptName, .ref kisKept, .ref konces, .int (nI ksnapMany), .int khasCells, .ref kpoured, .ref kfar, .ref ksides, .int (nI ksideMany), .int kwayDays, .int khasWay, .ref klines, .ref kmet, .int (nI kmetMany), .ref ksunk, .ref ktrying, .int (nI ksunkMany), .int ksending, .int kfleets, .ref ktext, .int (nI ktexts), .int kseed, .ref kline, .ref kwritten, .int (nI klineMany), .int khasWritten, .ref knode, .int (nI knodes), .int (nI konesMany), .int (nI kwithin), .int (nI ktop)])), (know, .inl (ky 0, 373, .inl knowF)), (kname, .inl (ky 1, 12, .inr (.inl knameF))), (kkept, .inl (ky 0, 746, .inl kkeptF)), (kkeptName, .inl (ky 1, 24, .inr (.inl kkeptNameF))), (kisKept, .inl (ky 3, 2, .inl kisKeptF))] sz)) 0 0 (va_A [(o, .inr (12, [.int kthrown, .ref ktape, .int (nI ktaped), .int (nI ksize), .int (nI klimit), .int (nI kto), .int (nI kfrom), .int kkind, .int knumber, .int ksign, .int kfault, .int kplace, .long kword, .int ktold, .ref know, .ref kread, .ref kkept, .ref ksnaps, .ref kaside, .ref kname, .ref kreadName, .ref kkeptName, .ref kisKept, .ref konces, .int (nI ksnapMany), .int khasCells, .ref kpoured, .ref kfar, .ref ksides, .int (nI ksideMany), .int kwayDays, .int khasWay, .ref klines, .ref kmet, .int (nI kmetMany), .ref ksunk, .ref ktrying, .int (nI ksunkMany), .int ksending, .int kfleets, .ref ktext, .int (nI ktexts), .int kseed, .ref kline, .ref kwritten, .int (nI klineMany), .int khasWritten, .ref knode, .int (nI knodes), .int (nI konesMany), .int (nI kwithin), .int (nI ktop)])), (know, .inl (ky 0, 373, .inl knowF)), (kname, .inl (ky 1, 12, .inr (.inl knameF))), (kkept, .inl (ky 0, 746, .inl kkeptF)), (kkeptName, .inl (ky 1, 24, .inr (.inl kkeptNameF))), (kisKept, .inl (ky 3, 2, .inl kisKeptF))] sz) := by
  refine Met.ofW (cc := cX12_restore) (maxL := 3) (ret := (some .boolean)) (by decide) rfl ?_
  intro p e s m args below meth c s₁ B hml hv
  obtain ⟨rfl, hsz, hP, hK, hD0⟩ := hv
  have hx := B.exec
  have hb := B.bytes
  have hr := B.returns
  have hts := atoms_spec (ws := wsX12_restore) B.pre
  have hown : s.vm.findClass RX12 = some m.cls := findClass_of_methodNamed B.named
  have hlocks := B.notSynchronized
  have hin12 : ∀ w ∈ u_ws RX12 TX12 52, w ∈ wsX12_restore := by decide +kernel
  subst hsz
  have hD := hD0.self (sz := s.heap.size)
  generalize hAe : va_A [(o, .inr (12, [.int kthrown, .ref ktape, .int (nI ktaped), .int (nI ksize), .int (nI klimit), .int (nI kto), .int (nI kfrom), .int kkind, .int knumber, .int ksign, .int kfault, .int kplace, .long kword, .int ktold, .ref know, .ref kread, .ref kkept, .ref ksnaps, .ref kaside, .ref kname, .ref kreadName, .ref kkeptName, .ref kisKept, .ref konces, .int (nI ksnapMany), .int khasCells, .ref kpoured, .ref kfar, .ref ksides, .int (nI ksideMany), .int kwayDays, .int khasWay, .ref klines, .ref kmet, .int (nI kmetMany), .ref ksunk, .ref ktrying, .int (nI ksunkMany), .int ksending, .int kfleets, .ref ktext, .int (nI ktexts), .int kseed, .ref kline, .ref kwritten, .int (nI klineMany), .int khasWritten, .ref knode, .int (nI knodes), .int (nI konesMany), .int (nI kwithin), .int (nI ktop)])), (know, .inl (ky 0, 373, .inl knowF)), (kname, .inl (ky 1, 12, .inr (.inl knameF))), (kkept, .inl (ky 0, 746, .inl kkeptF)), (kkeptName, .inl (ky 1, 24, .inr (.inl kkeptNameF))), (kisKept, .inl (ky 3, 2, .inl kisKeptF))] s.heap.size = A at hD ⊢
  have hA : ∀ q : Nat, s.heap.size ≤ q → A q := fun q h => by rw [← hAe]; exact Or.inr h
  have hS : va_S A s.heap s.heap [] := va_S.rf
  have hl := lv_entry ([.ref o, .int (nI 0)]) (n := 3) (Nat.le_of_ble_eq_true rfl)
  rw [lg_entry_eq]
  generalize (lg_sl ([.ref o, .int (nI 0)]) ++ List.replicate (3 - (lg_sl ([.ref o, .int (nI 0)])).length) Slot.unset).toArray = ls at hl ⊢
  have hl : lv_has ls 3 [(0, .ref o), (1, .int (nI 0))] := hl
  refine q_name (fun Q hQ => ?_)
  generalize ([.ref o, .int (nI 0)] : List Value).toArray = args at hts hQ ⊢
  refine lv_aload_n hx hb dX12_restore_0 rfl (lv_at hl 0 rfl) ?_
  refine lv_iconst (v := nI 0) hx hb dX12_restore_1 (by decide) ?_
  refine va_put (D := (dC, dI)) (ci := 12) (v := .int (nI 0)) (ty := .int) (C := RX12) (T := TX12) (N := 52) hx hb hts hin12 tyX12 tyX12_ok nmX12 hown hK hP hD hS 0 rfl rfl 0 (by decide) (hts (.fieldLink RX12 1 "PorridgeSeaModel" "thrown" "I") (List.mem_of_getElem? (i := 1) rfl)) (fun _ h9 => h9) rfl (by decide +kernel) rfl rfl (Nat.le_of_ble_eq_true rfl) dX12_restore_2 (fun H locs hP hD hS => ?_)
  have hP : va_P (dC, dI) vwCl [(o, .inr (12, [.int (nI 0), .ref ktape, .int (nI ktaped), .int (nI ksize), .int (nI klimit), .int (nI kto), .int (nI kfrom), .int kkind, .int knumber, .int ksign, .int kfault, .int kplace, .long kword, .int ktold, .ref know, .ref kread, .ref kkept, .ref ksnaps, .ref kaside, .ref kname, .ref kreadName, .ref kkeptName, .ref kisKept, .ref konces, .int (nI ksnapMany), .int khasCells, .ref kpoured, .ref kfar, .ref ksides, .int (nI ksideMany), .int kwayDays, .int khasWay, .ref klines, .ref kmet, .int (nI kmetMany), .ref ksunk, .ref ktrying, .int (nI ksunkMany), .int ksending, .int kfleets, .ref ktext, .int (nI ktexts), .int kseed, .ref kline, .ref kwritten, .int (nI klineMany), .int khasWritten, .ref knode, .int (nI knodes), .int (nI konesMany), .int (nI kwithin), .int (nI ktop)])), (know, .inl (ky 0, 373, .inl knowF)), (kname, .inl (ky 1, 12, .inr (.inl knameF))), (kkept, .inl (ky 0, 746, .inl kkeptF)), (kkeptName, .inl (ky 1, 24, .inr (.inl kkeptNameF))), (kisKept, .inl (ky 3, 2, .inl kisKeptF))] H := hP
  have hD : va_D A [(o, .inr (12, [.int (nI 0), .ref ktape, .int (nI ktaped), .int (nI ksize), .int (nI klimit), .int (nI kto), .int (nI kfrom), .int kkind, .int knumber, .int ksign, .int kfault, .int kplace, .long kword, .int ktold, .ref know, .ref kread, .ref kkept, .ref ksnaps, .ref kaside, .ref kname, .ref kreadName, .ref kkeptName, .ref kisKept, .ref konces, .int (nI ksnapMany), .int khasCells, .ref kpoured, .ref kfar, .ref ksides, .int (nI ksideMany), .int kwayDays, .int khasWay, .ref klines, .ref kmet, .int (nI kmetMany), .ref ksunk, .ref ktrying, .int (nI ksunkMany), .int ksending, .int kfleets, .ref ktext, .int (nI ktexts), .int kseed, .ref kline, .ref kwritten, .int (nI klineMany), .int khasWritten, .ref knode, .int (nI knodes), .int (nI konesMany), .int (nI kwithin), .int (nI ktop)])), (know, .inl (ky 0, 373, .inl knowF)), (kname, .inl (ky 1, 12, .inr (.inl knameF))), (kkept, .inl (ky 0, 746, .inl kkeptF)), (kkeptName, .inl (ky 1, 24, .inr (.inl kkeptNameF))), (kisKept, .inl (ky 3, 2, .inl kisKeptF))] := hD
  refine lv_iload_n hx hb dX12_restore_5 rfl (lv_at hl 1 rfl) ?_
  refine lv_iconst (v := nI 0) hx hb dX12_restore_6 (by decide) ?_
  refine lv_iconst (v := nI 1) hx hb dX12_restore_7 (by decide) ?_
  refine vp_callSi (W.runS (As := [.int (nI 0), .int (nI 0), .int (nI 1)]) (rest := []) ⟨hx, hb, hml, hown, hts⟩ (c_x_isIn l dC dI ky (nI 0) (nI 0) (nI 1)) (va_cwS 3 hts gX12_restore_X12_isIn rfl rfl rfl (by decide +kernel) ⟨(Nat.le_of_ble_eq_true rfl), (Nat.le_of_ble_eq_true rfl)⟩) (pre_PS hK hP [] rfl) rfl rfl hl.1 rfl (lv_room (Nat.le_of_ble_eq_true rfl)) dX12_restore_8 ⟨(Nat.le_of_ble_eq_true rfl), (Nat.le_of_ble_eq_true rfl)⟩) (fun r1 p2 => ?_)
  rcases p2 with ⟨rfl, t3, t4⟩ | ⟨rfl, t5⟩
  · refine lv_if_eq (tgt := 23) hx hb dX12_restore_11 (by decide) (fun c6 => absurd c6 (by decide)) (fun c6 => ?_)
    refine lv_aload_n hx hb dX12_restore_14 rfl (lv_at hl 0 rfl) ?_
    refine va_get (D := (dC, dI)) (ci := 12) (v := .ref kisKept) (C := RX12) (T := TX12) (N := 52) hx hb hts hin12 hown hK hP 0 rfl rfl 22 (by decide) (hts (.fieldLink RX12 123 "PorridgeSeaModel" "isKept" "[Z") (List.mem_of_getElem? (i := 2) rfl)) (fun _ h9 => h9) rfl dX12_restore_15 ?_
    refine lv_iload_n hx hb dX12_restore_18 rfl (lv_at hl 1 rfl) ?_
    obtain ⟨y7, e8⟩ : ∃ z9, z9 = kisKeptF 0 := ⟨_, rfl⟩
    refine r_zald hx hb hK hP 5 rfl 0 (by decide) (by decide) y7 e8.symm dX12_restore_19 ?_
    refine lv_if_ne (tgt := 25) hx hb dX12_restore_20 (by decide) (fun c9 => ?_) (fun c9 => ?_)
    · refine lv_iconst (v := nI 0) hx hb dX12_restore_25 (by decide) ?_
      refine lv_istore_n (lv' := [(2, .int (nI 0)), (0, .ref o), (1, .int (nI 0))]) hx hb dX12_restore_26 rfl hl (by decide) rfl (fun ls hl => ?_)
      have hL19 : ∀ (n20 : Nat) (k16 : Nat) (f17 : Nat → Int32), (k16 ≤ 373) → (∀ j9, j9 < k16 → f17 j9 = kkeptF (0 + j9)) → 373 - k16 < n20 → ∀ (H : Heap) (locs : List Loc) (ls : Array Slot), va_P (dC, dI) vwCl [(o, .inr (12, [.int (nI 0), .ref ktape, .int (nI ktaped), .int (nI ksize), .int (nI klimit), .int (nI kto), .int (nI kfrom), .int kkind, .int knumber, .int ksign, .int kfault, .int kplace, .long kword, .int ktold, .ref know, .ref kread, .ref kkept, .ref ksnaps, .ref kaside, .ref kname, .ref kreadName, .ref kkeptName, .ref kisKept, .ref konces, .int (nI ksnapMany), .int khasCells, .ref kpoured, .ref kfar, .ref ksides, .int (nI ksideMany), .int kwayDays, .int khasWay, .ref klines, .ref kmet, .int (nI kmetMany), .ref ksunk, .ref ktrying, .int (nI ksunkMany), .int ksending, .int kfleets, .ref ktext, .int (nI ktexts), .int kseed, .ref kline, .ref kwritten, .int (nI klineMany), .int khasWritten, .ref knode, .int (nI knodes), .int (nI konesMany), .int (nI kwithin), .int (nI ktop)])), (know, .inl (ky 0, 373, .inl f17)), (kname, .inl (ky 1, 12, .inr (.inl knameF))), (kkept, .inl (ky 0, 746, .inl kkeptF)), (kkeptName, .inl (ky 1, 24, .inr (.inl kkeptNameF))), (kisKept, .inl (ky 3, 2, .inl kisKeptF))] H → va_D A [(o, .inr (12, [.int (nI 0), .ref ktape, .int (nI ktaped), .int (nI ksize), .int (nI klimit), .int (nI kto), .int (nI kfrom), .int kkind, .int knumber, .int ksign, .int kfault, .int kplace, .long kword, .int ktold, .ref know, .ref kread, .ref kkept, .ref ksnaps, .ref kaside, .ref kname, .ref kreadName, .ref kkeptName, .ref kisKept, .ref konces, .int (nI ksnapMany), .int khasCells, .ref kpoured, .ref kfar, .ref ksides, .int (nI ksideMany), .int kwayDays, .int khasWay, .ref klines, .ref kmet, .int (nI kmetMany), .ref ksunk, .ref ktrying, .int (nI ksunkMany), .int ksending, .int kfleets, .ref ktext, .int (nI ktexts), .int kseed, .ref kline, .ref kwritten, .int (nI klineMany), .int khasWritten, .ref knode, .int (nI knodes), .int (nI konesMany), .int (nI kwithin), .int (nI ktop)])), (know, .inl (ky 0, 373, .inl f17)), (kname, .inl (ky 1, 12, .inr (.inl knameF))), (kkept, .inl (ky 0, 746, .inl kkeptF)), (kkeptName, .inl (ky 1, 24, .inr (.inl kkeptNameF))), (kisKept, .inl (ky 3, 2, .inl kisKeptF))] → va_S A s.heap H locs → lv_has ls 3 [(2, .int (nI k16)), (0, .ref o), (1, .int (nI 0))] → W p l e (headSpec wsX12_restore ({ frames := 1, cells := 0, slots := 0, locals := 22 })).room s m args below meth c H locs 0 0 Q (F0 m 27 ls []) := by
        intro n20
        induction n20 with
        | zero => intro k16 f17 _ _ h9; exact absurd h9 (Nat.not_lt_zero _)
        | succ n20 ih21 =>
          intro k16 f17 j18 hpre hm22 H locs ls hP hD hS hl
          refine lv_iload_n hx hb dX12_restore_27 rfl (lv_at hl 0 rfl) ?_
          refine lv_sipush (v := nI 373) hx hb dX12_restore_28 (by decide) ?_
          refine n_icmp_ge (x := k16) (y := 373) (tgt := 58) hx hb (by omega) (by omega) dX12_restore_31 (by decide) (fun c23 => ?_) (fun c23 => ?_)
          · refine lv_iconst (v := nI 0) hx hb dX12_restore_58 (by decide) ?_
            refine lv_istore_n (lv' := [(2, .int (nI 0)), (0, .ref o), (1, .int (nI 0))]) hx hb dX12_restore_59 rfl hl (by decide) rfl (fun ls hl => ?_)
            have hL33 : ∀ (n34 : Nat) (k30 : Nat) (f31 : Nat → Int64), (k30 ≤ 12) → 12 - k30 < n34 → ∀ (H : Heap) (locs : List Loc) (ls : Array Slot), va_P (dC, dI) vwCl [(o, .inr (12, [.int (nI 0), .ref ktape, .int (nI ktaped), .int (nI ksize), .int (nI klimit), .int (nI kto), .int (nI kfrom), .int kkind, .int knumber, .int ksign, .int kfault, .int kplace, .long kword, .int ktold, .ref know, .ref kread, .ref kkept, .ref ksnaps, .ref kaside, .ref kname, .ref kreadName, .ref kkeptName, .ref kisKept, .ref konces, .int (nI ksnapMany), .int khasCells, .ref kpoured, .ref kfar, .ref ksides, .int (nI ksideMany), .int kwayDays, .int khasWay, .ref klines, .ref kmet, .int (nI kmetMany), .ref ksunk, .ref ktrying, .int (nI ksunkMany), .int ksending, .int kfleets, .ref ktext, .int (nI ktexts), .int kseed, .ref kline, .ref kwritten, .int (nI klineMany), .int khasWritten, .ref knode, .int (nI knodes), .int (nI konesMany), .int (nI kwithin), .int (nI ktop)])), (know, .inl (ky 0, 373, .inl f17)), (kname, .inl (ky 1, 12, .inr (.inl f31))), (kkept, .inl (ky 0, 746, .inl kkeptF)), (kkeptName, .inl (ky 1, 24, .inr (.inl kkeptNameF))), (kisKept, .inl (ky 3, 2, .inl kisKeptF))] H → va_D A [(o, .inr (12, [.int (nI 0), .ref ktape, .int (nI ktaped), .int (nI ksize), .int (nI klimit), .int (nI kto), .int (nI kfrom), .int kkind, .int knumber, .int ksign, .int kfault, .int kplace, .long kword, .int ktold, .ref know, .ref kread, .ref kkept, .ref ksnaps, .ref kaside, .ref kname, .ref kreadName, .ref kkeptName, .ref kisKept, .ref konces, .int (nI ksnapMany), .int khasCells, .ref kpoured, .ref kfar, .ref ksides, .int (nI ksideMany), .int kwayDays, .int khasWay, .ref klines, .ref kmet, .int (nI kmetMany), .ref ksunk, .ref ktrying, .int (nI ksunkMany), .int ksending, .int kfleets, .ref ktext, .int (nI ktexts), .int kseed, .ref kline, .ref kwritten, .int (nI klineMany), .int khasWritten, .ref knode, .int (nI knodes), .int (nI konesMany), .int (nI kwithin), .int (nI ktop)])), (know, .inl (ky 0, 373, .inl f17)), (kname, .inl (ky 1, 12, .inr (.inl f31))), (kkept, .inl (ky 0, 746, .inl kkeptF)), (kkeptName, .inl (ky 1, 24, .inr (.inl kkeptNameF))), (kisKept, .inl (ky 3, 2, .inl kisKeptF))] → va_S A s.heap H locs → lv_has ls 3 [(2, .int (nI k30)), (0, .ref o), (1, .int (nI 0))] → W p l e (headSpec wsX12_restore ({ frames := 1, cells := 0, slots := 0, locals := 22 })).room s m args below meth c H locs 0 0 Q (F0 m 60 ls []) := by
              intro n34
              induction n34 with
              | zero => intro k30 f31 _ h9; exact absurd h9 (Nat.not_lt_zero _)
              | succ n34 ih35 =>
                intro k30 f31 j32 hm36 H locs ls hP hD hS hl
                refine lv_iload_n hx hb dX12_restore_60 rfl (lv_at hl 0 rfl) ?_
                refine lv_bipush (v := nI 12) hx hb dX12_restore_61 (by decide) ?_
                refine n_icmp_ge (x := k30) (y := 12) (tgt := 89) hx hb (by omega) (by omega) dX12_restore_63 (by decide) (fun c37 => ?_) (fun c37 => ?_)
                · refine lv_aload_n hx hb dX12_restore_89 rfl (lv_at hl 1 rfl) ?_
                  refine lv_iconst (v := nI 0) hx hb dX12_restore_90 (by decide) ?_
                  refine va_put (D := (dC, dI)) (ci := 12) (v := .int (nI 0)) (ty := .int) (C := RX12) (T := TX12) (N := 52) hx hb hts hin12 tyX12 tyX12_ok nmX12 hown hK hP hD hS 0 rfl rfl 24 (by decide) (hts (.fieldLink RX12 237 "PorridgeSeaModel" "snapMany" "I") (List.mem_of_getElem? (i := 7) rfl)) (fun _ h9 => h9) rfl (by decide +kernel) rfl rfl (Nat.le_of_ble_eq_true rfl) dX12_restore_91 (fun H locs hP hD hS => ?_)
                  have hP : va_P (dC, dI) vwCl [(o, .inr (12, [.int (nI 0), .ref ktape, .int (nI ktaped), .int (nI ksize), .int (nI klimit), .int (nI kto), .int (nI kfrom), .int kkind, .int knumber, .int ksign, .int kfault, .int kplace, .long kword, .int ktold, .ref know, .ref kread, .ref kkept, .ref ksnaps, .ref kaside, .ref kname, .ref kreadName, .ref kkeptName, .ref kisKept, .ref konces, .int (nI 0), .int khasCells, .ref kpoured, .ref kfar, .ref ksides, .int (nI ksideMany), .int kwayDays, .int khasWay, .ref klines, .ref kmet, .int (nI kmetMany), .ref ksunk, .ref ktrying, .int (nI ksunkMany), .int ksending, .int kfleets, .ref ktext, .int (nI ktexts), .int kseed, .ref kline, .ref kwritten, .int (nI klineMany), .int khasWritten, .ref knode, .int (nI knodes), .int (nI konesMany), .int (nI kwithin), .int (nI ktop)])), (know, .inl (ky 0, 373, .inl f17)), (kname, .inl (ky 1, 12, .inr (.inl f31))), (kkept, .inl (ky 0, 746, .inl kkeptF)), (kkeptName, .inl (ky 1, 24, .inr (.inl kkeptNameF))), (kisKept, .inl (ky 3, 2, .inl kisKeptF))] H := hP
                  have hD : va_D A [(o, .inr (12, [.int (nI 0), .ref ktape, .int (nI ktaped), .int (nI ksize), .int (nI klimit), .int (nI kto), .int (nI kfrom), .int kkind, .int knumber, .int ksign, .int kfault, .int kplace, .long kword, .int ktold, .ref know, .ref kread, .ref kkept, .ref ksnaps, .ref kaside, .ref kname, .ref kreadName, .ref kkeptName, .ref kisKept, .ref konces, .int (nI 0), .int khasCells, .ref kpoured, .ref kfar, .ref ksides, .int (nI ksideMany), .int kwayDays, .int khasWay, .ref klines, .ref kmet, .int (nI kmetMany), .ref ksunk, .ref ktrying, .int (nI ksunkMany), .int ksending, .int kfleets, .ref ktext, .int (nI ktexts), .int kseed, .ref kline, .ref kwritten, .int (nI klineMany), .int khasWritten, .ref knode, .int (nI knodes), .int (nI konesMany), .int (nI kwithin), .int (nI ktop)])), (know, .inl (ky 0, 373, .inl f17)), (kname, .inl (ky 1, 12, .inr (.inl f31))), (kkept, .inl (ky 0, 746, .inl kkeptF)), (kkeptName, .inl (ky 1, 24, .inr (.inl kkeptNameF))), (kisKept, .inl (ky 3, 2, .inl kisKeptF))] := hD
                  refine lv_iconst (v := nI 1) hx hb dX12_restore_94 (by decide) ?_
                  rw [hQ]
                  exact W.zret (v := nI 1) hx hb hr (by decide) (fun t9 ht9 hW9 => ⟨⟨nI 1, (nI 0, 0, f17, f31), rfl, ⟨(lf_x_restore0_1 kkeptF kisKeptF y7 k16 f17 n20 kb0 kb1 t3 t4 e8 c9 j18 hpre hm22 c23), (lf_x_restore0_2 t3 t4), (lf_x_restore0_3 kkeptF kisKeptF y7 k16 f17 n20 kb0 kb1 t3 t4 e8 c9 j18 hpre hm22 c23), (lf_x_restore0_4 kkeptF kisKeptF y7 k16 f17 n20 kb0 kb1 t3 t4 e8 c9 j18 hpre hm22 c23)⟩, by rw [ht9]; exact hP, va_K.moved hW9.alike hK, hD⟩, hS.F ht9⟩) hS.2.2 dX12_restore_95
                · refine lv_aload_n hx hb dX12_restore_66 rfl (lv_at hl 1 rfl) ?_
                  refine va_get (D := (dC, dI)) (ci := 12) (v := .ref kname) (C := RX12) (T := TX12) (N := 52) hx hb hts hin12 hown hK hP 0 rfl rfl 19 (by decide) (hts (.fieldLink RX12 113 "PorridgeSeaModel" "name" "[J") (List.mem_of_getElem? (i := 5) rfl)) (fun _ h9 => h9) rfl dX12_restore_67 ?_
                  refine lv_iload_n hx hb dX12_restore_70 rfl (lv_at hl 0 rfl) ?_
                  refine lv_aload_n hx hb dX12_restore_71 rfl (lv_at hl 1 rfl) ?_
                  refine va_get (D := (dC, dI)) (ci := 12) (v := .ref kkeptName) (C := RX12) (T := TX12) (N := 52) hx hb hts hin12 hown hK hP 0 rfl rfl 21 (by decide) (hts (.fieldLink RX12 120 "PorridgeSeaModel" "keptName" "[J") (List.mem_of_getElem? (i := 6) rfl)) (fun _ h9 => h9) rfl dX12_restore_72 ?_
                  refine lv_bipush (v := nI 12) hx hb dX12_restore_75 (by decide) ?_
                  refine lv_iload_n hx hb dX12_restore_77 rfl (lv_at hl 2 rfl) ?_
                  refine lv_imul hx hb dX12_restore_78 ?_
                  refine r_ti (nI 0) (by decide) ?_
                  refine lv_iload_n hx hb dX12_restore_79 rfl (lv_at hl 0 rfl) ?_
                  refine lv_iadd hx hb dX12_restore_80 ?_
                  refine r_ti (nI (0 + k30)) (nI_add _ _) ?_
                  obtain ⟨y38, e39⟩ : ∃ z9, z9 = kkeptNameF (0 + k30) := ⟨_, rfl⟩
                  refine r_lald hx hb hK hP 4 rfl (0 + k30) (lf_x_restore0_5 kkeptNameF k30 n34 y38 t3 t4 j32 hm36 c37 e39) (by decide) y38 e39.symm dX12_restore_81 ?_
                  refine r_last (x := y38) hx hb hK hP hD hS 2 rfl k30 (lf_x_restore0_6 kkeptNameF k30 n34 y38 t3 t4 j32 hm36 c37 e39) (by decide) dX12_restore_82 (fun H locs hP hD hS => ?_)
                  obtain ⟨g40, e41⟩ : ∃ z9, z9 = vp_updL f31 k30 y38 := ⟨_, rfl⟩
                  rw [← e41] at hP hD
                  have hP : va_P (dC, dI) vwCl [(o, .inr (12, [.int (nI 0), .ref ktape, .int (nI ktaped), .int (nI ksize), .int (nI klimit), .int (nI kto), .int (nI kfrom), .int kkind, .int knumber, .int ksign, .int kfault, .int kplace, .long kword, .int ktold, .ref know, .ref kread, .ref kkept, .ref ksnaps, .ref kaside, .ref kname, .ref kreadName, .ref kkeptName, .ref kisKept, .ref konces, .int (nI ksnapMany), .int khasCells, .ref kpoured, .ref kfar, .ref ksides, .int (nI ksideMany), .int kwayDays, .int khasWay, .ref klines, .ref kmet, .int (nI kmetMany), .ref ksunk, .ref ktrying, .int (nI ksunkMany), .int ksending, .int kfleets, .ref ktext, .int (nI ktexts), .int kseed, .ref kline, .ref kwritten, .int (nI klineMany), .int khasWritten, .ref knode, .int (nI knodes), .int (nI konesMany), .int (nI kwithin), .int (nI ktop)])), (know, .inl (ky 0, 373, .inl f17)), (kname, .inl (ky 1, 12, .inr (.inl g40))), (kkept, .inl (ky 0, 746, .inl kkeptF)), (kkeptName, .inl (ky 1, 24, .inr (.inl kkeptNameF))), (kisKept, .inl (ky 3, 2, .inl kisKeptF))] H := hP
                  have hD : va_D A [(o, .inr (12, [.int (nI 0), .ref ktape, .int (nI ktaped), .int (nI ksize), .int (nI klimit), .int (nI kto), .int (nI kfrom), .int kkind, .int knumber, .int ksign, .int kfault, .int kplace, .long kword, .int ktold, .ref know, .ref kread, .ref kkept, .ref ksnaps, .ref kaside, .ref kname, .ref kreadName, .ref kkeptName, .ref kisKept, .ref konces, .int (nI ksnapMany), .int khasCells, .ref kpoured, .ref kfar, .ref ksides, .int (nI ksideMany), .int kwayDays, .int khasWay, .ref klines, .ref kmet, .int (nI kmetMany), .ref ksunk, .ref ktrying, .int (nI ksunkMany), .int ksending, .int kfleets, .ref ktext, .int (nI ktexts), .int kseed, .ref kline, .ref kwritten, .int (nI klineMany), .int khasWritten, .ref knode, .int (nI knodes), .int (nI konesMany), .int (nI kwithin), .int (nI ktop)])), (know, .inl (ky 0, 373, .inl f17)), (kname, .inl (ky 1, 12, .inr (.inl g40))), (kkept, .inl (ky 0, 746, .inl kkeptF)), (kkeptName, .inl (ky 1, 24, .inr (.inl kkeptNameF))), (kisKept, .inl (ky 3, 2, .inl kisKeptF))] := hD
                  refine lv_iinc (v := nI (k30 + 1)) (lv' := [(2, .int (nI (k30 + 1))), (0, .ref o), (1, .int (nI 0))]) hx hb dX12_restore_83 hl (k := 0) rfl (show nI k30 + nI 1 = nI (k30 + 1) from nI_add _ _) (by decide) rfl (fun ls hl => ?_)
                  refine lv_goto (tgt := 60) hx hb dX12_restore_86 (by decide) ?_
                  exact ih35 (k30 + 1) g40 (lf_x_restore0_7 kkeptNameF k30 n34 y38 t3 t4 j32 hm36 c37 e39) (lf_x_restore0_8 kkeptNameF k30 n34 y38 t3 t4 j32 hm36 c37 e39) _ _ _ hP hD hS (lv_sub hl [0, 1, 2] rfl)
            exact hL33 ((12 - 0) + 1) 0 knameF (lf_x_restore0_9 t3 t4) (Nat.lt_succ_self _) _ _ _ hP hD hS (lv_sub hl [0, 1, 2] rfl)
          · refine lv_aload_n hx hb dX12_restore_34 rfl (lv_at hl 1 rfl) ?_
            refine va_get (D := (dC, dI)) (ci := 12) (v := .ref know) (C := RX12) (T := TX12) (N := 52) hx hb hts hin12 hown hK hP 0 rfl rfl 14 (by decide) (hts (.fieldLink RX12 98 "PorridgeSeaModel" "now" "[I") (List.mem_of_getElem? (i := 3) rfl)) (fun _ h9 => h9) rfl dX12_restore_35 ?_
            refine lv_iload_n hx hb dX12_restore_38 rfl (lv_at hl 0 rfl) ?_
            refine lv_aload_n hx hb dX12_restore_39 rfl (lv_at hl 1 rfl) ?_
            refine va_get (D := (dC, dI)) (ci := 12) (v := .ref kkept) (C := RX12) (T := TX12) (N := 52) hx hb hts hin12 hown hK hP 0 rfl rfl 16 (by decide) (hts (.fieldLink RX12 104 "PorridgeSeaModel" "kept" "[I") (List.mem_of_getElem? (i := 4) rfl)) (fun _ h9 => h9) rfl dX12_restore_40 ?_
            refine lv_sipush (v := nI 373) hx hb dX12_restore_43 (by decide) ?_
            refine lv_iload_n hx hb dX12_restore_46 rfl (lv_at hl 2 rfl) ?_
            refine lv_imul hx hb dX12_restore_47 ?_
            refine r_ti (nI 0) (by decide) ?_
            refine lv_iload_n hx hb dX12_restore_48 rfl (lv_at hl 0 rfl) ?_
            refine lv_iadd hx hb dX12_restore_49 ?_
            refine r_ti (nI (0 + k16)) (nI_add _ _) ?_
            obtain ⟨y42, e43⟩ : ∃ z9, z9 = kkeptF (0 + k16) := ⟨_, rfl⟩
            refine r_iald hx hb hK hP 3 rfl (0 + k16) (lf_x_restore0_10 kkeptF kisKeptF y7 k16 f17 n20 y42 kb0 kb1 t3 t4 e8 c9 j18 hpre hm22 c23 e43) (by decide) y42 e43.symm dX12_restore_50 ?_
            refine r_iast (x := y42) hx hb hK hP hD hS 1 rfl k16 (lf_x_restore0_11 kkeptF kisKeptF y7 k16 f17 n20 y42 kb0 kb1 t3 t4 e8 c9 j18 hpre hm22 c23 e43) (by decide) dX12_restore_51 (fun H locs hP hD hS => ?_)
            obtain ⟨g44, e45⟩ : ∃ z9, z9 = upd f17 k16 y42 := ⟨_, rfl⟩
            rw [← e45] at hP hD
            have hP : va_P (dC, dI) vwCl [(o, .inr (12, [.int (nI 0), .ref ktape, .int (nI ktaped), .int (nI ksize), .int (nI klimit), .int (nI kto), .int (nI kfrom), .int kkind, .int knumber, .int ksign, .int kfault, .int kplace, .long kword, .int ktold, .ref know, .ref kread, .ref kkept, .ref ksnaps, .ref kaside, .ref kname, .ref kreadName, .ref kkeptName, .ref kisKept, .ref konces, .int (nI ksnapMany), .int khasCells, .ref kpoured, .ref kfar, .ref ksides, .int (nI ksideMany), .int kwayDays, .int khasWay, .ref klines, .ref kmet, .int (nI kmetMany), .ref ksunk, .ref ktrying, .int (nI ksunkMany), .int ksending, .int kfleets, .ref ktext, .int (nI ktexts), .int kseed, .ref kline, .ref kwritten, .int (nI klineMany), .int khasWritten, .ref knode, .int (nI knodes), .int (nI konesMany), .int (nI kwithin), .int (nI ktop)])), (know, .inl (ky 0, 373, .inl g44)), (kname, .inl (ky 1, 12, .inr (.inl knameF))), (kkept, .inl (ky 0, 746, .inl kkeptF)), (kkeptName, .inl (ky 1, 24, .inr (.inl kkeptNameF))), (kisKept, .inl (ky 3, 2, .inl kisKeptF))] H := hP
            have hD : va_D A [(o, .inr (12, [.int (nI 0), .ref ktape, .int (nI ktaped), .int (nI ksize), .int (nI klimit), .int (nI kto), .int (nI kfrom), .int kkind, .int knumber, .int ksign, .int kfault, .int kplace, .long kword, .int ktold, .ref know, .ref kread, .ref kkept, .ref ksnaps, .ref kaside, .ref kname, .ref kreadName, .ref kkeptName, .ref kisKept, .ref konces, .int (nI ksnapMany), .int khasCells, .ref kpoured, .ref kfar, .ref ksides, .int (nI ksideMany), .int kwayDays, .int khasWay, .ref klines, .ref kmet, .int (nI kmetMany), .ref ksunk, .ref ktrying, .int (nI ksunkMany), .int ksending, .int kfleets, .ref ktext, .int (nI ktexts), .int kseed, .ref kline, .ref kwritten, .int (nI klineMany), .int khasWritten, .ref knode, .int (nI knodes), .int (nI konesMany), .int (nI kwithin), .int (nI ktop)])), (know, .inl (ky 0, 373, .inl g44)), (kname, .inl (ky 1, 12, .inr (.inl knameF))), (kkept, .inl (ky 0, 746, .inl kkeptF)), (kkeptName, .inl (ky 1, 24, .inr (.inl kkeptNameF))), (kisKept, .inl (ky 3, 2, .inl kisKeptF))] := hD
            refine lv_iinc (v := nI (k16 + 1)) (lv' := [(2, .int (nI (k16 + 1))), (0, .ref o), (1, .int (nI 0))]) hx hb dX12_restore_52 hl (k := 0) rfl (show nI k16 + nI 1 = nI (k16 + 1) from nI_add _ _) (by decide) rfl (fun ls hl => ?_)
            refine lv_goto (tgt := 27) hx hb dX12_restore_55 (by decide) ?_
            exact ih21 (k16 + 1) g44 (lf_x_restore0_12 kkeptF kisKeptF y7 k16 f17 n20 y42 g44 kb0 kb1 t3 t4 e8 c9 j18 hpre hm22 c23 e43 e45) (lf_x_restore0_13 kkeptF kisKeptF y7 k16 f17 n20 y42 g44 kb0 kb1 t3 t4 e8 c9 j18 hpre hm22 c23 e43 e45) (lf_x_restore0_14 kkeptF kisKeptF y7 k16 f17 n20 y42 g44 kb0 kb1 t3 t4 e8 c9 j18 hpre hm22 c23 e43 e45) _ _ _ hP hD hS (lv_sub hl [0, 1, 2] rfl)
      exact hL19 ((373 - 0) + 1) 0 knowF (lf_x_restore0_15 t3 t4) (lf_x_restore0_16 knowF kkeptF kisKeptF y7 ab_now sb_now kb0 kb1 t3 t4 e8 c9) (Nat.lt_succ_self _) _ _ _ hP hD hS (lv_sub hl [0, 1, 2] rfl)
    · refine lv_iconst (v := nI 0) hx hb dX12_restore_23 (by decide) ?_
      rw [hQ]
      exact W.zret (v := nI 0) hx hb hr (by decide) (fun t9 ht9 hW9 => ⟨⟨nI 0, (nI 0, ksnapMany, knowF, knameF), rfl, ⟨(lf_x_restore0_17 kkeptF kisKeptF y7 kb0 kb1 t3 t4 e8 c9), iv_ko_5, ab_now, sb_now⟩, by rw [ht9]; exact hP, va_K.moved hW9.alike hK, hD⟩, hS.F ht9⟩) hS.2.2 dX12_restore_24
  · refine lv_if_eq (tgt := 23) hx hb dX12_restore_11 (by decide) (fun c46 => ?_) (fun c46 => absurd (by decide) c46)
    refine lv_iconst (v := nI 0) hx hb dX12_restore_23 (by decide) ?_
    rw [hQ]
    exact W.zret (v := nI 0) hx hb hr (by decide) (fun t9 ht9 hW9 => ⟨⟨nI 0, (nI 0, ksnapMany, knowF, knameF), rfl, ⟨(lf_x_restore0_18 kkeptF kisKeptF kb0 kb1 t5), iv_ko_5, ab_now, sb_now⟩, by rw [ht9]; exact hP, va_K.moved hW9.alike hK, hD⟩, hS.F ht9⟩) hS.2.2 dX12_restore_24
set_option maxRecDepth 20000 in
theorem lf_x_restore1_1 (kkeptF : Nat → Int32) (kisKeptF : Nat → Int32) (y7 : Int32) (k16 : Nat) (f17 : Nat → Int32) (n20 : Nat) (kb0 : KBf kkeptF kisKeptF 0) (kb1 : KBf kkeptF kisKeptF 1) (t3 : (nI 0).toInt ≤ (nI 1).toInt) (t4 : (nI 1).toInt ≤ (nI 1).toInt) (e8 : y7 = kisKeptF 1) (c9 : y7 ≠ 0) (j18 : k16 ≤ 373) (hpre : ∀ j9, j9 < k16 → f17 j9 = kkeptF (373 + j9)) (hm22 : 373 - k16 < n20 + 1) (c23 : 373 ≤ k16) : ((nI 1) = nI 1 ∧ (¬ kisKeptF 1 = 0)) ∨ ((nI 1) = nI 0 ∧ (kisKeptF 1 = 0)) := by
  have b_y7 := ia_b y7
  try have k_0 := ia_n 0 (by first | decide | omega)
  try have k_1 := ia_n 1 (by first | decide | omega)
  try simp only [ia_lt, ia_le, ia_eq, ia_m1, ia_0, ia_1, ne_eq, true_and, and_true, false_and, and_false, or_false, false_or, or_true, true_or, not_true_eq_false, not_false_eq_true] at *
  all_goals omega
set_option maxRecDepth 20000 in
theorem lf_x_restore1_2  (t3 : (nI 0).toInt ≤ (nI 1).toInt) (t4 : (nI 1).toInt ≤ (nI 1).toInt) : 0 ≤ 8 := by
  try have k_0 := ia_n 0 (by first | decide | omega)
  try have k_1 := ia_n 1 (by first | decide | omega)
  try simp only [ia_lt, ia_le, ia_eq, ia_m1, ia_0, ia_1, ne_eq, true_and, and_true, false_and, and_false, or_false, false_or, or_true, true_or, not_true_eq_false, not_false_eq_true] at *
  all_goals omega
set_option maxRecDepth 20000 in
theorem lf_x_restore1_3 (kkeptF : Nat → Int32) (kisKeptF : Nat → Int32) (y7 : Int32) (k16 : Nat) (f17 : Nat → Int32) (n20 : Nat) (kb0 : KBf kkeptF kisKeptF 0) (kb1 : KBf kkeptF kisKeptF 1) (t3 : (nI 0).toInt ≤ (nI 1).toInt) (t4 : (nI 1).toInt ≤ (nI 1).toInt) (e8 : y7 = kisKeptF 1) (c9 : y7 ≠ 0) (j18 : k16 ≤ 373) (hpre : ∀ j9, j9 < k16 → f17 j9 = kkeptF (373 + j9)) (hm22 : 373 - k16 < n20 + 1) (c23 : 373 ≤ k16) : NB f17 := by
  exact NB_ext (f := fun j => kkeptF (373 * 1 + j)) (fun j h => (hpre j (by omega)).trans (congrArg kkeptF (by omega))) (kb1 (by rw [← e8]; exact c9)).1
set_option maxRecDepth 20000 in
theorem lf_x_restore1_4 (kkeptF : Nat → Int32) (kisKeptF : Nat → Int32) (y7 : Int32) (k16 : Nat) (f17 : Nat → Int32) (n20 : Nat) (kb0 : KBf kkeptF kisKeptF 0) (kb1 : KBf kkeptF kisKeptF 1) (t3 : (nI 0).toInt ≤ (nI 1).toInt) (t4 : (nI 1).toInt ≤ (nI 1).toInt) (e8 : y7 = kisKeptF 1) (c9 : y7 ≠ 0) (j18 : k16 ≤ 373) (hpre : ∀ j9, j9 < k16 → f17 j9 = kkeptF (373 + j9)) (hm22 : 373 - k16 < n20 + 1) (c23 : 373 ≤ k16) : SB f17 := by
  exact SB_ext (f := fun j => kkeptF (373 * 1 + j)) (fun j h => (hpre j (by omega)).trans (congrArg kkeptF (by omega))) (kb1 (by rw [← e8]; exact c9)).2
set_option maxRecDepth 20000 in
theorem lf_x_restore1_5 (kkeptNameF : Nat → Int64) (k30 : Nat) (n34 : Nat) (y38 : Int64) (t3 : (nI 0).toInt ≤ (nI 1).toInt) (t4 : (nI 1).toInt ≤ (nI 1).toInt) (j32 : k30 ≤ 12) (hm36 : 12 - k30 < n34 + 1) (c37 : k30 < 12) (e39 : y38 = kkeptNameF (12 + k30)) : (12 + k30) < 24 := by
  have b_y38 := Int64.toInt_lt y38
  try have k_0 := ia_n 0 (by first | decide | omega)
  try have k_1 := ia_n 1 (by first | decide | omega)
  try simp only [ia_lt, ia_le, ia_eq, ia_m1, ia_0, ia_1, ne_eq, true_and, and_true, false_and, and_false, or_false, false_or, or_true, true_or, not_true_eq_false, not_false_eq_true] at *
  all_goals omega
set_option maxRecDepth 20000 in
theorem lf_x_restore1_6 (kkeptNameF : Nat → Int64) (k30 : Nat) (n34 : Nat) (y38 : Int64) (t3 : (nI 0).toInt ≤ (nI 1).toInt) (t4 : (nI 1).toInt ≤ (nI 1).toInt) (j32 : k30 ≤ 12) (hm36 : 12 - k30 < n34 + 1) (c37 : k30 < 12) (e39 : y38 = kkeptNameF (12 + k30)) : k30 < 12 := by
  have b_y38 := Int64.toInt_lt y38
  try have k_0 := ia_n 0 (by first | decide | omega)
  try have k_1 := ia_n 1 (by first | decide | omega)
  try simp only [ia_lt, ia_le, ia_eq, ia_m1, ia_0, ia_1, ne_eq, true_and, and_true, false_and, and_false, or_false, false_or, or_true, true_or, not_true_eq_false, not_false_eq_true] at *
  all_goals omega
set_option maxRecDepth 20000 in
theorem lf_x_restore1_7 (kkeptNameF : Nat → Int64) (k30 : Nat) (n34 : Nat) (y38 : Int64) (t3 : (nI 0).toInt ≤ (nI 1).toInt) (t4 : (nI 1).toInt ≤ (nI 1).toInt) (j32 : k30 ≤ 12) (hm36 : 12 - k30 < n34 + 1) (c37 : k30 < 12) (e39 : y38 = kkeptNameF (12 + k30)) : (k30 + 1) ≤ 12 := by
  have b_y38 := Int64.toInt_lt y38
  try have k_0 := ia_n 0 (by first | decide | omega)
  try have k_1 := ia_n 1 (by first | decide | omega)
  try simp only [ia_lt, ia_le, ia_eq, ia_m1, ia_0, ia_1, ne_eq, true_and, and_true, false_and, and_false, or_false, false_or, or_true, true_or, not_true_eq_false, not_false_eq_true] at *
  all_goals omega
set_option maxRecDepth 20000 in
theorem lf_x_restore1_8 (kkeptNameF : Nat → Int64) (k30 : Nat) (n34 : Nat) (y38 : Int64) (t3 : (nI 0).toInt ≤ (nI 1).toInt) (t4 : (nI 1).toInt ≤ (nI 1).toInt) (j32 : k30 ≤ 12) (hm36 : 12 - k30 < n34 + 1) (c37 : k30 < 12) (e39 : y38 = kkeptNameF (12 + k30)) : 12 - (k30 + 1) < n34 := by
  have b_y38 := Int64.toInt_lt y38
  try have k_0 := ia_n 0 (by first | decide | omega)
  try have k_1 := ia_n 1 (by first | decide | omega)
  try simp only [ia_lt, ia_le, ia_eq, ia_m1, ia_0, ia_1, ne_eq, true_and, and_true, false_and, and_false, or_false, false_or, or_true, true_or, not_true_eq_false, not_false_eq_true] at *
  all_goals omega
set_option maxRecDepth 20000 in
theorem lf_x_restore1_9  (t3 : (nI 0).toInt ≤ (nI 1).toInt) (t4 : (nI 1).toInt ≤ (nI 1).toInt) : 0 ≤ 12 := by
  try have k_0 := ia_n 0 (by first | decide | omega)
  try have k_1 := ia_n 1 (by first | decide | omega)
  try simp only [ia_lt, ia_le, ia_eq, ia_m1, ia_0, ia_1, ne_eq, true_and, and_true, false_and, and_false, or_false, false_or, or_true, true_or, not_true_eq_false, not_false_eq_true] at *
  all_goals omega
set_option maxRecDepth 20000 in
theorem lf_x_restore1_10 (kkeptF : Nat → Int32) (kisKeptF : Nat → Int32) (y7 : Int32) (k16 : Nat) (f17 : Nat → Int32) (n20 : Nat) (y42 : Int32) (kb0 : KBf kkeptF kisKeptF 0) (kb1 : KBf kkeptF kisKeptF 1) (t3 : (nI 0).toInt ≤ (nI 1).toInt) (t4 : (nI 1).toInt ≤ (nI 1).toInt) (e8 : y7 = kisKeptF 1) (c9 : y7 ≠ 0) (j18 : k16 ≤ 373) (hpre : ∀ j9, j9 < k16 → f17 j9 = kkeptF (373 + j9)) (hm22 : 373 - k16 < n20 + 1) (c23 : k16 < 373) (e43 : y42 = kkeptF (373 + k16)) : (373 + k16) < 746 := by
  have b_y7 := ia_b y7
  have b_y42 := ia_b y42
  try have k_0 := ia_n 0 (by first | decide | omega)
  try have k_1 := ia_n 1 (by first | decide | omega)
  try simp only [ia_lt, ia_le, ia_eq, ia_m1, ia_0, ia_1, ne_eq, true_and, and_true, false_and, and_false, or_false, false_or, or_true, true_or, not_true_eq_false, not_false_eq_true] at *
  all_goals omega
set_option maxRecDepth 20000 in
theorem lf_x_restore1_11 (kkeptF : Nat → Int32) (kisKeptF : Nat → Int32) (y7 : Int32) (k16 : Nat) (f17 : Nat → Int32) (n20 : Nat) (y42 : Int32) (kb0 : KBf kkeptF kisKeptF 0) (kb1 : KBf kkeptF kisKeptF 1) (t3 : (nI 0).toInt ≤ (nI 1).toInt) (t4 : (nI 1).toInt ≤ (nI 1).toInt) (e8 : y7 = kisKeptF 1) (c9 : y7 ≠ 0) (j18 : k16 ≤ 373) (hpre : ∀ j9, j9 < k16 → f17 j9 = kkeptF (373 + j9)) (hm22 : 373 - k16 < n20 + 1) (c23 : k16 < 373) (e43 : y42 = kkeptF (373 + k16)) : k16 < 373 := by
  have b_y7 := ia_b y7
  have b_y42 := ia_b y42
  try have k_0 := ia_n 0 (by first | decide | omega)
  try have k_1 := ia_n 1 (by first | decide | omega)
  try simp only [ia_lt, ia_le, ia_eq, ia_m1, ia_0, ia_1, ne_eq, true_and, and_true, false_and, and_false, or_false, false_or, or_true, true_or, not_true_eq_false, not_false_eq_true] at *
  all_goals omega
set_option maxRecDepth 20000 in
theorem lf_x_restore1_12 (kkeptF : Nat → Int32) (kisKeptF : Nat → Int32) (y7 : Int32) (k16 : Nat) (f17 : Nat → Int32) (n20 : Nat) (y42 : Int32) (g44 : Nat → Int32) (kb0 : KBf kkeptF kisKeptF 0) (kb1 : KBf kkeptF kisKeptF 1) (t3 : (nI 0).toInt ≤ (nI 1).toInt) (t4 : (nI 1).toInt ≤ (nI 1).toInt) (e8 : y7 = kisKeptF 1) (c9 : y7 ≠ 0) (j18 : k16 ≤ 373) (hpre : ∀ j9, j9 < k16 → f17 j9 = kkeptF (373 + j9)) (hm22 : 373 - k16 < n20 + 1) (c23 : k16 < 373) (e43 : y42 = kkeptF (373 + k16)) (e45 : g44 = upd f17 k16 y42) : (k16 + 1) ≤ 373 := by
  have b_y7 := ia_b y7
  have b_y42 := ia_b y42
  try have k_0 := ia_n 0 (by first | decide | omega)
  try have k_1 := ia_n 1 (by first | decide | omega)
  try simp only [ia_lt, ia_le, ia_eq, ia_m1, ia_0, ia_1, ne_eq, true_and, and_true, false_and, and_false, or_false, false_or, or_true, true_or, not_true_eq_false, not_false_eq_true] at *
  all_goals omega
set_option maxRecDepth 20000 in
theorem lf_x_restore1_13 (kkeptF : Nat → Int32) (kisKeptF : Nat → Int32) (y7 : Int32) (k16 : Nat) (f17 : Nat → Int32) (n20 : Nat) (y42 : Int32) (g44 : Nat → Int32) (kb0 : KBf kkeptF kisKeptF 0) (kb1 : KBf kkeptF kisKeptF 1) (t3 : (nI 0).toInt ≤ (nI 1).toInt) (t4 : (nI 1).toInt ≤ (nI 1).toInt) (e8 : y7 = kisKeptF 1) (c9 : y7 ≠ 0) (j18 : k16 ≤ 373) (hpre : ∀ j9, j9 < k16 → f17 j9 = kkeptF (373 + j9)) (hm22 : 373 - k16 < n20 + 1) (c23 : k16 < 373) (e43 : y42 = kkeptF (373 + k16)) (e45 : g44 = upd f17 k16 y42) : ∀ j9, j9 < (k16 + 1) → g44 j9 = kkeptF (373 + j9) := by
  intro j9 hj9
  by_cases h9 : j9 = k16
  · rw [h9, e45, upd_eq]; exact e43
  · rw [e45, upd_ne (by omega)]; exact hpre j9 (by omega)
set_option maxRecDepth 20000 in
theorem lf_x_restore1_14 (kkeptF : Nat → Int32) (kisKeptF : Nat → Int32) (y7 : Int32) (k16 : Nat) (f17 : Nat → Int32) (n20 : Nat) (y42 : Int32) (g44 : Nat → Int32) (kb0 : KBf kkeptF kisKeptF 0) (kb1 : KBf kkeptF kisKeptF 1) (t3 : (nI 0).toInt ≤ (nI 1).toInt) (t4 : (nI 1).toInt ≤ (nI 1).toInt) (e8 : y7 = kisKeptF 1) (c9 : y7 ≠ 0) (j18 : k16 ≤ 373) (hpre : ∀ j9, j9 < k16 → f17 j9 = kkeptF (373 + j9)) (hm22 : 373 - k16 < n20 + 1) (c23 : k16 < 373) (e43 : y42 = kkeptF (373 + k16)) (e45 : g44 = upd f17 k16 y42) : 373 - (k16 + 1) < n20 := by
  have b_y7 := ia_b y7
  have b_y42 := ia_b y42
  try have k_0 := ia_n 0 (by first | decide | omega)
  try have k_1 := ia_n 1 (by first | decide | omega)
  try simp only [ia_lt, ia_le, ia_eq, ia_m1, ia_0, ia_1, ne_eq, true_and, and_true, false_and, and_false, or_false, false_or, or_true, true_or, not_true_eq_false, not_false_eq_true] at *
  all_goals omega
set_option maxRecDepth 20000 in
theorem lf_x_restore1_15  (t3 : (nI 0).toInt ≤ (nI 1).toInt) (t4 : (nI 1).toInt ≤ (nI 1).toInt) : 0 ≤ 373 := by
  try have k_0 := ia_n 0 (by first | decide | omega)
  try have k_1 := ia_n 1 (by first | decide | omega)
  try simp only [ia_lt, ia_le, ia_eq, ia_m1, ia_0, ia_1, ne_eq, true_and, and_true, false_and, and_false, or_false, false_or, or_true, true_or, not_true_eq_false, not_false_eq_true] at *
  all_goals omega
set_option maxRecDepth 20000 in
theorem lf_x_restore1_16 (knowF : Nat → Int32) (kkeptF : Nat → Int32) (kisKeptF : Nat → Int32) (y7 : Int32) (ab_now : NB knowF) (sb_now : SB knowF) (kb0 : KBf kkeptF kisKeptF 0) (kb1 : KBf kkeptF kisKeptF 1) (t3 : (nI 0).toInt ≤ (nI 1).toInt) (t4 : (nI 1).toInt ≤ (nI 1).toInt) (e8 : y7 = kisKeptF 1) (c9 : y7 ≠ 0) : ∀ j9, j9 < 0 → knowF j9 = kkeptF (373 + j9) := by
  intro j9 hj9
  omega
set_option maxRecDepth 20000 in
theorem lf_x_restore1_17 (kkeptF : Nat → Int32) (kisKeptF : Nat → Int32) (y7 : Int32) (kb0 : KBf kkeptF kisKeptF 0) (kb1 : KBf kkeptF kisKeptF 1) (t3 : (nI 0).toInt ≤ (nI 1).toInt) (t4 : (nI 1).toInt ≤ (nI 1).toInt) (e8 : y7 = kisKeptF 1) (c9 : y7 = 0) : ((nI 0) = nI 1 ∧ (¬ kisKeptF 1 = 0)) ∨ ((nI 0) = nI 0 ∧ (kisKeptF 1 = 0)) := by
  have b_y7 := ia_b y7
  try have k_0 := ia_n 0 (by first | decide | omega)
  try have k_1 := ia_n 1 (by first | decide | omega)
  try simp only [ia_lt, ia_le, ia_eq, ia_m1, ia_0, ia_1, ne_eq, true_and, and_true, false_and, and_false, or_false, false_or, or_true, true_or, not_true_eq_false, not_false_eq_true] at *
  all_goals omega
set_option maxRecDepth 20000 in
theorem lf_x_restore1_18 (kkeptF : Nat → Int32) (kisKeptF : Nat → Int32) (kb0 : KBf kkeptF kisKeptF 0) (kb1 : KBf kkeptF kisKeptF 1) (t5 : ¬ ((nI 0).toInt ≤ (nI 1).toInt ∧ (nI 1).toInt ≤ (nI 1).toInt)) : ((nI 0) = nI 1 ∧ (¬ kisKeptF 1 = 0)) ∨ ((nI 0) = nI 0 ∧ (kisKeptF 1 = 0)) := by
  try have k_0 := ia_n 0 (by first | decide | omega)
  try have k_1 := ia_n 1 (by first | decide | omega)
  try simp only [ia_lt, ia_le, ia_eq, ia_m1, ia_0, ia_1, ne_eq, true_and, and_true, false_and, and_false, or_false, false_or, or_true, true_or, not_true_eq_false, not_false_eq_true] at *
  all_goals omega
set_option maxHeartbeats 4000000 in
set_option maxRecDepth 100000 in
theorem c_x_restore1 (l : Launch) (dC : Nat → ClassId) (dI : Nat → Nat → Nat) (ky : Nat → ClassId) (sz : Nat) (o : Nat) (kthrown : Int32) (ktape : Nat) (ktaped : Nat) (ksize : Nat) (klimit : Nat) (kto : Nat) (kfrom : Nat) (kkind : Int32) (knumber : Int32) (ksign : Int32) (kfault : Int32) (kplace : Int32) (kword : Int64) (ktold : Int32) (know : Nat) (kread : Nat) (kkept : Nat) (ksnaps : Nat) (kaside : Nat) (kname : Nat) (kreadName : Nat) (kkeptName : Nat) (kisKept : Nat) (konces : Nat) (ksnapMany : Nat) (khasCells : Int32) (kpoured : Nat) (kfar : Nat) (ksides : Nat) (ksideMany : Nat) (kwayDays : Int32) (khasWay : Int32) (klines : Nat) (kmet : Nat) (kmetMany : Nat) (ksunk : Nat) (ktrying : Nat) (ksunkMany : Nat) (ksending : Int32) (kfleets : Int32) (ktext : Nat) (ktexts : Nat) (kseed : Int32) (kline : Nat) (kwritten : Nat) (klineMany : Nat) (khasWritten : Int32) (knode : Nat) (knodes : Nat) (konesMany : Nat) (kwithin : Nat) (ktop : Nat) (knowF : Nat → Int32) (knameF : Nat → Int64) (kkeptF : Nat → Int32) (kkeptNameF : Nat → Int64) (kisKeptF : Nat → Int32) (iv_ko_0 : ktaped ≤ 940) (iv_ko_1 : ksize ≤ 940) (iv_ko_2 : klimit ≤ 900) (iv_ko_3 : kto ≤ ksize) (iv_ko_4 : kfrom ≤ 940) (iv_ko_5 : ksnapMany ≤ 8) (iv_ko_6 : ksideMany ≤ 36) (iv_ko_7 : kmetMany ≤ 3) (iv_ko_8 : ksunkMany ≤ 36) (iv_ko_9 : ktexts ≤ 64) (iv_ko_10 : klineMany ≤ 40) (iv_ko_11 : knodes ≤ 60) (iv_ko_12 : konesMany ≤ 20) (iv_ko_13 : kwithin ≤ 8) (iv_ko_14 : ktop ≤ 59) (ab_now : NB knowF) (sb_now : SB knowF) (kb0 : KBf kkeptF kisKeptF 0) (kb1 : KBf kkeptF kisKeptF 1) : Met l yX12_restore wsX12_restore ({ frames := 1, cells := 0, slots := 0, locals := 22 }) (PcU dC dI ky [.ref o, .int (nI 1)] [(o, .inr (12, [.int kthrown, .ref ktape, .int (nI ktaped), .int (nI ksize), .int (nI klimit), .int (nI kto), .int (nI kfrom), .int kkind, .int knumber, .int ksign, .int kfault, .int kplace, .long kword, .int ktold, .ref know, .ref kread, .ref kkept, .ref ksnaps, .ref kaside, .ref kname, .ref kreadName, .ref kkeptName, .ref kisKept, .ref konces, .int (nI ksnapMany), .int khasCells, .ref kpoured, .ref kfar, .ref ksides, .int (nI ksideMany), .int kwayDays, .int khasWay, .ref klines, .ref kmet, .int (nI kmetMany), .ref ksunk, .ref ktrying, .int (nI ksunkMany), .int ksending, .int kfleets, .ref ktext, .int (nI ktexts), .int kseed, .ref kline, .ref kwritten, .int (nI klineMany), .int khasWritten, .ref knode, .int (nI knodes), .int (nI konesMany), .int (nI kwithin), .int (nI ktop)])), (know, .inl (ky 0, 373, .inl knowF)), (kname, .inl (ky 1, 12, .inr (.inl knameF))), (kkept, .inl (ky 0, 746, .inl kkeptF)), (kkeptName, .inl (ky 1, 24, .inr (.inl kkeptNameF))), (kisKept, .inl (ky 3, 2, .inl kisKeptF))] sz) (va_Qi (fun (r : Int32) (u : Int32 × Nat × (Nat → Int32) × (Nat → Int64)) => match u with | (kthrownG, ksnapManyG, knowG, knameG) => ((r = nI 1 ∧ (¬ kisKeptF 1 = 0)) ∨ (r = nI 0 ∧ (kisKeptF 1 = 0))) ∧ (ksnapManyG ≤ 8) ∧ (NB knowG) ∧ (SB knowG)) (BU dC dI ky (fun (u : Int32 × Nat × (Nat → Int32) × (Nat → Int64)) => match u with | (kthrownG, ksnapManyG, knowG, knameG) => [(o, .inr (12, [.int kthrownG, .ref ktape, .int (nI ktaped), .int (nI ksize), .int (nI klimit), .int (nI kto), .int (nI kfrom), .int kkind, .int knumber, .int ksign, .int kfault, .int kplace, .long kword, .int ktold, .ref know, .ref kread, .ref kkept, .ref ksnaps, .ref kaside, .ref kname, .ref kreadName, .ref kkeptName, .ref kisKept, .ref konces, .int (nI ksnapManyG), .int khasCells, .ref kpoured, .ref kfar, .ref ksides, .int (nI ksideMany), .int kwayDays, .int khasWay, .ref klines, .ref kmet, .int (nI kmetMany), .ref ksunk, .ref ktrying, .int (nI ksunkMany), .int ksending, .int kfleets, .ref ktext, .int (nI ktexts), .int kseed, .ref kline, .ref kwritten, .int (nI klineMany), .int khasWritten, .ref knode, .int (nI knodes), .int (nI konesMany), .int (nI kwithin), .int (nI ktop)])), (know, .inl (ky 0, 373, .inl knowG)), (kname, .inl (ky 1, 12, .inr (.inl knameG))), (kkept, .inl (ky 0, 746, .inl kkeptF)), (kkeptName, .inl (ky 1, 24, .inr (.inl kkeptNameF))), (kisKept, .inl (ky 3, 2, .inl kisKeptF))]) (va_A [(o, .inr (12, [.int kthrown, .ref ktape, .int (nI ktaped), .int (nI ksize), .int (nI klimit), .int (nI kto), .int (nI kfrom), .int kkind, .int knumber, .int ksign, .int kfault, .int kplace, .long kword, .int ktold, .ref know, .ref kread, .ref kkept, .ref ksnaps, .ref kaside, .ref kname, .ref kreadName, .ref kkeptName, .ref kisKept, .ref konces, .int (nI ksnapMany), .int khasCells, .ref kpoured, .ref kfar, .ref ksides, .int (nI ksideMany), .int kwayDays, .int khasWay, .ref klines, .ref kmet, .int (nI kmetMany), .ref ksunk, .ref ktrying, .int (nI ksunkMany), .int ksending, .int kfleets, .ref ktext, .int (nI ktexts), .int kseed, .ref kline, .ref kwritten, .int (nI klineMany), .int khasWritten, .ref knode, .int (nI knodes), .int (nI konesMany), .int (nI kwithin), .int (nI ktop)])), (know, .inl (ky 0, 373, .inl knowF)), (kname, .inl (ky 1, 12, .inr (.inl knameF))), (kkept, .inl (ky 0, 746, .inl kkeptF)), (kkeptName, .inl (ky 1, 24, .inr (.inl kkeptNameF))), (kisKept, .inl (ky 3, 2, .inl kisKeptF))] sz)) (va_A [(o, .inr (12, [.int kthrown, .ref ktape, .int (nI ktaped), .int (nI ksize), .int (nI klimit), .int (nI kto), .int (nI kfrom), .int kkind, .int knumber, .int ksign, .int kfault, .int kplace, .long kword, .int ktold, .ref know, .ref kread, .ref kkept, .ref ksnaps, .ref kaside, .ref kname, .ref kreadName, .ref kkeptName, .ref kisKept, .ref konces, .int (nI ksnapMany), .int khasCells, .ref kpoured, .ref kfar, .ref ksides, .int (nI ksideMany), .int kwayDays, .int khasWay, .ref klines, .ref kmet, .int (nI kmetMany), .ref ksunk, .ref ktrying, .int (nI ksunkMany), .int ksending, .int kfleets, .ref ktext, .int (nI ktexts), .int kseed, .ref kline, .ref kwritten, .int (nI klineMany), .int khasWritten, .ref knode, .int (nI knodes), .int (nI konesMany), .int (nI kwithin), .int (nI ktop)])), (know, .inl (ky 0, 373, .inl knowF)), (kname, .inl (ky 1, 12, .inr (.inl knameF))), (kkept, .inl (ky 0, 746, .inl kkeptF)), (kkeptName, .inl (ky 1, 24, .inr (.inl kkeptNameF))), (kisKept, .inl (ky 3, 2, .inl kisKeptF))] sz)) 0 0 (va_A [(o, .inr (12, [.int kthrown, .ref ktape, .int (nI ktaped), .int (nI ksize), .int (nI klimit), .int (nI kto), .int (nI kfrom), .int kkind, .int knumber, .int ksign, .int kfault, .int kplace, .long kword, .int ktold, .ref know, .ref kread, .ref kkept, .ref ksnaps, .ref kaside, .ref kname, .ref kreadName, .ref kkeptName, .ref kisKept, .ref konces, .int (nI ksnapMany), .int khasCells, .ref kpoured, .ref kfar, .ref ksides, .int (nI ksideMany), .int kwayDays, .int khasWay, .ref klines, .ref kmet, .int (nI kmetMany), .ref ksunk, .ref ktrying, .int (nI ksunkMany), .int ksending, .int kfleets, .ref ktext, .int (nI ktexts), .int kseed, .ref kline, .ref kwritten, .int (nI klineMany), .int khasWritten, .ref knode, .int (nI knodes), .int (nI konesMany), .int (nI kwithin), .int (nI ktop)])), (know, .inl (ky 0, 373, .inl knowF)), (kname, .inl (ky 1, 12, .inr (.inl knameF))), (kkept, .inl (ky 0, 746, .inl kkeptF)), (kkeptName, .inl (ky 1, 24, .inr (.inl kkeptNameF))), (kisKept, .inl (ky 3, 2, .inl kisKeptF))] sz) := by
  refine Met.ofW (cc := cX12_restore) (maxL := 3) (ret := (some .boolean)) (by decide) rfl ?_
  intro p e s m args below meth c s₁ B hml hv
  obtain ⟨rfl, hsz, hP, hK, hD0⟩ := hv
  have hx := B.exec
  have hb := B.bytes
  have hr := B.returns
  have hts := atoms_spec (ws := wsX12_restore) B.pre
  have hown : s.vm.findClass RX12 = some m.cls := findClass_of_methodNamed B.named
  have hlocks := B.notSynchronized
  have hin12 : ∀ w ∈ u_ws RX12 TX12 52, w ∈ wsX12_restore := by decide +kernel
  subst hsz
  have hD := hD0.self (sz := s.heap.size)
  generalize hAe : va_A [(o, .inr (12, [.int kthrown, .ref ktape, .int (nI ktaped), .int (nI ksize), .int (nI klimit), .int (nI kto), .int (nI kfrom), .int kkind, .int knumber, .int ksign, .int kfault, .int kplace, .long kword, .int ktold, .ref know, .ref kread, .ref kkept, .ref ksnaps, .ref kaside, .ref kname, .ref kreadName, .ref kkeptName, .ref kisKept, .ref konces, .int (nI ksnapMany), .int khasCells, .ref kpoured, .ref kfar, .ref ksides, .int (nI ksideMany), .int kwayDays, .int khasWay, .ref klines, .ref kmet, .int (nI kmetMany), .ref ksunk, .ref ktrying, .int (nI ksunkMany), .int ksending, .int kfleets, .ref ktext, .int (nI ktexts), .int kseed, .ref kline, .ref kwritten, .int (nI klineMany), .int khasWritten, .ref knode, .int (nI knodes), .int (nI konesMany), .int (nI kwithin), .int (nI ktop)])), (know, .inl (ky 0, 373, .inl knowF)), (kname, .inl (ky 1, 12, .inr (.inl knameF))), (kkept, .inl (ky 0, 746, .inl kkeptF)), (kkeptName, .inl (ky 1, 24, .inr (.inl kkeptNameF))), (kisKept, .inl (ky 3, 2, .inl kisKeptF))] s.heap.size = A at hD ⊢
  have hA : ∀ q : Nat, s.heap.size ≤ q → A q := fun q h => by rw [← hAe]; exact Or.inr h
  have hS : va_S A s.heap s.heap [] := va_S.rf
  have hl := lv_entry ([.ref o, .int (nI 1)]) (n := 3) (Nat.le_of_ble_eq_true rfl)
  rw [lg_entry_eq]
  generalize (lg_sl ([.ref o, .int (nI 1)]) ++ List.replicate (3 - (lg_sl ([.ref o, .int (nI 1)])).length) Slot.unset).toArray = ls at hl ⊢
  have hl : lv_has ls 3 [(0, .ref o), (1, .int (nI 1))] := hl
  refine q_name (fun Q hQ => ?_)
  generalize ([.ref o, .int (nI 1)] : List Value).toArray = args at hts hQ ⊢
  refine lv_aload_n hx hb dX12_restore_0 rfl (lv_at hl 0 rfl) ?_
  refine lv_iconst (v := nI 0) hx hb dX12_restore_1 (by decide) ?_
  refine va_put (D := (dC, dI)) (ci := 12) (v := .int (nI 0)) (ty := .int) (C := RX12) (T := TX12) (N := 52) hx hb hts hin12 tyX12 tyX12_ok nmX12 hown hK hP hD hS 0 rfl rfl 0 (by decide) (hts (.fieldLink RX12 1 "PorridgeSeaModel" "thrown" "I") (List.mem_of_getElem? (i := 1) rfl)) (fun _ h9 => h9) rfl (by decide +kernel) rfl rfl (Nat.le_of_ble_eq_true rfl) dX12_restore_2 (fun H locs hP hD hS => ?_)
  have hP : va_P (dC, dI) vwCl [(o, .inr (12, [.int (nI 0), .ref ktape, .int (nI ktaped), .int (nI ksize), .int (nI klimit), .int (nI kto), .int (nI kfrom), .int kkind, .int knumber, .int ksign, .int kfault, .int kplace, .long kword, .int ktold, .ref know, .ref kread, .ref kkept, .ref ksnaps, .ref kaside, .ref kname, .ref kreadName, .ref kkeptName, .ref kisKept, .ref konces, .int (nI ksnapMany), .int khasCells, .ref kpoured, .ref kfar, .ref ksides, .int (nI ksideMany), .int kwayDays, .int khasWay, .ref klines, .ref kmet, .int (nI kmetMany), .ref ksunk, .ref ktrying, .int (nI ksunkMany), .int ksending, .int kfleets, .ref ktext, .int (nI ktexts), .int kseed, .ref kline, .ref kwritten, .int (nI klineMany), .int khasWritten, .ref knode, .int (nI knodes), .int (nI konesMany), .int (nI kwithin), .int (nI ktop)])), (know, .inl (ky 0, 373, .inl knowF)), (kname, .inl (ky 1, 12, .inr (.inl knameF))), (kkept, .inl (ky 0, 746, .inl kkeptF)), (kkeptName, .inl (ky 1, 24, .inr (.inl kkeptNameF))), (kisKept, .inl (ky 3, 2, .inl kisKeptF))] H := hP
  have hD : va_D A [(o, .inr (12, [.int (nI 0), .ref ktape, .int (nI ktaped), .int (nI ksize), .int (nI klimit), .int (nI kto), .int (nI kfrom), .int kkind, .int knumber, .int ksign, .int kfault, .int kplace, .long kword, .int ktold, .ref know, .ref kread, .ref kkept, .ref ksnaps, .ref kaside, .ref kname, .ref kreadName, .ref kkeptName, .ref kisKept, .ref konces, .int (nI ksnapMany), .int khasCells, .ref kpoured, .ref kfar, .ref ksides, .int (nI ksideMany), .int kwayDays, .int khasWay, .ref klines, .ref kmet, .int (nI kmetMany), .ref ksunk, .ref ktrying, .int (nI ksunkMany), .int ksending, .int kfleets, .ref ktext, .int (nI ktexts), .int kseed, .ref kline, .ref kwritten, .int (nI klineMany), .int khasWritten, .ref knode, .int (nI knodes), .int (nI konesMany), .int (nI kwithin), .int (nI ktop)])), (know, .inl (ky 0, 373, .inl knowF)), (kname, .inl (ky 1, 12, .inr (.inl knameF))), (kkept, .inl (ky 0, 746, .inl kkeptF)), (kkeptName, .inl (ky 1, 24, .inr (.inl kkeptNameF))), (kisKept, .inl (ky 3, 2, .inl kisKeptF))] := hD
  refine lv_iload_n hx hb dX12_restore_5 rfl (lv_at hl 1 rfl) ?_
  refine lv_iconst (v := nI 0) hx hb dX12_restore_6 (by decide) ?_
  refine lv_iconst (v := nI 1) hx hb dX12_restore_7 (by decide) ?_
  refine vp_callSi (W.runS (As := [.int (nI 1), .int (nI 0), .int (nI 1)]) (rest := []) ⟨hx, hb, hml, hown, hts⟩ (c_x_isIn l dC dI ky (nI 1) (nI 0) (nI 1)) (va_cwS 3 hts gX12_restore_X12_isIn rfl rfl rfl (by decide +kernel) ⟨(Nat.le_of_ble_eq_true rfl), (Nat.le_of_ble_eq_true rfl)⟩) (pre_PS hK hP [] rfl) rfl rfl hl.1 rfl (lv_room (Nat.le_of_ble_eq_true rfl)) dX12_restore_8 ⟨(Nat.le_of_ble_eq_true rfl), (Nat.le_of_ble_eq_true rfl)⟩) (fun r1 p2 => ?_)
  rcases p2 with ⟨rfl, t3, t4⟩ | ⟨rfl, t5⟩
  · refine lv_if_eq (tgt := 23) hx hb dX12_restore_11 (by decide) (fun c6 => absurd c6 (by decide)) (fun c6 => ?_)
    refine lv_aload_n hx hb dX12_restore_14 rfl (lv_at hl 0 rfl) ?_
    refine va_get (D := (dC, dI)) (ci := 12) (v := .ref kisKept) (C := RX12) (T := TX12) (N := 52) hx hb hts hin12 hown hK hP 0 rfl rfl 22 (by decide) (hts (.fieldLink RX12 123 "PorridgeSeaModel" "isKept" "[Z") (List.mem_of_getElem? (i := 2) rfl)) (fun _ h9 => h9) rfl dX12_restore_15 ?_
    refine lv_iload_n hx hb dX12_restore_18 rfl (lv_at hl 1 rfl) ?_
    obtain ⟨y7, e8⟩ : ∃ z9, z9 = kisKeptF 1 := ⟨_, rfl⟩
    refine r_zald hx hb hK hP 5 rfl 1 (by decide) (by decide) y7 e8.symm dX12_restore_19 ?_
    refine lv_if_ne (tgt := 25) hx hb dX12_restore_20 (by decide) (fun c9 => ?_) (fun c9 => ?_)
    · refine lv_iconst (v := nI 0) hx hb dX12_restore_25 (by decide) ?_
      refine lv_istore_n (lv' := [(2, .int (nI 0)), (0, .ref o), (1, .int (nI 1))]) hx hb dX12_restore_26 rfl hl (by decide) rfl (fun ls hl => ?_)
      have hL19 : ∀ (n20 : Nat) (k16 : Nat) (f17 : Nat → Int32), (k16 ≤ 373) → (∀ j9, j9 < k16 → f17 j9 = kkeptF (373 + j9)) → 373 - k16 < n20 → ∀ (H : Heap) (locs : List Loc) (ls : Array Slot), va_P (dC, dI) vwCl [(o, .inr (12, [.int (nI 0), .ref ktape, .int (nI ktaped), .int (nI ksize), .int (nI klimit), .int (nI kto), .int (nI kfrom), .int kkind, .int knumber, .int ksign, .int kfault, .int kplace, .long kword, .int ktold, .ref know, .ref kread, .ref kkept, .ref ksnaps, .ref kaside, .ref kname, .ref kreadName, .ref kkeptName, .ref kisKept, .ref konces, .int (nI ksnapMany), .int khasCells, .ref kpoured, .ref kfar, .ref ksides, .int (nI ksideMany), .int kwayDays, .int khasWay, .ref klines, .ref kmet, .int (nI kmetMany), .ref ksunk, .ref ktrying, .int (nI ksunkMany), .int ksending, .int kfleets, .ref ktext, .int (nI ktexts), .int kseed, .ref kline, .ref kwritten, .int (nI klineMany), .int khasWritten, .ref knode, .int (nI knodes), .int (nI konesMany), .int (nI kwithin), .int (nI ktop)])), (know, .inl (ky 0, 373, .inl f17)), (kname, .inl (ky 1, 12, .inr (.inl knameF))), (kkept, .inl (ky 0, 746, .inl kkeptF)), (kkeptName, .inl (ky 1, 24, .inr (.inl kkeptNameF))), (kisKept, .inl (ky 3, 2, .inl kisKeptF))] H → va_D A [(o, .inr (12, [.int (nI 0), .ref ktape, .int (nI ktaped), .int (nI ksize), .int (nI klimit), .int (nI kto), .int (nI kfrom), .int kkind, .int knumber, .int ksign, .int kfault, .int kplace, .long kword, .int ktold, .ref know, .ref kread, .ref kkept, .ref ksnaps, .ref kaside, .ref kname, .ref kreadName, .ref kkeptName, .ref kisKept, .ref konces, .int (nI ksnapMany), .int khasCells, .ref kpoured, .ref kfar, .ref ksides, .int (nI ksideMany), .int kwayDays, .int khasWay, .ref klines, .ref kmet, .int (nI kmetMany), .ref ksunk, .ref ktrying, .int (nI ksunkMany), .int ksending, .int kfleets, .ref ktext, .int (nI ktexts), .int kseed, .ref kline, .ref kwritten, .int (nI klineMany), .int khasWritten, .ref knode, .int (nI knodes), .int (nI konesMany), .int (nI kwithin), .int (nI ktop)])), (know, .inl (ky 0, 373, .inl f17)), (kname, .inl (ky 1, 12, .inr (.inl knameF))), (kkept, .inl (ky 0, 746, .inl kkeptF)), (kkeptName, .inl (ky 1, 24, .inr (.inl kkeptNameF))), (kisKept, .inl (ky 3, 2, .inl kisKeptF))] → va_S A s.heap H locs → lv_has ls 3 [(2, .int (nI k16)), (0, .ref o), (1, .int (nI 1))] → W p l e (headSpec wsX12_restore ({ frames := 1, cells := 0, slots := 0, locals := 22 })).room s m args below meth c H locs 0 0 Q (F0 m 27 ls []) := by
        intro n20
        induction n20 with
        | zero => intro k16 f17 _ _ h9; exact absurd h9 (Nat.not_lt_zero _)
        | succ n20 ih21 =>
          intro k16 f17 j18 hpre hm22 H locs ls hP hD hS hl
          refine lv_iload_n hx hb dX12_restore_27 rfl (lv_at hl 0 rfl) ?_
          refine lv_sipush (v := nI 373) hx hb dX12_restore_28 (by decide) ?_
          refine n_icmp_ge (x := k16) (y := 373) (tgt := 58) hx hb (by omega) (by omega) dX12_restore_31 (by decide) (fun c23 => ?_) (fun c23 => ?_)
          · refine lv_iconst (v := nI 0) hx hb dX12_restore_58 (by decide) ?_
            refine lv_istore_n (lv' := [(2, .int (nI 0)), (0, .ref o), (1, .int (nI 1))]) hx hb dX12_restore_59 rfl hl (by decide) rfl (fun ls hl => ?_)
            have hL33 : ∀ (n34 : Nat) (k30 : Nat) (f31 : Nat → Int64), (k30 ≤ 12) → 12 - k30 < n34 → ∀ (H : Heap) (locs : List Loc) (ls : Array Slot), va_P (dC, dI) vwCl [(o, .inr (12, [.int (nI 0), .ref ktape, .int (nI ktaped), .int (nI ksize), .int (nI klimit), .int (nI kto), .int (nI kfrom), .int kkind, .int knumber, .int ksign, .int kfault, .int kplace, .long kword, .int ktold, .ref know, .ref kread, .ref kkept, .ref ksnaps, .ref kaside, .ref kname, .ref kreadName, .ref kkeptName, .ref kisKept, .ref konces, .int (nI ksnapMany), .int khasCells, .ref kpoured, .ref kfar, .ref ksides, .int (nI ksideMany), .int kwayDays, .int khasWay, .ref klines, .ref kmet, .int (nI kmetMany), .ref ksunk, .ref ktrying, .int (nI ksunkMany), .int ksending, .int kfleets, .ref ktext, .int (nI ktexts), .int kseed, .ref kline, .ref kwritten, .int (nI klineMany), .int khasWritten, .ref knode, .int (nI knodes), .int (nI konesMany), .int (nI kwithin), .int (nI ktop)])), (know, .inl (ky 0, 373, .inl f17)), (kname, .inl (ky 1, 12, .inr (.inl f31))), (kkept, .inl (ky 0, 746, .inl kkeptF)), (kkeptName, .inl (ky 1, 24, .inr (.inl kkeptNameF))), (kisKept, .inl (ky 3, 2, .inl kisKeptF))] H → va_D A [(o, .inr (12, [.int (nI 0), .ref ktape, .int (nI ktaped), .int (nI ksize), .int (nI klimit), .int (nI kto), .int (nI kfrom), .int kkind, .int knumber, .int ksign, .int kfault, .int kplace, .long kword, .int ktold, .ref know, .ref kread, .ref kkept, .ref ksnaps, .ref kaside, .ref kname, .ref kreadName, .ref kkeptName, .ref kisKept, .ref konces, .int (nI ksnapMany), .int khasCells, .ref kpoured, .ref kfar, .ref ksides, .int (nI ksideMany), .int kwayDays, .int khasWay, .ref klines, .ref kmet, .int (nI kmetMany), .ref ksunk, .ref ktrying, .int (nI ksunkMany), .int ksending, .int kfleets, .ref ktext, .int (nI ktexts), .int kseed, .ref kline, .ref kwritten, .int (nI klineMany), .int khasWritten, .ref knode, .int (nI knodes), .int (nI konesMany), .int (nI kwithin), .int (nI ktop)])), (know, .inl (ky 0, 373, .inl f17)), (kname, .inl (ky 1, 12, .inr (.inl f31))), (kkept, .inl (ky 0, 746, .inl kkeptF)), (kkeptName, .inl (ky 1, 24, .inr (.inl kkeptNameF))), (kisKept, .inl (ky 3, 2, .inl kisKeptF))] → va_S A s.heap H locs → lv_has ls 3 [(2, .int (nI k30)), (0, .ref o), (1, .int (nI 1))] → W p l e (headSpec wsX12_restore ({ frames := 1, cells := 0, slots := 0, locals := 22 })).room s m args below meth c H locs 0 0 Q (F0 m 60 ls []) := by
              intro n34
              induction n34 with
              | zero => intro k30 f31 _ h9; exact absurd h9 (Nat.not_lt_zero _)
              | succ n34 ih35 =>
                intro k30 f31 j32 hm36 H locs ls hP hD hS hl
                refine lv_iload_n hx hb dX12_restore_60 rfl (lv_at hl 0 rfl) ?_
                refine lv_bipush (v := nI 12) hx hb dX12_restore_61 (by decide) ?_
                refine n_icmp_ge (x := k30) (y := 12) (tgt := 89) hx hb (by omega) (by omega) dX12_restore_63 (by decide) (fun c37 => ?_) (fun c37 => ?_)
                · refine lv_aload_n hx hb dX12_restore_89 rfl (lv_at hl 1 rfl) ?_
                  refine lv_iconst (v := nI 0) hx hb dX12_restore_90 (by decide) ?_
                  refine va_put (D := (dC, dI)) (ci := 12) (v := .int (nI 0)) (ty := .int) (C := RX12) (T := TX12) (N := 52) hx hb hts hin12 tyX12 tyX12_ok nmX12 hown hK hP hD hS 0 rfl rfl 24 (by decide) (hts (.fieldLink RX12 237 "PorridgeSeaModel" "snapMany" "I") (List.mem_of_getElem? (i := 7) rfl)) (fun _ h9 => h9) rfl (by decide +kernel) rfl rfl (Nat.le_of_ble_eq_true rfl) dX12_restore_91 (fun H locs hP hD hS => ?_)
                  have hP : va_P (dC, dI) vwCl [(o, .inr (12, [.int (nI 0), .ref ktape, .int (nI ktaped), .int (nI ksize), .int (nI klimit), .int (nI kto), .int (nI kfrom), .int kkind, .int knumber, .int ksign, .int kfault, .int kplace, .long kword, .int ktold, .ref know, .ref kread, .ref kkept, .ref ksnaps, .ref kaside, .ref kname, .ref kreadName, .ref kkeptName, .ref kisKept, .ref konces, .int (nI 0), .int khasCells, .ref kpoured, .ref kfar, .ref ksides, .int (nI ksideMany), .int kwayDays, .int khasWay, .ref klines, .ref kmet, .int (nI kmetMany), .ref ksunk, .ref ktrying, .int (nI ksunkMany), .int ksending, .int kfleets, .ref ktext, .int (nI ktexts), .int kseed, .ref kline, .ref kwritten, .int (nI klineMany), .int khasWritten, .ref knode, .int (nI knodes), .int (nI konesMany), .int (nI kwithin), .int (nI ktop)])), (know, .inl (ky 0, 373, .inl f17)), (kname, .inl (ky 1, 12, .inr (.inl f31))), (kkept, .inl (ky 0, 746, .inl kkeptF)), (kkeptName, .inl (ky 1, 24, .inr (.inl kkeptNameF))), (kisKept, .inl (ky 3, 2, .inl kisKeptF))] H := hP
                  have hD : va_D A [(o, .inr (12, [.int (nI 0), .ref ktape, .int (nI ktaped), .int (nI ksize), .int (nI klimit), .int (nI kto), .int (nI kfrom), .int kkind, .int knumber, .int ksign, .int kfault, .int kplace, .long kword, .int ktold, .ref know, .ref kread, .ref kkept, .ref ksnaps, .ref kaside, .ref kname, .ref kreadName, .ref kkeptName, .ref kisKept, .ref konces, .int (nI 0), .int khasCells, .ref kpoured, .ref kfar, .ref ksides, .int (nI ksideMany), .int kwayDays, .int khasWay, .ref klines, .ref kmet, .int (nI kmetMany), .ref ksunk, .ref ktrying, .int (nI ksunkMany), .int ksending, .int kfleets, .ref ktext, .int (nI ktexts), .int kseed, .ref kline, .ref kwritten, .int (nI klineMany), .int khasWritten, .ref knode, .int (nI knodes), .int (nI konesMany), .int (nI kwithin), .int (nI ktop)])), (know, .inl (ky 0, 373, .inl f17)), (kname, .inl (ky 1, 12, .inr (.inl f31))), (kkept, .inl (ky 0, 746, .inl kkeptF)), (kkeptName, .inl (ky 1, 24, .inr (.inl kkeptNameF))), (kisKept, .inl (ky 3, 2, .inl kisKeptF))] := hD
                  refine lv_iconst (v := nI 1) hx hb dX12_restore_94 (by decide) ?_
                  rw [hQ]
                  exact W.zret (v := nI 1) hx hb hr (by decide) (fun t9 ht9 hW9 => ⟨⟨nI 1, (nI 0, 0, f17, f31), rfl, ⟨(lf_x_restore1_1 kkeptF kisKeptF y7 k16 f17 n20 kb0 kb1 t3 t4 e8 c9 j18 hpre hm22 c23), (lf_x_restore1_2 t3 t4), (lf_x_restore1_3 kkeptF kisKeptF y7 k16 f17 n20 kb0 kb1 t3 t4 e8 c9 j18 hpre hm22 c23), (lf_x_restore1_4 kkeptF kisKeptF y7 k16 f17 n20 kb0 kb1 t3 t4 e8 c9 j18 hpre hm22 c23)⟩, by rw [ht9]; exact hP, va_K.moved hW9.alike hK, hD⟩, hS.F ht9⟩) hS.2.2 dX12_restore_95
                · refine lv_aload_n hx hb dX12_restore_66 rfl (lv_at hl 1 rfl) ?_
                  refine va_get (D := (dC, dI)) (ci := 12) (v := .ref kname) (C := RX12) (T := TX12) (N := 52) hx hb hts hin12 hown hK hP 0 rfl rfl 19 (by decide) (hts (.fieldLink RX12 113 "PorridgeSeaModel" "name" "[J") (List.mem_of_getElem? (i := 5) rfl)) (fun _ h9 => h9) rfl dX12_restore_67 ?_
                  refine lv_iload_n hx hb dX12_restore_70 rfl (lv_at hl 0 rfl) ?_
                  refine lv_aload_n hx hb dX12_restore_71 rfl (lv_at hl 1 rfl) ?_
                  refine va_get (D := (dC, dI)) (ci := 12) (v := .ref kkeptName) (C := RX12) (T := TX12) (N := 52) hx hb hts hin12 hown hK hP 0 rfl rfl 21 (by decide) (hts (.fieldLink RX12 120 "PorridgeSeaModel" "keptName" "[J") (List.mem_of_getElem? (i := 6) rfl)) (fun _ h9 => h9) rfl dX12_restore_72 ?_
                  refine lv_bipush (v := nI 12) hx hb dX12_restore_75 (by decide) ?_
                  refine lv_iload_n hx hb dX12_restore_77 rfl (lv_at hl 2 rfl) ?_
                  refine lv_imul hx hb dX12_restore_78 ?_
                  refine r_ti (nI 12) (by decide) ?_
                  refine lv_iload_n hx hb dX12_restore_79 rfl (lv_at hl 0 rfl) ?_
                  refine lv_iadd hx hb dX12_restore_80 ?_
                  refine r_ti (nI (12 + k30)) (nI_add _ _) ?_
                  obtain ⟨y38, e39⟩ : ∃ z9, z9 = kkeptNameF (12 + k30) := ⟨_, rfl⟩
                  refine r_lald hx hb hK hP 4 rfl (12 + k30) (lf_x_restore1_5 kkeptNameF k30 n34 y38 t3 t4 j32 hm36 c37 e39) (by decide) y38 e39.symm dX12_restore_81 ?_
                  refine r_last (x := y38) hx hb hK hP hD hS 2 rfl k30 (lf_x_restore1_6 kkeptNameF k30 n34 y38 t3 t4 j32 hm36 c37 e39) (by decide) dX12_restore_82 (fun H locs hP hD hS => ?_)
                  obtain ⟨g40, e41⟩ : ∃ z9, z9 = vp_updL f31 k30 y38 := ⟨_, rfl⟩
                  rw [← e41] at hP hD
                  have hP : va_P (dC, dI) vwCl [(o, .inr (12, [.int (nI 0), .ref ktape, .int (nI ktaped), .int (nI ksize), .int (nI klimit), .int (nI kto), .int (nI kfrom), .int kkind, .int knumber, .int ksign, .int kfault, .int kplace, .long kword, .int ktold, .ref know, .ref kread, .ref kkept, .ref ksnaps, .ref kaside, .ref kname, .ref kreadName, .ref kkeptName, .ref kisKept, .ref konces, .int (nI ksnapMany), .int khasCells, .ref kpoured, .ref kfar, .ref ksides, .int (nI ksideMany), .int kwayDays, .int khasWay, .ref klines, .ref kmet, .int (nI kmetMany), .ref ksunk, .ref ktrying, .int (nI ksunkMany), .int ksending, .int kfleets, .ref ktext, .int (nI ktexts), .int kseed, .ref kline, .ref kwritten, .int (nI klineMany), .int khasWritten, .ref knode, .int (nI knodes), .int (nI konesMany), .int (nI kwithin), .int (nI ktop)])), (know, .inl (ky 0, 373, .inl f17)), (kname, .inl (ky 1, 12, .inr (.inl g40))), (kkept, .inl (ky 0, 746, .inl kkeptF)), (kkeptName, .inl (ky 1, 24, .inr (.inl kkeptNameF))), (kisKept, .inl (ky 3, 2, .inl kisKeptF))] H := hP
                  have hD : va_D A [(o, .inr (12, [.int (nI 0), .ref ktape, .int (nI ktaped), .int (nI ksize), .int (nI klimit), .int (nI kto), .int (nI kfrom), .int kkind, .int knumber, .int ksign, .int kfault, .int kplace, .long kword, .int ktold, .ref know, .ref kread, .ref kkept, .ref ksnaps, .ref kaside, .ref kname, .ref kreadName, .ref kkeptName, .ref kisKept, .ref konces, .int (nI ksnapMany), .int khasCells, .ref kpoured, .ref kfar, .ref ksides, .int (nI ksideMany), .int kwayDays, .int khasWay, .ref klines, .ref kmet, .int (nI kmetMany), .ref ksunk, .ref ktrying, .int (nI ksunkMany), .int ksending, .int kfleets, .ref ktext, .int (nI ktexts), .int kseed, .ref kline, .ref kwritten, .int (nI klineMany), .int khasWritten, .ref knode, .int (nI knodes), .int (nI konesMany), .int (nI kwithin), .int (nI ktop)])), (know, .inl (ky 0, 373, .inl f17)), (kname, .inl (ky 1, 12, .inr (.inl g40))), (kkept, .inl (ky 0, 746, .inl kkeptF)), (kkeptName, .inl (ky 1, 24, .inr (.inl kkeptNameF))), (kisKept, .inl (ky 3, 2, .inl kisKeptF))] := hD
                  refine lv_iinc (v := nI (k30 + 1)) (lv' := [(2, .int (nI (k30 + 1))), (0, .ref o), (1, .int (nI 1))]) hx hb dX12_restore_83 hl (k := 0) rfl (show nI k30 + nI 1 = nI (k30 + 1) from nI_add _ _) (by decide) rfl (fun ls hl => ?_)
                  refine lv_goto (tgt := 60) hx hb dX12_restore_86 (by decide) ?_
                  exact ih35 (k30 + 1) g40 (lf_x_restore1_7 kkeptNameF k30 n34 y38 t3 t4 j32 hm36 c37 e39) (lf_x_restore1_8 kkeptNameF k30 n34 y38 t3 t4 j32 hm36 c37 e39) _ _ _ hP hD hS (lv_sub hl [0, 1, 2] rfl)
            exact hL33 ((12 - 0) + 1) 0 knameF (lf_x_restore1_9 t3 t4) (Nat.lt_succ_self _) _ _ _ hP hD hS (lv_sub hl [0, 1, 2] rfl)
          · refine lv_aload_n hx hb dX12_restore_34 rfl (lv_at hl 1 rfl) ?_
            refine va_get (D := (dC, dI)) (ci := 12) (v := .ref know) (C := RX12) (T := TX12) (N := 52) hx hb hts hin12 hown hK hP 0 rfl rfl 14 (by decide) (hts (.fieldLink RX12 98 "PorridgeSeaModel" "now" "[I") (List.mem_of_getElem? (i := 3) rfl)) (fun _ h9 => h9) rfl dX12_restore_35 ?_
            refine lv_iload_n hx hb dX12_restore_38 rfl (lv_at hl 0 rfl) ?_
            refine lv_aload_n hx hb dX12_restore_39 rfl (lv_at hl 1 rfl) ?_
            refine va_get (D := (dC, dI)) (ci := 12) (v := .ref kkept) (C := RX12) (T := TX12) (N := 52) hx hb hts hin12 hown hK hP 0 rfl rfl 16 (by decide) (hts (.fieldLink RX12 104 "PorridgeSeaModel" "kept" "[I") (List.mem_of_getElem? (i := 4) rfl)) (fun _ h9 => h9) rfl dX12_restore_40 ?_
            refine lv_sipush (v := nI 373) hx hb dX12_restore_43 (by decide) ?_
            refine lv_iload_n hx hb dX12_restore_46 rfl (lv_at hl 2 rfl) ?_
            refine lv_imul hx hb dX12_restore_47 ?_
            refine r_ti (nI 373) (by decide) ?_
            refine lv_iload_n hx hb dX12_restore_48 rfl (lv_at hl 0 rfl) ?_
            refine lv_iadd hx hb dX12_restore_49 ?_
            refine r_ti (nI (373 + k16)) (nI_add _ _) ?_
            obtain ⟨y42, e43⟩ : ∃ z9, z9 = kkeptF (373 + k16) := ⟨_, rfl⟩
            refine r_iald hx hb hK hP 3 rfl (373 + k16) (lf_x_restore1_10 kkeptF kisKeptF y7 k16 f17 n20 y42 kb0 kb1 t3 t4 e8 c9 j18 hpre hm22 c23 e43) (by decide) y42 e43.symm dX12_restore_50 ?_
            refine r_iast (x := y42) hx hb hK hP hD hS 1 rfl k16 (lf_x_restore1_11 kkeptF kisKeptF y7 k16 f17 n20 y42 kb0 kb1 t3 t4 e8 c9 j18 hpre hm22 c23 e43) (by decide) dX12_restore_51 (fun H locs hP hD hS => ?_)
            obtain ⟨g44, e45⟩ : ∃ z9, z9 = upd f17 k16 y42 := ⟨_, rfl⟩
            rw [← e45] at hP hD
            have hP : va_P (dC, dI) vwCl [(o, .inr (12, [.int (nI 0), .ref ktape, .int (nI ktaped), .int (nI ksize), .int (nI klimit), .int (nI kto), .int (nI kfrom), .int kkind, .int knumber, .int ksign, .int kfault, .int kplace, .long kword, .int ktold, .ref know, .ref kread, .ref kkept, .ref ksnaps, .ref kaside, .ref kname, .ref kreadName, .ref kkeptName, .ref kisKept, .ref konces, .int (nI ksnapMany), .int khasCells, .ref kpoured, .ref kfar, .ref ksides, .int (nI ksideMany), .int kwayDays, .int khasWay, .ref klines, .ref kmet, .int (nI kmetMany), .ref ksunk, .ref ktrying, .int (nI ksunkMany), .int ksending, .int kfleets, .ref ktext, .int (nI ktexts), .int kseed, .ref kline, .ref kwritten, .int (nI klineMany), .int khasWritten, .ref knode, .int (nI knodes), .int (nI konesMany), .int (nI kwithin), .int (nI ktop)])), (know, .inl (ky 0, 373, .inl g44)), (kname, .inl (ky 1, 12, .inr (.inl knameF))), (kkept, .inl (ky 0, 746, .inl kkeptF)), (kkeptName, .inl (ky 1, 24, .inr (.inl kkeptNameF))), (kisKept, .inl (ky 3, 2, .inl kisKeptF))] H := hP
            have hD : va_D A [(o, .inr (12, [.int (nI 0), .ref ktape, .int (nI ktaped), .int (nI ksize), .int (nI klimit), .int (nI kto), .int (nI kfrom), .int kkind, .int knumber, .int ksign, .int kfault, .int kplace, .long kword, .int ktold, .ref know, .ref kread, .ref kkept, .ref ksnaps, .ref kaside, .ref kname, .ref kreadName, .ref kkeptName, .ref kisKept, .ref konces, .int (nI ksnapMany), .int khasCells, .ref kpoured, .ref kfar, .ref ksides, .int (nI ksideMany), .int kwayDays, .int khasWay, .ref klines, .ref kmet, .int (nI kmetMany), .ref ksunk, .ref ktrying, .int (nI ksunkMany), .int ksending, .int kfleets, .ref ktext, .int (nI ktexts), .int kseed, .ref kline, .ref kwritten, .int (nI klineMany), .int khasWritten, .ref knode, .int (nI knodes), .int (nI konesMany), .int (nI kwithin), .int (nI ktop)])), (know, .inl (ky 0, 373, .inl g44)), (kname, .inl (ky 1, 12, .inr (.inl knameF))), (kkept, .inl (ky 0, 746, .inl kkeptF)), (kkeptName, .inl (ky 1, 24, .inr (.inl kkeptNameF))), (kisKept, .inl (ky 3, 2, .inl kisKeptF))] := hD
            refine lv_iinc (v := nI (k16 + 1)) (lv' := [(2, .int (nI (k16 + 1))), (0, .ref o), (1, .int (nI 1))]) hx hb dX12_restore_52 hl (k := 0) rfl (show nI k16 + nI 1 = nI (k16 + 1) from nI_add _ _) (by decide) rfl (fun ls hl => ?_)
            refine lv_goto (tgt := 27) hx hb dX12_restore_55 (by decide) ?_
            exact ih21 (k16 + 1) g44 (lf_x_restore1_12 kkeptF kisKeptF y7 k16 f17 n20 y42 g44 kb0 kb1 t3 t4 e8 c9 j18 hpre hm22 c23 e43 e45) (lf_x_restore1_13 kkeptF kisKeptF y7 k16 f17 n20 y42 g44 kb0 kb1 t3 t4 e8 c9 j18 hpre hm22 c23 e43 e45) (lf_x_restore1_14 kkeptF kisKeptF y7 k16 f17 n20 y42 g44 kb0 kb1 t3 t4 e8 c9 j18 hpre hm22 c23 e43 e45) _ _ _ hP hD hS (lv_sub hl [0, 1, 2] rfl)
      exact hL19 ((373 - 0) + 1) 0 knowF (lf_x_restore1_15 t3 t4) (lf_x_restore1_16 knowF kkeptF kisKeptF y7 ab_now sb_now kb0 kb1 t3 t4 e8 c9) (Nat.lt_succ_self _) _ _ _ hP hD hS (lv_sub hl [0, 1, 2] rfl)
    · refine lv_iconst (v := nI 0) hx hb dX12_restore_23 (by decide) ?_
      rw [hQ]
      exact W.zret (v := nI 0) hx hb hr (by decide) (fun t9 ht9 hW9 => ⟨⟨nI 0, (nI 0, ksnapMany, knowF, knameF), rfl, ⟨(lf_x_restore1_17 kkeptF kisKeptF y7 kb0 kb1 t3 t4 e8 c9), iv_ko_5, ab_now, sb_now⟩, by rw [ht9]; exact hP, va_K.moved hW9.alike hK, hD⟩, hS.F ht9⟩) hS.2.2 dX12_restore_24
  · refine lv_if_eq (tgt := 23) hx hb dX12_restore_11 (by decide) (fun c46 => ?_) (fun c46 => absurd (by decide) c46)
    refine lv_iconst (v := nI 0) hx hb dX12_restore_23 (by decide) ?_
    rw [hQ]
    exact W.zret (v := nI 0) hx hb hr (by decide) (fun t9 ht9 hW9 => ⟨⟨nI 0, (nI 0, ksnapMany, knowF, knameF), rfl, ⟨(lf_x_restore1_18 kkeptF kisKeptF kb0 kb1 t5), iv_ko_5, ab_now, sb_now⟩, by rw [ht9]; exact hP, va_K.moved hW9.alike hK, hD⟩, hS.F ht9⟩) hS.2.2 dX12_restore_24
