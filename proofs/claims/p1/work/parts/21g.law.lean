theorem dL_law_414 : decode cL_law 414 = .ok (.aload_n 1, 1) := by decide +kernel
theorem dL_law_415 : decode cL_law 415 = .ok (.aload_n 0, 1) := by decide +kernel
theorem dL_law_416 : decode cL_law 416 = .ok (.iload 4, 2) := by decide +kernel
theorem dL_law_418 : decode cL_law 418 = .ok (.iconst 1, 1) := by decide +kernel
theorem dL_law_419 : decode cL_law 419 = .ok (.iadd, 1) := by decide +kernel
theorem dL_law_420 : decode cL_law 420 = .ok (.iaload, 1) := by decide +kernel
theorem dL_law_421 : decode cL_law 421 = .ok (.aload_n 0, 1) := by decide +kernel
theorem dL_law_422 : decode cL_law 422 = .ok (.iload 4, 2) := by decide +kernel
theorem dL_law_424 : decode cL_law 424 = .ok (.iconst 2, 1) := by decide +kernel
theorem dL_law_425 : decode cL_law 425 = .ok (.iadd, 1) := by decide +kernel
theorem dL_law_426 : decode cL_law 426 = .ok (.iaload, 1) := by decide +kernel
theorem dL_law_427 : decode cL_law 427 = .ok (.aload_n 3, 1) := by decide +kernel
theorem dL_law_428 : decode cL_law 428 = .ok (.invokestatic 49, 3) := by decide +kernel
theorem dL_law_431 : decode cL_law 431 = .ok (.istore 5, 2) := by decide +kernel
theorem dL_law_433 : decode cL_law 433 = .ok (.aload_n 2, 1) := by decide +kernel
theorem dL_law_434 : decode cL_law 434 = .ok (.aload_n 0, 1) := by decide +kernel
theorem dL_law_435 : decode cL_law 435 = .ok (.iload 4, 2) := by decide +kernel
theorem dL_law_437 : decode cL_law 437 = .ok (.iconst 1, 1) := by decide +kernel
theorem dL_law_438 : decode cL_law 438 = .ok (.iadd, 1) := by decide +kernel
theorem dL_law_439 : decode cL_law 439 = .ok (.iaload, 1) := by decide +kernel
theorem dL_law_440 : decode cL_law 440 = .ok (.aload_n 0, 1) := by decide +kernel
theorem dL_law_441 : decode cL_law 441 = .ok (.iload 4, 2) := by decide +kernel
theorem dL_law_443 : decode cL_law 443 = .ok (.iconst 2, 1) := by decide +kernel
theorem dL_law_444 : decode cL_law 444 = .ok (.iadd, 1) := by decide +kernel
theorem dL_law_445 : decode cL_law 445 = .ok (.iaload, 1) := by decide +kernel
theorem dL_law_446 : decode cL_law 446 = .ok (.invokevirtual 54, 3) := by decide +kernel
theorem dL_law_449 : decode cL_law 449 = .ok (.istore 6, 2) := by decide +kernel
theorem dL_law_451 : decode cL_law 451 = .ok (.aload_n 2, 1) := by decide +kernel
theorem dL_law_452 : decode cL_law 452 = .ok (.invokevirtual 55, 3) := by decide +kernel
theorem dL_law_455 : decode cL_law 455 = .ok (.iload 5, 2) := by decide +kernel
theorem dL_law_457 : decode cL_law 457 = .ok (.if_icmp .eq 5, 3) := by decide +kernel
theorem dL_law_462 : decode cL_law 462 = .ok (.iload 5, 2) := by decide +kernel
theorem dL_law_464 : decode cL_law 464 = .ok (.ifCond .ne 15, 3) := by decide +kernel
theorem dL_law_479 : decode cL_law 479 = .ok (.goto 955, 3) := by decide +kernel
theorem dL_law_1029 : decode cL_law 1029 = .ok (.aload_n 1, 1) := by decide +kernel
theorem dL_law_1030 : decode cL_law 1030 = .ok (.aload_n 0, 1) := by decide +kernel
theorem dL_law_1031 : decode cL_law 1031 = .ok (.iload 4, 2) := by decide +kernel
theorem dL_law_1033 : decode cL_law 1033 = .ok (.iconst 1, 1) := by decide +kernel
theorem dL_law_1034 : decode cL_law 1034 = .ok (.iadd, 1) := by decide +kernel
theorem dL_law_1035 : decode cL_law 1035 = .ok (.iaload, 1) := by decide +kernel
theorem dL_law_1036 : decode cL_law 1036 = .ok (.aload_n 0, 1) := by decide +kernel
theorem dL_law_1037 : decode cL_law 1037 = .ok (.iload 4, 2) := by decide +kernel
theorem dL_law_1039 : decode cL_law 1039 = .ok (.iconst 2, 1) := by decide +kernel
theorem dL_law_1040 : decode cL_law 1040 = .ok (.iadd, 1) := by decide +kernel
theorem dL_law_1041 : decode cL_law 1041 = .ok (.iaload, 1) := by decide +kernel
theorem dL_law_1042 : decode cL_law 1042 = .ok (.aload_n 3, 1) := by decide +kernel
theorem dL_law_1043 : decode cL_law 1043 = .ok (.invokestatic 136, 3) := by decide +kernel
theorem dL_law_1046 : decode cL_law 1046 = .ok (.istore 5, 2) := by decide +kernel
theorem dL_law_1048 : decode cL_law 1048 = .ok (.aload_n 2, 1) := by decide +kernel
theorem dL_law_1049 : decode cL_law 1049 = .ok (.aload_n 0, 1) := by decide +kernel
theorem dL_law_1050 : decode cL_law 1050 = .ok (.iload 4, 2) := by decide +kernel
theorem dL_law_1052 : decode cL_law 1052 = .ok (.iconst 1, 1) := by decide +kernel
theorem dL_law_1053 : decode cL_law 1053 = .ok (.iadd, 1) := by decide +kernel
theorem dL_law_1054 : decode cL_law 1054 = .ok (.iaload, 1) := by decide +kernel
theorem dL_law_1055 : decode cL_law 1055 = .ok (.aload_n 0, 1) := by decide +kernel
theorem dL_law_1056 : decode cL_law 1056 = .ok (.iload 4, 2) := by decide +kernel
theorem dL_law_1058 : decode cL_law 1058 = .ok (.iconst 2, 1) := by decide +kernel
theorem dL_law_1059 : decode cL_law 1059 = .ok (.iadd, 1) := by decide +kernel
theorem dL_law_1060 : decode cL_law 1060 = .ok (.iaload, 1) := by decide +kernel
theorem dL_law_1061 : decode cL_law 1061 = .ok (.invokevirtual 138, 3) := by decide +kernel
theorem dL_law_1064 : decode cL_law 1064 = .ok (.istore 6, 2) := by decide +kernel
theorem dL_law_1066 : decode cL_law 1066 = .ok (.aload_n 2, 1) := by decide +kernel
theorem dL_law_1067 : decode cL_law 1067 = .ok (.invokevirtual 55, 3) := by decide +kernel
theorem dL_law_1070 : decode cL_law 1070 = .ok (.iload 5, 2) := by decide +kernel
theorem dL_law_1072 : decode cL_law 1072 = .ok (.if_icmp .eq 5, 3) := by decide +kernel
theorem dL_law_1077 : decode cL_law 1077 = .ok (.iload 5, 2) := by decide +kernel
theorem dL_law_1079 : decode cL_law 1079 = .ok (.ifCond .ne 15, 3) := by decide +kernel
theorem dL_law_1082 : decode cL_law 1082 = .ok (.aload_n 3, 1) := by decide +kernel
theorem dL_law_1083 : decode cL_law 1083 = .ok (.iconst 0, 1) := by decide +kernel
theorem dL_law_1084 : decode cL_law 1084 = .ok (.laload, 1) := by decide +kernel
theorem dL_law_1085 : decode cL_law 1085 = .ok (.iload 6, 2) := by decide +kernel
theorem dL_law_1087 : decode cL_law 1087 = .ok (.i2l, 1) := by decide +kernel
theorem dL_law_1088 : decode cL_law 1088 = .ok (.lcmp, 1) := by decide +kernel
theorem dL_law_1089 : decode cL_law 1089 = .ok (.ifCond .eq 5, 3) := by decide +kernel
theorem dL_law_1094 : decode cL_law 1094 = .ok (.goto 340, 3) := by decide +kernel
set_option maxRecDepth 20000 in
theorem lf_m_meanOk0_1 (o : Nat) (ktape : Nat) (know : Nat) (kread : Nat) (kkept : Nat) (ksnaps : Nat) (kaside : Nat) (kname : Nat) (kreadName : Nat) (kkeptName : Nat) (kisKept : Nat) (konces : Nat) (kpoured : Nat) (kfar : Nat) (ksides : Nat) (klines : Nat) (kmet : Nat) (ksunk : Nat) (ktrying : Nat) (ktext : Nat) (kline : Nat) (kwritten : Nat) (knode : Nat) (knowF : Nat → Int32) (x : Nat) (r1 : Int32) (hN : NowOk knowF) (hx4 : x < 4) (p2 : (r1 = nI 1 ∧ (0 ≤ (nI x).toInt ∧ (nI x).toInt < 4)) ∨ (r1 = nI 0 ∧ ¬ (0 ≤ (nI x).toInt ∧ (nI x).toInt < 4))) (c3 : r1 = 0) : False := by
  have k_0 := ia_n 1 (by decide)
  have k_1 := ia_n x (by omega)
  have k_2 := ia_n 0 (by decide)
  try simp only [ia_lt, ia_le, ia_eq, ia_m1, ia_0, ia_1, ne_eq, true_and, and_true, false_and, and_false, or_false, false_or, or_true, true_or, not_true_eq_false, not_false_eq_true] at *
  all_goals omega
set_option maxRecDepth 20000 in
theorem lf_m_meanOk0_2 (o : Nat) (ktape : Nat) (know : Nat) (kread : Nat) (kkept : Nat) (ksnaps : Nat) (kaside : Nat) (kname : Nat) (kreadName : Nat) (kkeptName : Nat) (kisKept : Nat) (konces : Nat) (kpoured : Nat) (kfar : Nat) (ksides : Nat) (klines : Nat) (kmet : Nat) (ksunk : Nat) (ktrying : Nat) (ktext : Nat) (kline : Nat) (kwritten : Nat) (knode : Nat) (knowF : Nat → Int32) (x : Nat) (r1 : Int32) (r4 : Int32) (hN : NowOk knowF) (hx4 : x < 4) (p2 : (r1 = nI 1 ∧ (0 ≤ (nI x).toInt ∧ (nI x).toInt < 4)) ∨ (r1 = nI 0 ∧ ¬ (0 ≤ (nI x).toInt ∧ (nI x).toInt < 4))) (c3 : ¬ r1 = 0) (p5 : (r4 = nI 1 ∧ (nI 0).toInt ≤ (nI 0).toInt ∧ (nI 0).toInt ≤ (nI 1).toInt) ∨ (r4 = nI 0 ∧ ¬ ((nI 0).toInt ≤ (nI 0).toInt ∧ (nI 0).toInt ≤ (nI 1).toInt))) (c6 : r4 = 0) : False := by
  have k_0 := ia_n 1 (by decide)
  have k_1 := ia_n x (by omega)
  have k_2 := ia_n 0 (by decide)
  try simp only [ia_lt, ia_le, ia_eq, ia_m1, ia_0, ia_1, ne_eq, true_and, and_true, false_and, and_false, or_false, false_or, or_true, true_or, not_true_eq_false, not_false_eq_true] at *
  all_goals omega
set_option maxHeartbeats 4000000 in
set_option maxRecDepth 100000 in
theorem c_m_meanOk0 (l : Launch) (dC : Nat → ClassId) (dI : Nat → Nat → Nat) (ky : Nat → ClassId) (sz : Nat) (o : Nat) (ktape : Nat) (know : Nat) (kread : Nat) (kkept : Nat) (ksnaps : Nat) (kaside : Nat) (kname : Nat) (kreadName : Nat) (kkeptName : Nat) (kisKept : Nat) (konces : Nat) (kpoured : Nat) (kfar : Nat) (ksides : Nat) (klines : Nat) (kmet : Nat) (ksunk : Nat) (ktrying : Nat) (ktext : Nat) (kline : Nat) (kwritten : Nat) (knode : Nat) (knowF : Nat → Int32) (x : Nat) (hN : NowOk knowF) (hx4 : x < 4) : Met l yX12_mean wsX12_mean ({ frames := 2, cells := 0, slots := 0, locals := 44 }) (PcU dC dI ky [.ref o, .int (nI x), .int (nI 0)] [(o, .inr (12, [.int (nI 0), .ref ktape, .int (nI 0), .int (nI 0), .int (nI 0), .int (nI 0), .int (nI 0), .int (nI 0), .int (nI 0), .int (nI 0), .int (nI 0), .int (nI 0), .long 0, .int (nI 0), .ref know, .ref kread, .ref kkept, .ref ksnaps, .ref kaside, .ref kname, .ref kreadName, .ref kkeptName, .ref kisKept, .ref konces, .int (nI 0), .int (nI 0), .ref kpoured, .ref kfar, .ref ksides, .int (nI 0), .int (-1 : Int32), .int (nI 0), .ref klines, .ref kmet, .int (nI 0), .ref ksunk, .ref ktrying, .int (nI 0), .int (-1 : Int32), .int (-1 : Int32), .ref ktext, .int (nI 0), .int (nI 0), .ref kline, .ref kwritten, .int (nI 0), .int (nI 0), .ref knode, .int (nI 0), .int (nI 0), .int (nI 0), .int (nI 0)])), (know, .inl (ky 0, 373, .inl knowF))] sz) (va_Qi (fun (r : Int32) (_ : Unit) => r = nI 0) (BU dC dI ky (fun (_ : Unit) => [(o, .inr (12, [.int (nI 0), .ref ktape, .int (nI 0), .int (nI 0), .int (nI 0), .int (nI 0), .int (nI 0), .int (nI 0), .int (nI 0), .int (nI 0), .int (nI 0), .int (nI 0), .long 0, .int (nI 0), .ref know, .ref kread, .ref kkept, .ref ksnaps, .ref kaside, .ref kname, .ref kreadName, .ref kkeptName, .ref kisKept, .ref konces, .int (nI 0), .int (nI 0), .ref kpoured, .ref kfar, .ref ksides, .int (nI 0), .int (-1 : Int32), .int (nI 0), .ref klines, .ref kmet, .int (nI 0), .ref ksunk, .ref ktrying, .int (nI 0), .int (-1 : Int32), .int (-1 : Int32), .ref ktext, .int (nI 0), .int (nI 0), .ref kline, .ref kwritten, .int (nI 0), .int (nI 0), .ref knode, .int (nI 0), .int (nI 0), .int (nI 0), .int (nI 0)]))]) (va_A [(o, .inr (12, [.int (nI 0), .ref ktape, .int (nI 0), .int (nI 0), .int (nI 0), .int (nI 0), .int (nI 0), .int (nI 0), .int (nI 0), .int (nI 0), .int (nI 0), .int (nI 0), .long 0, .int (nI 0), .ref know, .ref kread, .ref kkept, .ref ksnaps, .ref kaside, .ref kname, .ref kreadName, .ref kkeptName, .ref kisKept, .ref konces, .int (nI 0), .int (nI 0), .ref kpoured, .ref kfar, .ref ksides, .int (nI 0), .int (-1 : Int32), .int (nI 0), .ref klines, .ref kmet, .int (nI 0), .ref ksunk, .ref ktrying, .int (nI 0), .int (-1 : Int32), .int (-1 : Int32), .ref ktext, .int (nI 0), .int (nI 0), .ref kline, .ref kwritten, .int (nI 0), .int (nI 0), .ref knode, .int (nI 0), .int (nI 0), .int (nI 0), .int (nI 0)])), (know, .inl (ky 0, 373, .inl knowF))] sz)) (va_A [(o, .inr (12, [.int (nI 0), .ref ktape, .int (nI 0), .int (nI 0), .int (nI 0), .int (nI 0), .int (nI 0), .int (nI 0), .int (nI 0), .int (nI 0), .int (nI 0), .int (nI 0), .long 0, .int (nI 0), .ref know, .ref kread, .ref kkept, .ref ksnaps, .ref kaside, .ref kname, .ref kreadName, .ref kkeptName, .ref kisKept, .ref konces, .int (nI 0), .int (nI 0), .ref kpoured, .ref kfar, .ref ksides, .int (nI 0), .int (-1 : Int32), .int (nI 0), .ref klines, .ref kmet, .int (nI 0), .ref ksunk, .ref ktrying, .int (nI 0), .int (-1 : Int32), .int (-1 : Int32), .ref ktext, .int (nI 0), .int (nI 0), .ref kline, .ref kwritten, .int (nI 0), .int (nI 0), .ref knode, .int (nI 0), .int (nI 0), .int (nI 0), .int (nI 0)])), (know, .inl (ky 0, 373, .inl knowF))] sz)) 0 0 (va_A [(o, .inr (12, [.int (nI 0), .ref ktape, .int (nI 0), .int (nI 0), .int (nI 0), .int (nI 0), .int (nI 0), .int (nI 0), .int (nI 0), .int (nI 0), .int (nI 0), .int (nI 0), .long 0, .int (nI 0), .ref know, .ref kread, .ref kkept, .ref ksnaps, .ref kaside, .ref kname, .ref kreadName, .ref kkeptName, .ref kisKept, .ref konces, .int (nI 0), .int (nI 0), .ref kpoured, .ref kfar, .ref ksides, .int (nI 0), .int (-1 : Int32), .int (nI 0), .ref klines, .ref kmet, .int (nI 0), .ref ksunk, .ref ktrying, .int (nI 0), .int (-1 : Int32), .int (-1 : Int32), .ref ktext, .int (nI 0), .int (nI 0), .ref kline, .ref kwritten, .int (nI 0), .int (nI 0), .ref knode, .int (nI 0), .int (nI 0), .int (nI 0), .int (nI 0)])), (know, .inl (ky 0, 373, .inl knowF))] sz) := by
  refine Met.ofW (cc := cX12_mean) (maxL := 5) (ret := (some .int)) (by decide) rfl ?_
  intro p e s m args below meth c s₁ B hml hv
  obtain ⟨rfl, hsz, hP, hK, hD0⟩ := hv
  have hx := B.exec
  have hb := B.bytes
  have hr := B.returns
  have hts := atoms_spec (ws := wsX12_mean) B.pre
  have hown : s.vm.findClass RX12 = some m.cls := findClass_of_methodNamed B.named
  have hlocks := B.notSynchronized
  have hin12 : ∀ w ∈ u_ws RX12 TX12 52, w ∈ wsX12_mean := by decide +kernel
  subst hsz
  have hD := hD0.self (sz := s.heap.size)
  generalize hAe : va_A [(o, .inr (12, [.int (nI 0), .ref ktape, .int (nI 0), .int (nI 0), .int (nI 0), .int (nI 0), .int (nI 0), .int (nI 0), .int (nI 0), .int (nI 0), .int (nI 0), .int (nI 0), .long 0, .int (nI 0), .ref know, .ref kread, .ref kkept, .ref ksnaps, .ref kaside, .ref kname, .ref kreadName, .ref kkeptName, .ref kisKept, .ref konces, .int (nI 0), .int (nI 0), .ref kpoured, .ref kfar, .ref ksides, .int (nI 0), .int (-1 : Int32), .int (nI 0), .ref klines, .ref kmet, .int (nI 0), .ref ksunk, .ref ktrying, .int (nI 0), .int (-1 : Int32), .int (-1 : Int32), .ref ktext, .int (nI 0), .int (nI 0), .ref kline, .ref kwritten, .int (nI 0), .int (nI 0), .ref knode, .int (nI 0), .int (nI 0), .int (nI 0), .int (nI 0)])), (know, .inl (ky 0, 373, .inl knowF))] s.heap.size = A at hD ⊢
  have hA : ∀ q : Nat, s.heap.size ≤ q → A q := fun q h => by rw [← hAe]; exact Or.inr h
  have hS : va_S A s.heap s.heap [] := va_S.rf
  have hP : va_P (dC, dI) vwCl [(o, .inr (12, [.int (nI 0), .ref ktape, .int (nI 0), .int (nI 0), .int (nI 0), .int (nI 0), .int (nI 0), .int (nI 0), .int (nI 0), .int (nI 0), .int (nI 0), .int (nI 0), .long 0, .int (nI 0), .ref know, .ref kread, .ref kkept, .ref ksnaps, .ref kaside, .ref kname, .ref kreadName, .ref kkeptName, .ref kisKept, .ref konces, .int (nI 0), .int (nI 0), .ref kpoured, .ref kfar, .ref ksides, .int (nI 0), .int (-1 : Int32), .int (nI 0), .ref klines, .ref kmet, .int (nI 0), .ref ksunk, .ref ktrying, .int (nI 0), .int (-1 : Int32), .int (-1 : Int32), .ref ktext, .int (nI 0), .int (nI 0), .ref kline, .ref kwritten, .int (nI 0), .int (nI 0), .ref knode, .int (nI 0), .int (nI 0), .int (nI 0), .int (nI 0)])), (know, .inl (ky 0, 373, .inl knowF))] s.heap := hP
  have hl := lv_entry ([.ref o, .int (nI x), .int (nI 0)]) (n := 5) (Nat.le_of_ble_eq_true rfl)
  rw [lg_entry_eq]
  generalize (lg_sl ([.ref o, .int (nI x), .int (nI 0)]) ++ List.replicate (5 - (lg_sl ([.ref o, .int (nI x), .int (nI 0)])).length) Slot.unset).toArray = ls at hl ⊢
  have hl : lv_has ls 5 [(0, .ref o), (1, .int (nI x)), (2, .int (nI 0))] := hl
  have hH0 : True := trivial
  refine lv_aload_n hx hb dX12_mean_0 rfl (lv_at hl 0 rfl) ?_
  refine lv_iconst (v := nI 0) hx hb dX12_mean_1 (by decide) ?_
  refine va_put (D := (dC, dI)) (ci := 12) (v := .int (nI 0)) (ty := .int) (C := RX12) (T := TX12) (N := 52) hx hb hts hin12 tyX12 tyX12_ok nmX12 hown hK hP hD hS 0 rfl rfl 0 (by decide) (hts (.fieldLink RX12 1 "PorridgeSeaModel" "thrown" "I") (List.mem_of_getElem? (i := 1) rfl)) (fun _ h9 => h9) rfl (by decide +kernel) rfl rfl (Nat.le_of_ble_eq_true rfl) dX12_mean_2 (fun H locs hP hD hS => ?_)
  have hP : va_P (dC, dI) vwCl [(o, .inr (12, [.int (nI 0), .ref ktape, .int (nI 0), .int (nI 0), .int (nI 0), .int (nI 0), .int (nI 0), .int (nI 0), .int (nI 0), .int (nI 0), .int (nI 0), .int (nI 0), .long 0, .int (nI 0), .ref know, .ref kread, .ref kkept, .ref ksnaps, .ref kaside, .ref kname, .ref kreadName, .ref kkeptName, .ref kisKept, .ref konces, .int (nI 0), .int (nI 0), .ref kpoured, .ref kfar, .ref ksides, .int (nI 0), .int (-1 : Int32), .int (nI 0), .ref klines, .ref kmet, .int (nI 0), .ref ksunk, .ref ktrying, .int (nI 0), .int (-1 : Int32), .int (-1 : Int32), .ref ktext, .int (nI 0), .int (nI 0), .ref kline, .ref kwritten, .int (nI 0), .int (nI 0), .ref knode, .int (nI 0), .int (nI 0), .int (nI 0), .int (nI 0)])), (know, .inl (ky 0, 373, .inl knowF))] H := hP
  have hD : va_D A [(o, .inr (12, [.int (nI 0), .ref ktape, .int (nI 0), .int (nI 0), .int (nI 0), .int (nI 0), .int (nI 0), .int (nI 0), .int (nI 0), .int (nI 0), .int (nI 0), .int (nI 0), .long 0, .int (nI 0), .ref know, .ref kread, .ref kkept, .ref ksnaps, .ref kaside, .ref kname, .ref kreadName, .ref kkeptName, .ref kisKept, .ref konces, .int (nI 0), .int (nI 0), .ref kpoured, .ref kfar, .ref ksides, .int (nI 0), .int (-1 : Int32), .int (nI 0), .ref klines, .ref kmet, .int (nI 0), .ref ksunk, .ref ktrying, .int (nI 0), .int (-1 : Int32), .int (-1 : Int32), .ref ktext, .int (nI 0), .int (nI 0), .ref kline, .ref kwritten, .int (nI 0), .int (nI 0), .ref knode, .int (nI 0), .int (nI 0), .int (nI 0), .int (nI 0)])), (know, .inl (ky 0, 373, .inl knowF))] := hD
  refine lv_aload_n hx hb dX12_mean_5 rfl (lv_at hl 0 rfl) ?_
  refine lv_iconst (v := nI 0) hx hb dX12_mean_6 (by decide) ?_
  refine lv_iload_n hx hb dX12_mean_7 rfl (lv_at hl 1 rfl) ?_
  refine vp_callSi (W.runV (As := [.int (nI 0), .int (nI x)]) (rest := []) ⟨hx, hb, hml, hown, hts⟩ (c_m_isCell0 l dC dI ky o (nI 0) ktape (nI 0) (nI 0) (nI 0) (nI 0) (nI 0) (nI 0) (nI 0) (nI 0) (nI 0) (nI 0) 0 (nI 0) know kread kkept ksnaps kaside kname kreadName kkeptName kisKept konces (nI 0) (nI 0) kpoured kfar ksides (nI 0) (-1 : Int32) (nI 0) klines kmet (nI 0) ksunk ktrying (nI 0) (-1 : Int32) (-1 : Int32) ktext (nI 0) (nI 0) kline kwritten (nI 0) (nI 0) knode (nI 0) (nI 0) (nI 0) (nI 0) knowF (nI x) (NowOk.b hN)) (cwV 2 hts gX12_mean_X12_isCell rfl rfl rfl (by decide +kernel) ⟨(Nat.le_of_ble_eq_true rfl), (Nat.le_of_ble_eq_true rfl)⟩) (pre_PV hK hP [0, 1] rfl (ci := 12) (q0 := 0) rfl rfl) rfl rfl hl.1 rfl (lv_room (Nat.le_of_ble_eq_true rfl)) dX12_mean_8 ⟨(Nat.le_of_ble_eq_true rfl), (Nat.le_of_ble_eq_true rfl)⟩) (fun r1 p2 => ?_)
  refine lv_if_eq (tgt := 23) hx hb dX12_mean_11 (by decide) (fun c3 => ?_) (fun c3 => ?_)
  · exact ((lf_m_meanOk0_1 o ktape know kread kkept ksnaps kaside kname kreadName kkeptName kisKept konces kpoured kfar ksides klines kmet ksunk ktrying ktext kline kwritten knode knowF x r1 hN hx4 p2 c3)).elim
  · refine lv_iload_n hx hb dX12_mean_14 rfl (lv_at hl 2 rfl) ?_
    refine lv_iconst (v := nI 0) hx hb dX12_mean_15 (by decide) ?_
    refine lv_iconst (v := nI 1) hx hb dX12_mean_16 (by decide) ?_
    refine vp_callSi (W.runS (As := [.int (nI 0), .int (nI 0), .int (nI 1)]) (rest := []) ⟨hx, hb, hml, hown, hts⟩ (c_isIn l dC dI ky (nI 0) (nI 0) (nI 1)) (va_cwS 3 hts gX12_mean_X12_isIn rfl rfl rfl (by decide +kernel) ⟨(Nat.le_of_ble_eq_true rfl), (Nat.le_of_ble_eq_true rfl)⟩) (pre_PS hK hP [] rfl) rfl rfl hl.1 rfl (lv_room (Nat.le_of_ble_eq_true rfl)) dX12_mean_17 ⟨(Nat.le_of_ble_eq_true rfl), (Nat.le_of_ble_eq_true rfl)⟩) (fun r4 p5 => ?_)
    refine lv_if_ne (tgt := 28) hx hb dX12_mean_20 (by decide) (fun c6 => ?_) (fun c6 => ?_)
    · refine lv_iconst (v := nI 0) hx hb dX12_mean_28 (by decide) ?_
      refine lv_istore_n (lv' := [(3, .int (nI 0)), (0, .ref o), (1, .int (nI x)), (2, .int (nI 0))]) hx hb dX12_mean_29 rfl hl (by decide) rfl (fun ls hl => ?_)
      refine lv_iconst (v := nI 0) hx hb dX12_mean_30 (by decide) ?_
      refine lv_istore (lv' := [(4, .int (nI 0)), (3, .int (nI 0)), (0, .ref o), (1, .int (nI x)), (2, .int (nI 0))]) hx hb dX12_mean_31 hl (by decide) rfl (fun ls hl => ?_)
      refine lv_iload hx hb dX12_mean_33 (lv_at hl 0 rfl) ?_
      refine lv_aload_n hx hb dX12_mean_35 rfl (lv_at hl 2 rfl) ?_
      refine va_get (D := (dC, dI)) (ci := 12) (v := .ref know) (C := RX12) (T := TX12) (N := 52) hx hb hts hin12 hown hK hP 0 rfl rfl 14 (by decide) (hts (.fieldLink RX12 98 "PorridgeSeaModel" "now" "[I") (List.mem_of_getElem? (i := 2) rfl)) (fun _ h9 => h9) rfl dX12_mean_36 ?_
      refine lv_iconst (v := nI 0) hx hb dX12_mean_39 (by decide) ?_
      refine r_iald hx hb hK hP 1 rfl 0 (by decide) (by decide) (nI 4) (NowOk.b hN).1 dX12_mean_40 ?_
      refine lv_icmp_ge (tgt := 68) hx hb dX12_mean_41 (by decide) (fun c7 => absurd c7 (by decide)) (fun c7 => ?_)
      refine lv_iload_n hx hb dX12_mean_44 rfl (lv_at hl 1 rfl) ?_
      refine lv_aload_n hx hb dX12_mean_45 rfl (lv_at hl 2 rfl) ?_
      refine va_get (D := (dC, dI)) (ci := 12) (v := .ref know) (C := RX12) (T := TX12) (N := 52) hx hb hts hin12 hown hK hP 0 rfl rfl 14 (by decide) (hts (.fieldLink RX12 98 "PorridgeSeaModel" "now" "[I") (List.mem_of_getElem? (i := 2) rfl)) (fun _ h9 => h9) rfl dX12_mean_46 ?_
      refine lv_bipush (v := nI 71) hx hb dX12_mean_49 (by decide) ?_
      refine lv_bipush (v := nI 6) hx hb dX12_mean_51 (by decide) ?_
      refine lv_iload_n hx hb dX12_mean_53 rfl (lv_at hl 3 rfl) ?_
      refine lv_imul hx hb dX12_mean_54 ?_
      refine r_ti (nI (6 * x)) (pk_mul _ _) ?_
      refine lv_iadd hx hb dX12_mean_55 ?_
      refine r_ti (nI (71 + (6 * x))) (nI_add _ _) ?_
      refine lv_iload hx hb dX12_mean_56 (lv_at hl 0 rfl) ?_
      refine lv_iadd hx hb dX12_mean_58 ?_
      refine r_ti (nI ((71 + (6 * x)) + 0)) (nI_add _ _) ?_
      refine r_iald hx hb hK hP 1 rfl ((71 + (6 * x)) + 0) (by omega) (by decide) (nI 0) (now_hi hN ((71 + (6 * x)) + 0) (by omega) (by omega)) dX12_mean_59 ?_
      refine lv_iadd hx hb dX12_mean_60 ?_
      refine r_ti (nI 0) (by decide) ?_
      refine lv_istore_n (lv' := [(3, .int (nI 0)), (4, .int (nI 0)), (0, .ref o), (1, .int (nI x)), (2, .int (nI 0))]) hx hb dX12_mean_61 rfl hl (by decide) rfl (fun ls hl => ?_)
      refine lv_iinc (v := nI 1) (lv' := [(4, .int (nI 1)), (3, .int (nI 0)), (0, .ref o), (1, .int (nI x)), (2, .int (nI 0))]) hx hb dX12_mean_62 hl (k := 1) rfl (by decide) (by decide) rfl (fun ls hl => ?_)
      refine lv_goto (tgt := 33) hx hb dX12_mean_65 (by decide) ?_
      refine lv_iload hx hb dX12_mean_33 (lv_at hl 0 rfl) ?_
      refine lv_aload_n hx hb dX12_mean_35 rfl (lv_at hl 2 rfl) ?_
      refine va_get (D := (dC, dI)) (ci := 12) (v := .ref know) (C := RX12) (T := TX12) (N := 52) hx hb hts hin12 hown hK hP 0 rfl rfl 14 (by decide) (hts (.fieldLink RX12 98 "PorridgeSeaModel" "now" "[I") (List.mem_of_getElem? (i := 2) rfl)) (fun _ h9 => h9) rfl dX12_mean_36 ?_
      refine lv_iconst (v := nI 0) hx hb dX12_mean_39 (by decide) ?_
      refine r_iald hx hb hK hP 1 rfl 0 (by decide) (by decide) (nI 4) (NowOk.b hN).1 dX12_mean_40 ?_
      refine lv_icmp_ge (tgt := 68) hx hb dX12_mean_41 (by decide) (fun c8 => absurd c8 (by decide)) (fun c8 => ?_)
      refine lv_iload_n hx hb dX12_mean_44 rfl (lv_at hl 1 rfl) ?_
      refine lv_aload_n hx hb dX12_mean_45 rfl (lv_at hl 2 rfl) ?_
      refine va_get (D := (dC, dI)) (ci := 12) (v := .ref know) (C := RX12) (T := TX12) (N := 52) hx hb hts hin12 hown hK hP 0 rfl rfl 14 (by decide) (hts (.fieldLink RX12 98 "PorridgeSeaModel" "now" "[I") (List.mem_of_getElem? (i := 2) rfl)) (fun _ h9 => h9) rfl dX12_mean_46 ?_
      refine lv_bipush (v := nI 71) hx hb dX12_mean_49 (by decide) ?_
      refine lv_bipush (v := nI 6) hx hb dX12_mean_51 (by decide) ?_
      refine lv_iload_n hx hb dX12_mean_53 rfl (lv_at hl 3 rfl) ?_
      refine lv_imul hx hb dX12_mean_54 ?_
      refine r_ti (nI (6 * x)) (pk_mul _ _) ?_
      refine lv_iadd hx hb dX12_mean_55 ?_
      refine r_ti (nI (71 + (6 * x))) (nI_add _ _) ?_
      refine lv_iload hx hb dX12_mean_56 (lv_at hl 0 rfl) ?_
      refine lv_iadd hx hb dX12_mean_58 ?_
      refine r_ti (nI ((71 + (6 * x)) + 1)) (nI_add _ _) ?_
      refine r_iald hx hb hK hP 1 rfl ((71 + (6 * x)) + 1) (by omega) (by decide) (nI 0) (now_hi hN ((71 + (6 * x)) + 1) (by omega) (by omega)) dX12_mean_59 ?_
      refine lv_iadd hx hb dX12_mean_60 ?_
      refine r_ti (nI 0) (by decide) ?_
      refine lv_istore_n (lv' := [(3, .int (nI 0)), (4, .int (nI 1)), (0, .ref o), (1, .int (nI x)), (2, .int (nI 0))]) hx hb dX12_mean_61 rfl hl (by decide) rfl (fun ls hl => ?_)
      refine lv_iinc (v := nI 2) (lv' := [(4, .int (nI 2)), (3, .int (nI 0)), (0, .ref o), (1, .int (nI x)), (2, .int (nI 0))]) hx hb dX12_mean_62 hl (k := 1) rfl (by decide) (by decide) rfl (fun ls hl => ?_)
      refine lv_goto (tgt := 33) hx hb dX12_mean_65 (by decide) ?_
      refine lv_iload hx hb dX12_mean_33 (lv_at hl 0 rfl) ?_
      refine lv_aload_n hx hb dX12_mean_35 rfl (lv_at hl 2 rfl) ?_
      refine va_get (D := (dC, dI)) (ci := 12) (v := .ref know) (C := RX12) (T := TX12) (N := 52) hx hb hts hin12 hown hK hP 0 rfl rfl 14 (by decide) (hts (.fieldLink RX12 98 "PorridgeSeaModel" "now" "[I") (List.mem_of_getElem? (i := 2) rfl)) (fun _ h9 => h9) rfl dX12_mean_36 ?_
      refine lv_iconst (v := nI 0) hx hb dX12_mean_39 (by decide) ?_
      refine r_iald hx hb hK hP 1 rfl 0 (by decide) (by decide) (nI 4) (NowOk.b hN).1 dX12_mean_40 ?_
      refine lv_icmp_ge (tgt := 68) hx hb dX12_mean_41 (by decide) (fun c9 => absurd c9 (by decide)) (fun c9 => ?_)
      refine lv_iload_n hx hb dX12_mean_44 rfl (lv_at hl 1 rfl) ?_
      refine lv_aload_n hx hb dX12_mean_45 rfl (lv_at hl 2 rfl) ?_
      refine va_get (D := (dC, dI)) (ci := 12) (v := .ref know) (C := RX12) (T := TX12) (N := 52) hx hb hts hin12 hown hK hP 0 rfl rfl 14 (by decide) (hts (.fieldLink RX12 98 "PorridgeSeaModel" "now" "[I") (List.mem_of_getElem? (i := 2) rfl)) (fun _ h9 => h9) rfl dX12_mean_46 ?_
      refine lv_bipush (v := nI 71) hx hb dX12_mean_49 (by decide) ?_
      refine lv_bipush (v := nI 6) hx hb dX12_mean_51 (by decide) ?_
      refine lv_iload_n hx hb dX12_mean_53 rfl (lv_at hl 3 rfl) ?_
      refine lv_imul hx hb dX12_mean_54 ?_
      refine r_ti (nI (6 * x)) (pk_mul _ _) ?_
      refine lv_iadd hx hb dX12_mean_55 ?_
      refine r_ti (nI (71 + (6 * x))) (nI_add _ _) ?_
      refine lv_iload hx hb dX12_mean_56 (lv_at hl 0 rfl) ?_
      refine lv_iadd hx hb dX12_mean_58 ?_
      refine r_ti (nI ((71 + (6 * x)) + 2)) (nI_add _ _) ?_
      refine r_iald hx hb hK hP 1 rfl ((71 + (6 * x)) + 2) (by omega) (by decide) (nI 0) (now_hi hN ((71 + (6 * x)) + 2) (by omega) (by omega)) dX12_mean_59 ?_
      refine lv_iadd hx hb dX12_mean_60 ?_
      refine r_ti (nI 0) (by decide) ?_
      refine lv_istore_n (lv' := [(3, .int (nI 0)), (4, .int (nI 2)), (0, .ref o), (1, .int (nI x)), (2, .int (nI 0))]) hx hb dX12_mean_61 rfl hl (by decide) rfl (fun ls hl => ?_)
      refine lv_iinc (v := nI 3) (lv' := [(4, .int (nI 3)), (3, .int (nI 0)), (0, .ref o), (1, .int (nI x)), (2, .int (nI 0))]) hx hb dX12_mean_62 hl (k := 1) rfl (by decide) (by decide) rfl (fun ls hl => ?_)
      refine lv_goto (tgt := 33) hx hb dX12_mean_65 (by decide) ?_
      refine lv_iload hx hb dX12_mean_33 (lv_at hl 0 rfl) ?_
      refine lv_aload_n hx hb dX12_mean_35 rfl (lv_at hl 2 rfl) ?_
      refine va_get (D := (dC, dI)) (ci := 12) (v := .ref know) (C := RX12) (T := TX12) (N := 52) hx hb hts hin12 hown hK hP 0 rfl rfl 14 (by decide) (hts (.fieldLink RX12 98 "PorridgeSeaModel" "now" "[I") (List.mem_of_getElem? (i := 2) rfl)) (fun _ h9 => h9) rfl dX12_mean_36 ?_
      refine lv_iconst (v := nI 0) hx hb dX12_mean_39 (by decide) ?_
      refine r_iald hx hb hK hP 1 rfl 0 (by decide) (by decide) (nI 4) (NowOk.b hN).1 dX12_mean_40 ?_
      refine lv_icmp_ge (tgt := 68) hx hb dX12_mean_41 (by decide) (fun c10 => absurd c10 (by decide)) (fun c10 => ?_)
      refine lv_iload_n hx hb dX12_mean_44 rfl (lv_at hl 1 rfl) ?_
      refine lv_aload_n hx hb dX12_mean_45 rfl (lv_at hl 2 rfl) ?_
      refine va_get (D := (dC, dI)) (ci := 12) (v := .ref know) (C := RX12) (T := TX12) (N := 52) hx hb hts hin12 hown hK hP 0 rfl rfl 14 (by decide) (hts (.fieldLink RX12 98 "PorridgeSeaModel" "now" "[I") (List.mem_of_getElem? (i := 2) rfl)) (fun _ h9 => h9) rfl dX12_mean_46 ?_
      refine lv_bipush (v := nI 71) hx hb dX12_mean_49 (by decide) ?_
      refine lv_bipush (v := nI 6) hx hb dX12_mean_51 (by decide) ?_
      refine lv_iload_n hx hb dX12_mean_53 rfl (lv_at hl 3 rfl) ?_
      refine lv_imul hx hb dX12_mean_54 ?_
      refine r_ti (nI (6 * x)) (pk_mul _ _) ?_
      refine lv_iadd hx hb dX12_mean_55 ?_
      refine r_ti (nI (71 + (6 * x))) (nI_add _ _) ?_
      refine lv_iload hx hb dX12_mean_56 (lv_at hl 0 rfl) ?_
      refine lv_iadd hx hb dX12_mean_58 ?_
      refine r_ti (nI ((71 + (6 * x)) + 3)) (nI_add _ _) ?_
      refine r_iald hx hb hK hP 1 rfl ((71 + (6 * x)) + 3) (by omega) (by decide) (nI 0) (now_hi hN ((71 + (6 * x)) + 3) (by omega) (by omega)) dX12_mean_59 ?_
      refine lv_iadd hx hb dX12_mean_60 ?_
      refine r_ti (nI 0) (by decide) ?_
      refine lv_istore_n (lv' := [(3, .int (nI 0)), (4, .int (nI 3)), (0, .ref o), (1, .int (nI x)), (2, .int (nI 0))]) hx hb dX12_mean_61 rfl hl (by decide) rfl (fun ls hl => ?_)
      refine lv_iinc (v := nI 4) (lv' := [(4, .int (nI 4)), (3, .int (nI 0)), (0, .ref o), (1, .int (nI x)), (2, .int (nI 0))]) hx hb dX12_mean_62 hl (k := 1) rfl (by decide) (by decide) rfl (fun ls hl => ?_)
      refine lv_goto (tgt := 33) hx hb dX12_mean_65 (by decide) ?_
      refine lv_iload hx hb dX12_mean_33 (lv_at hl 0 rfl) ?_
      refine lv_aload_n hx hb dX12_mean_35 rfl (lv_at hl 2 rfl) ?_
      refine va_get (D := (dC, dI)) (ci := 12) (v := .ref know) (C := RX12) (T := TX12) (N := 52) hx hb hts hin12 hown hK hP 0 rfl rfl 14 (by decide) (hts (.fieldLink RX12 98 "PorridgeSeaModel" "now" "[I") (List.mem_of_getElem? (i := 2) rfl)) (fun _ h9 => h9) rfl dX12_mean_36 ?_
      refine lv_iconst (v := nI 0) hx hb dX12_mean_39 (by decide) ?_
      refine r_iald hx hb hK hP 1 rfl 0 (by decide) (by decide) (nI 4) (NowOk.b hN).1 dX12_mean_40 ?_
      refine lv_icmp_ge (tgt := 68) hx hb dX12_mean_41 (by decide) (fun c11 => ?_) (fun c11 => absurd (by decide) c11)
      refine lv_iload_n hx hb dX12_mean_68 rfl (lv_at hl 4 rfl) ?_
      refine lv_if_ne (tgt := 76) hx hb dX12_mean_69 (by decide) (fun c12 => absurd c12 (by decide)) (fun c12 => ?_)
      refine lv_iload_n hx hb dX12_mean_72 rfl (lv_at hl 1 rfl) ?_
      refine lv_goto (tgt := 82) hx hb dX12_mean_73 (by decide) ?_
      refine lv_aload_n hx hb dX12_mean_82 rfl (lv_at hl 2 rfl) ?_
      refine va_get (D := (dC, dI)) (ci := 12) (v := .ref know) (C := RX12) (T := TX12) (N := 52) hx hb hts hin12 hown hK hP 0 rfl rfl 14 (by decide) (hts (.fieldLink RX12 98 "PorridgeSeaModel" "now" "[I") (List.mem_of_getElem? (i := 2) rfl)) (fun _ h9 => h9) rfl dX12_mean_83 ?_
      refine lv_iconst (v := nI 0) hx hb dX12_mean_86 (by decide) ?_
      refine r_iald hx hb hK hP 1 rfl 0 (by decide) (by decide) (nI 4) (NowOk.b hN).1 dX12_mean_87 ?_
      refine lv_iload_n hx hb dX12_mean_88 rfl (lv_at hl 1 rfl) ?_
      refine vp_callSi (W.runS (As := [.int (nI 4), .int (nI 0)]) (rest := [.int (nI 0)]) ⟨hx, hb, hml, hown, hts⟩ (c_m_common l dC dI ky) (va_cwS 2 hts gX12_mean_X12_common rfl rfl rfl (by decide +kernel) ⟨(Nat.le_of_ble_eq_true rfl), (Nat.le_of_ble_eq_true rfl)⟩) (pre_PS hK hP [] rfl) rfl rfl hl.1 rfl (lv_room (Nat.le_of_ble_eq_true rfl)) dX12_mean_89 ⟨(Nat.le_of_ble_eq_true rfl), (Nat.le_of_ble_eq_true rfl)⟩) (fun r13 p14 => ?_)
      subst p14
      refine lv_idiv hx hb dX12_mean_92 (by decide) ?_
      refine r_ti (nI 0) (by decide) ?_
      have hP9 := hP.sub (ws' := [(o, .inr (12, [.int (nI 0), .ref ktape, .int (nI 0), .int (nI 0), .int (nI 0), .int (nI 0), .int (nI 0), .int (nI 0), .int (nI 0), .int (nI 0), .int (nI 0), .int (nI 0), .long 0, .int (nI 0), .ref know, .ref kread, .ref kkept, .ref ksnaps, .ref kaside, .ref kname, .ref kreadName, .ref kkeptName, .ref kisKept, .ref konces, .int (nI 0), .int (nI 0), .ref kpoured, .ref kfar, .ref ksides, .int (nI 0), .int (-1 : Int32), .int (nI 0), .ref klines, .ref kmet, .int (nI 0), .ref ksunk, .ref ktrying, .int (nI 0), .int (-1 : Int32), .int (-1 : Int32), .ref ktext, .int (nI 0), .int (nI 0), .ref kline, .ref kwritten, .int (nI 0), .int (nI 0), .ref knode, .int (nI 0), .int (nI 0), .int (nI 0), .int (nI 0)]))]) [0] rfl
      have hD9 := hD.sub (ws' := [(o, .inr (12, [.int (nI 0), .ref ktape, .int (nI 0), .int (nI 0), .int (nI 0), .int (nI 0), .int (nI 0), .int (nI 0), .int (nI 0), .int (nI 0), .int (nI 0), .int (nI 0), .long 0, .int (nI 0), .ref know, .ref kread, .ref kkept, .ref ksnaps, .ref kaside, .ref kname, .ref kreadName, .ref kkeptName, .ref kisKept, .ref konces, .int (nI 0), .int (nI 0), .ref kpoured, .ref kfar, .ref ksides, .int (nI 0), .int (-1 : Int32), .int (nI 0), .ref klines, .ref kmet, .int (nI 0), .ref ksunk, .ref ktrying, .int (nI 0), .int (-1 : Int32), .int (-1 : Int32), .ref ktext, .int (nI 0), .int (nI 0), .ref kline, .ref kwritten, .int (nI 0), .int (nI 0), .ref knode, .int (nI 0), .int (nI 0), .int (nI 0), .int (nI 0)]))]) [0] (by decide) rfl
      refine W.widen (k := 0) (n := 0) (Nat.le_of_ble_eq_true rfl) (Nat.le_of_ble_eq_true rfl) ?_
      exact W.iret (v := nI 0) hx hb hr (fun t ht9 hW9 => ⟨⟨nI 0, (), rfl, rfl, by rw [ht9]; exact hP9, va_K.moved hW9.alike hK, hD9⟩, hS.F ht9⟩) hS.2.2 dX12_mean_93
    · exact ((lf_m_meanOk0_2 o ktape know kread kkept ksnaps kaside kname kreadName kkeptName kisKept konces kpoured kfar ksides klines kmet ksunk ktrying ktext kline kwritten knode knowF x r1 r4 hN hx4 p2 c3 p5 c6)).elim
set_option maxRecDepth 20000 in
theorem lf_m_meanOk1_1 (o : Nat) (ktape : Nat) (know : Nat) (kread : Nat) (kkept : Nat) (ksnaps : Nat) (kaside : Nat) (kname : Nat) (kreadName : Nat) (kkeptName : Nat) (kisKept : Nat) (konces : Nat) (kpoured : Nat) (kfar : Nat) (ksides : Nat) (klines : Nat) (kmet : Nat) (ksunk : Nat) (ktrying : Nat) (ktext : Nat) (kline : Nat) (kwritten : Nat) (knode : Nat) (knowF : Nat → Int32) (x : Nat) (r1 : Int32) (hN : NowOk knowF) (hx4 : x < 4) (p2 : (r1 = nI 1 ∧ (0 ≤ (nI x).toInt ∧ (nI x).toInt < 4)) ∨ (r1 = nI 0 ∧ ¬ (0 ≤ (nI x).toInt ∧ (nI x).toInt < 4))) (c3 : r1 = 0) : False := by
  have k_0 := ia_n 1 (by decide)
  have k_1 := ia_n x (by omega)
  have k_2 := ia_n 0 (by decide)
  try simp only [ia_lt, ia_le, ia_eq, ia_m1, ia_0, ia_1, ne_eq, true_and, and_true, false_and, and_false, or_false, false_or, or_true, true_or, not_true_eq_false, not_false_eq_true] at *
  all_goals omega
set_option maxRecDepth 20000 in
theorem lf_m_meanOk1_2 (o : Nat) (ktape : Nat) (know : Nat) (kread : Nat) (kkept : Nat) (ksnaps : Nat) (kaside : Nat) (kname : Nat) (kreadName : Nat) (kkeptName : Nat) (kisKept : Nat) (konces : Nat) (kpoured : Nat) (kfar : Nat) (ksides : Nat) (klines : Nat) (kmet : Nat) (ksunk : Nat) (ktrying : Nat) (ktext : Nat) (kline : Nat) (kwritten : Nat) (knode : Nat) (knowF : Nat → Int32) (x : Nat) (r1 : Int32) (r4 : Int32) (hN : NowOk knowF) (hx4 : x < 4) (p2 : (r1 = nI 1 ∧ (0 ≤ (nI x).toInt ∧ (nI x).toInt < 4)) ∨ (r1 = nI 0 ∧ ¬ (0 ≤ (nI x).toInt ∧ (nI x).toInt < 4))) (c3 : ¬ r1 = 0) (p5 : (r4 = nI 1 ∧ (nI 0).toInt ≤ (nI 1).toInt ∧ (nI 1).toInt ≤ (nI 1).toInt) ∨ (r4 = nI 0 ∧ ¬ ((nI 0).toInt ≤ (nI 1).toInt ∧ (nI 1).toInt ≤ (nI 1).toInt))) (c6 : r4 = 0) : False := by
  have k_0 := ia_n 1 (by decide)
  have k_1 := ia_n x (by omega)
  have k_2 := ia_n 0 (by decide)
  try simp only [ia_lt, ia_le, ia_eq, ia_m1, ia_0, ia_1, ne_eq, true_and, and_true, false_and, and_false, or_false, false_or, or_true, true_or, not_true_eq_false, not_false_eq_true] at *
  all_goals omega
set_option maxHeartbeats 4000000 in
set_option maxRecDepth 100000 in
theorem c_m_meanOk1 (l : Launch) (dC : Nat → ClassId) (dI : Nat → Nat → Nat) (ky : Nat → ClassId) (sz : Nat) (o : Nat) (ktape : Nat) (know : Nat) (kread : Nat) (kkept : Nat) (ksnaps : Nat) (kaside : Nat) (kname : Nat) (kreadName : Nat) (kkeptName : Nat) (kisKept : Nat) (konces : Nat) (kpoured : Nat) (kfar : Nat) (ksides : Nat) (klines : Nat) (kmet : Nat) (ksunk : Nat) (ktrying : Nat) (ktext : Nat) (kline : Nat) (kwritten : Nat) (knode : Nat) (knowF : Nat → Int32) (x : Nat) (hN : NowOk knowF) (hx4 : x < 4) : Met l yX12_mean wsX12_mean ({ frames := 2, cells := 0, slots := 0, locals := 44 }) (PcU dC dI ky [.ref o, .int (nI x), .int (nI 1)] [(o, .inr (12, [.int (nI 0), .ref ktape, .int (nI 0), .int (nI 0), .int (nI 0), .int (nI 0), .int (nI 0), .int (nI 0), .int (nI 0), .int (nI 0), .int (nI 0), .int (nI 0), .long 0, .int (nI 0), .ref know, .ref kread, .ref kkept, .ref ksnaps, .ref kaside, .ref kname, .ref kreadName, .ref kkeptName, .ref kisKept, .ref konces, .int (nI 0), .int (nI 0), .ref kpoured, .ref kfar, .ref ksides, .int (nI 0), .int (-1 : Int32), .int (nI 0), .ref klines, .ref kmet, .int (nI 0), .ref ksunk, .ref ktrying, .int (nI 0), .int (-1 : Int32), .int (-1 : Int32), .ref ktext, .int (nI 0), .int (nI 0), .ref kline, .ref kwritten, .int (nI 0), .int (nI 0), .ref knode, .int (nI 0), .int (nI 0), .int (nI 0), .int (nI 0)])), (know, .inl (ky 0, 373, .inl knowF))] sz) (va_Qi (fun (r : Int32) (_ : Unit) => r = nI 1) (BU dC dI ky (fun (_ : Unit) => [(o, .inr (12, [.int (nI 0), .ref ktape, .int (nI 0), .int (nI 0), .int (nI 0), .int (nI 0), .int (nI 0), .int (nI 0), .int (nI 0), .int (nI 0), .int (nI 0), .int (nI 0), .long 0, .int (nI 0), .ref know, .ref kread, .ref kkept, .ref ksnaps, .ref kaside, .ref kname, .ref kreadName, .ref kkeptName, .ref kisKept, .ref konces, .int (nI 0), .int (nI 0), .ref kpoured, .ref kfar, .ref ksides, .int (nI 0), .int (-1 : Int32), .int (nI 0), .ref klines, .ref kmet, .int (nI 0), .ref ksunk, .ref ktrying, .int (nI 0), .int (-1 : Int32), .int (-1 : Int32), .ref ktext, .int (nI 0), .int (nI 0), .ref kline, .ref kwritten, .int (nI 0), .int (nI 0), .ref knode, .int (nI 0), .int (nI 0), .int (nI 0), .int (nI 0)]))]) (va_A [(o, .inr (12, [.int (nI 0), .ref ktape, .int (nI 0), .int (nI 0), .int (nI 0), .int (nI 0), .int (nI 0), .int (nI 0), .int (nI 0), .int (nI 0), .int (nI 0), .int (nI 0), .long 0, .int (nI 0), .ref know, .ref kread, .ref kkept, .ref ksnaps, .ref kaside, .ref kname, .ref kreadName, .ref kkeptName, .ref kisKept, .ref konces, .int (nI 0), .int (nI 0), .ref kpoured, .ref kfar, .ref ksides, .int (nI 0), .int (-1 : Int32), .int (nI 0), .ref klines, .ref kmet, .int (nI 0), .ref ksunk, .ref ktrying, .int (nI 0), .int (-1 : Int32), .int (-1 : Int32), .ref ktext, .int (nI 0), .int (nI 0), .ref kline, .ref kwritten, .int (nI 0), .int (nI 0), .ref knode, .int (nI 0), .int (nI 0), .int (nI 0), .int (nI 0)])), (know, .inl (ky 0, 373, .inl knowF))] sz)) (va_A [(o, .inr (12, [.int (nI 0), .ref ktape, .int (nI 0), .int (nI 0), .int (nI 0), .int (nI 0), .int (nI 0), .int (nI 0), .int (nI 0), .int (nI 0), .int (nI 0), .int (nI 0), .long 0, .int (nI 0), .ref know, .ref kread, .ref kkept, .ref ksnaps, .ref kaside, .ref kname, .ref kreadName, .ref kkeptName, .ref kisKept, .ref konces, .int (nI 0), .int (nI 0), .ref kpoured, .ref kfar, .ref ksides, .int (nI 0), .int (-1 : Int32), .int (nI 0), .ref klines, .ref kmet, .int (nI 0), .ref ksunk, .ref ktrying, .int (nI 0), .int (-1 : Int32), .int (-1 : Int32), .ref ktext, .int (nI 0), .int (nI 0), .ref kline, .ref kwritten, .int (nI 0), .int (nI 0), .ref knode, .int (nI 0), .int (nI 0), .int (nI 0), .int (nI 0)])), (know, .inl (ky 0, 373, .inl knowF))] sz)) 0 0 (va_A [(o, .inr (12, [.int (nI 0), .ref ktape, .int (nI 0), .int (nI 0), .int (nI 0), .int (nI 0), .int (nI 0), .int (nI 0), .int (nI 0), .int (nI 0), .int (nI 0), .int (nI 0), .long 0, .int (nI 0), .ref know, .ref kread, .ref kkept, .ref ksnaps, .ref kaside, .ref kname, .ref kreadName, .ref kkeptName, .ref kisKept, .ref konces, .int (nI 0), .int (nI 0), .ref kpoured, .ref kfar, .ref ksides, .int (nI 0), .int (-1 : Int32), .int (nI 0), .ref klines, .ref kmet, .int (nI 0), .ref ksunk, .ref ktrying, .int (nI 0), .int (-1 : Int32), .int (-1 : Int32), .ref ktext, .int (nI 0), .int (nI 0), .ref kline, .ref kwritten, .int (nI 0), .int (nI 0), .ref knode, .int (nI 0), .int (nI 0), .int (nI 0), .int (nI 0)])), (know, .inl (ky 0, 373, .inl knowF))] sz) := by
  refine Met.ofW (cc := cX12_mean) (maxL := 5) (ret := (some .int)) (by decide) rfl ?_
  intro p e s m args below meth c s₁ B hml hv
  obtain ⟨rfl, hsz, hP, hK, hD0⟩ := hv
  have hx := B.exec
  have hb := B.bytes
  have hr := B.returns
  have hts := atoms_spec (ws := wsX12_mean) B.pre
  have hown : s.vm.findClass RX12 = some m.cls := findClass_of_methodNamed B.named
  have hlocks := B.notSynchronized
  have hin12 : ∀ w ∈ u_ws RX12 TX12 52, w ∈ wsX12_mean := by decide +kernel
  subst hsz
  have hD := hD0.self (sz := s.heap.size)
  generalize hAe : va_A [(o, .inr (12, [.int (nI 0), .ref ktape, .int (nI 0), .int (nI 0), .int (nI 0), .int (nI 0), .int (nI 0), .int (nI 0), .int (nI 0), .int (nI 0), .int (nI 0), .int (nI 0), .long 0, .int (nI 0), .ref know, .ref kread, .ref kkept, .ref ksnaps, .ref kaside, .ref kname, .ref kreadName, .ref kkeptName, .ref kisKept, .ref konces, .int (nI 0), .int (nI 0), .ref kpoured, .ref kfar, .ref ksides, .int (nI 0), .int (-1 : Int32), .int (nI 0), .ref klines, .ref kmet, .int (nI 0), .ref ksunk, .ref ktrying, .int (nI 0), .int (-1 : Int32), .int (-1 : Int32), .ref ktext, .int (nI 0), .int (nI 0), .ref kline, .ref kwritten, .int (nI 0), .int (nI 0), .ref knode, .int (nI 0), .int (nI 0), .int (nI 0), .int (nI 0)])), (know, .inl (ky 0, 373, .inl knowF))] s.heap.size = A at hD ⊢
  have hA : ∀ q : Nat, s.heap.size ≤ q → A q := fun q h => by rw [← hAe]; exact Or.inr h
  have hS : va_S A s.heap s.heap [] := va_S.rf
  have hP : va_P (dC, dI) vwCl [(o, .inr (12, [.int (nI 0), .ref ktape, .int (nI 0), .int (nI 0), .int (nI 0), .int (nI 0), .int (nI 0), .int (nI 0), .int (nI 0), .int (nI 0), .int (nI 0), .int (nI 0), .long 0, .int (nI 0), .ref know, .ref kread, .ref kkept, .ref ksnaps, .ref kaside, .ref kname, .ref kreadName, .ref kkeptName, .ref kisKept, .ref konces, .int (nI 0), .int (nI 0), .ref kpoured, .ref kfar, .ref ksides, .int (nI 0), .int (-1 : Int32), .int (nI 0), .ref klines, .ref kmet, .int (nI 0), .ref ksunk, .ref ktrying, .int (nI 0), .int (-1 : Int32), .int (-1 : Int32), .ref ktext, .int (nI 0), .int (nI 0), .ref kline, .ref kwritten, .int (nI 0), .int (nI 0), .ref knode, .int (nI 0), .int (nI 0), .int (nI 0), .int (nI 0)])), (know, .inl (ky 0, 373, .inl knowF))] s.heap := hP
  have hl := lv_entry ([.ref o, .int (nI x), .int (nI 1)]) (n := 5) (Nat.le_of_ble_eq_true rfl)
  rw [lg_entry_eq]
  generalize (lg_sl ([.ref o, .int (nI x), .int (nI 1)]) ++ List.replicate (5 - (lg_sl ([.ref o, .int (nI x), .int (nI 1)])).length) Slot.unset).toArray = ls at hl ⊢
  have hl : lv_has ls 5 [(0, .ref o), (1, .int (nI x)), (2, .int (nI 1))] := hl
  have hH0 : True := trivial
  refine lv_aload_n hx hb dX12_mean_0 rfl (lv_at hl 0 rfl) ?_
  refine lv_iconst (v := nI 0) hx hb dX12_mean_1 (by decide) ?_
  refine va_put (D := (dC, dI)) (ci := 12) (v := .int (nI 0)) (ty := .int) (C := RX12) (T := TX12) (N := 52) hx hb hts hin12 tyX12 tyX12_ok nmX12 hown hK hP hD hS 0 rfl rfl 0 (by decide) (hts (.fieldLink RX12 1 "PorridgeSeaModel" "thrown" "I") (List.mem_of_getElem? (i := 1) rfl)) (fun _ h9 => h9) rfl (by decide +kernel) rfl rfl (Nat.le_of_ble_eq_true rfl) dX12_mean_2 (fun H locs hP hD hS => ?_)
  have hP : va_P (dC, dI) vwCl [(o, .inr (12, [.int (nI 0), .ref ktape, .int (nI 0), .int (nI 0), .int (nI 0), .int (nI 0), .int (nI 0), .int (nI 0), .int (nI 0), .int (nI 0), .int (nI 0), .int (nI 0), .long 0, .int (nI 0), .ref know, .ref kread, .ref kkept, .ref ksnaps, .ref kaside, .ref kname, .ref kreadName, .ref kkeptName, .ref kisKept, .ref konces, .int (nI 0), .int (nI 0), .ref kpoured, .ref kfar, .ref ksides, .int (nI 0), .int (-1 : Int32), .int (nI 0), .ref klines, .ref kmet, .int (nI 0), .ref ksunk, .ref ktrying, .int (nI 0), .int (-1 : Int32), .int (-1 : Int32), .ref ktext, .int (nI 0), .int (nI 0), .ref kline, .ref kwritten, .int (nI 0), .int (nI 0), .ref knode, .int (nI 0), .int (nI 0), .int (nI 0), .int (nI 0)])), (know, .inl (ky 0, 373, .inl knowF))] H := hP
  have hD : va_D A [(o, .inr (12, [.int (nI 0), .ref ktape, .int (nI 0), .int (nI 0), .int (nI 0), .int (nI 0), .int (nI 0), .int (nI 0), .int (nI 0), .int (nI 0), .int (nI 0), .int (nI 0), .long 0, .int (nI 0), .ref know, .ref kread, .ref kkept, .ref ksnaps, .ref kaside, .ref kname, .ref kreadName, .ref kkeptName, .ref kisKept, .ref konces, .int (nI 0), .int (nI 0), .ref kpoured, .ref kfar, .ref ksides, .int (nI 0), .int (-1 : Int32), .int (nI 0), .ref klines, .ref kmet, .int (nI 0), .ref ksunk, .ref ktrying, .int (nI 0), .int (-1 : Int32), .int (-1 : Int32), .ref ktext, .int (nI 0), .int (nI 0), .ref kline, .ref kwritten, .int (nI 0), .int (nI 0), .ref knode, .int (nI 0), .int (nI 0), .int (nI 0), .int (nI 0)])), (know, .inl (ky 0, 373, .inl knowF))] := hD
  refine lv_aload_n hx hb dX12_mean_5 rfl (lv_at hl 0 rfl) ?_
  refine lv_iconst (v := nI 0) hx hb dX12_mean_6 (by decide) ?_
  refine lv_iload_n hx hb dX12_mean_7 rfl (lv_at hl 1 rfl) ?_
  refine vp_callSi (W.runV (As := [.int (nI 0), .int (nI x)]) (rest := []) ⟨hx, hb, hml, hown, hts⟩ (c_m_isCell0 l dC dI ky o (nI 0) ktape (nI 0) (nI 0) (nI 0) (nI 0) (nI 0) (nI 0) (nI 0) (nI 0) (nI 0) (nI 0) 0 (nI 0) know kread kkept ksnaps kaside kname kreadName kkeptName kisKept konces (nI 0) (nI 0) kpoured kfar ksides (nI 0) (-1 : Int32) (nI 0) klines kmet (nI 0) ksunk ktrying (nI 0) (-1 : Int32) (-1 : Int32) ktext (nI 0) (nI 0) kline kwritten (nI 0) (nI 0) knode (nI 0) (nI 0) (nI 0) (nI 0) knowF (nI x) (NowOk.b hN)) (cwV 2 hts gX12_mean_X12_isCell rfl rfl rfl (by decide +kernel) ⟨(Nat.le_of_ble_eq_true rfl), (Nat.le_of_ble_eq_true rfl)⟩) (pre_PV hK hP [0, 1] rfl (ci := 12) (q0 := 0) rfl rfl) rfl rfl hl.1 rfl (lv_room (Nat.le_of_ble_eq_true rfl)) dX12_mean_8 ⟨(Nat.le_of_ble_eq_true rfl), (Nat.le_of_ble_eq_true rfl)⟩) (fun r1 p2 => ?_)
  refine lv_if_eq (tgt := 23) hx hb dX12_mean_11 (by decide) (fun c3 => ?_) (fun c3 => ?_)
  · exact ((lf_m_meanOk1_1 o ktape know kread kkept ksnaps kaside kname kreadName kkeptName kisKept konces kpoured kfar ksides klines kmet ksunk ktrying ktext kline kwritten knode knowF x r1 hN hx4 p2 c3)).elim
  · refine lv_iload_n hx hb dX12_mean_14 rfl (lv_at hl 2 rfl) ?_
    refine lv_iconst (v := nI 0) hx hb dX12_mean_15 (by decide) ?_
    refine lv_iconst (v := nI 1) hx hb dX12_mean_16 (by decide) ?_
    refine vp_callSi (W.runS (As := [.int (nI 1), .int (nI 0), .int (nI 1)]) (rest := []) ⟨hx, hb, hml, hown, hts⟩ (c_isIn l dC dI ky (nI 1) (nI 0) (nI 1)) (va_cwS 3 hts gX12_mean_X12_isIn rfl rfl rfl (by decide +kernel) ⟨(Nat.le_of_ble_eq_true rfl), (Nat.le_of_ble_eq_true rfl)⟩) (pre_PS hK hP [] rfl) rfl rfl hl.1 rfl (lv_room (Nat.le_of_ble_eq_true rfl)) dX12_mean_17 ⟨(Nat.le_of_ble_eq_true rfl), (Nat.le_of_ble_eq_true rfl)⟩) (fun r4 p5 => ?_)
    refine lv_if_ne (tgt := 28) hx hb dX12_mean_20 (by decide) (fun c6 => ?_) (fun c6 => ?_)
    · refine lv_iconst (v := nI 0) hx hb dX12_mean_28 (by decide) ?_
      refine lv_istore_n (lv' := [(3, .int (nI 0)), (0, .ref o), (1, .int (nI x)), (2, .int (nI 1))]) hx hb dX12_mean_29 rfl hl (by decide) rfl (fun ls hl => ?_)
      refine lv_iconst (v := nI 0) hx hb dX12_mean_30 (by decide) ?_
      refine lv_istore (lv' := [(4, .int (nI 0)), (3, .int (nI 0)), (0, .ref o), (1, .int (nI x)), (2, .int (nI 1))]) hx hb dX12_mean_31 hl (by decide) rfl (fun ls hl => ?_)
      refine lv_iload hx hb dX12_mean_33 (lv_at hl 0 rfl) ?_
      refine lv_aload_n hx hb dX12_mean_35 rfl (lv_at hl 2 rfl) ?_
      refine va_get (D := (dC, dI)) (ci := 12) (v := .ref know) (C := RX12) (T := TX12) (N := 52) hx hb hts hin12 hown hK hP 0 rfl rfl 14 (by decide) (hts (.fieldLink RX12 98 "PorridgeSeaModel" "now" "[I") (List.mem_of_getElem? (i := 2) rfl)) (fun _ h9 => h9) rfl dX12_mean_36 ?_
      refine lv_iconst (v := nI 0) hx hb dX12_mean_39 (by decide) ?_
      refine r_iald hx hb hK hP 1 rfl 0 (by decide) (by decide) (nI 4) (NowOk.b hN).1 dX12_mean_40 ?_
      refine lv_icmp_ge (tgt := 68) hx hb dX12_mean_41 (by decide) (fun c7 => absurd c7 (by decide)) (fun c7 => ?_)
      refine lv_iload_n hx hb dX12_mean_44 rfl (lv_at hl 1 rfl) ?_
      refine lv_aload_n hx hb dX12_mean_45 rfl (lv_at hl 2 rfl) ?_
      refine va_get (D := (dC, dI)) (ci := 12) (v := .ref know) (C := RX12) (T := TX12) (N := 52) hx hb hts hin12 hown hK hP 0 rfl rfl 14 (by decide) (hts (.fieldLink RX12 98 "PorridgeSeaModel" "now" "[I") (List.mem_of_getElem? (i := 2) rfl)) (fun _ h9 => h9) rfl dX12_mean_46 ?_
      refine lv_bipush (v := nI 71) hx hb dX12_mean_49 (by decide) ?_
      refine lv_bipush (v := nI 6) hx hb dX12_mean_51 (by decide) ?_
      refine lv_iload_n hx hb dX12_mean_53 rfl (lv_at hl 3 rfl) ?_
      refine lv_imul hx hb dX12_mean_54 ?_
      refine r_ti (nI (6 * x)) (pk_mul _ _) ?_
      refine lv_iadd hx hb dX12_mean_55 ?_
      refine r_ti (nI (71 + (6 * x))) (nI_add _ _) ?_
      refine lv_iload hx hb dX12_mean_56 (lv_at hl 0 rfl) ?_
      refine lv_iadd hx hb dX12_mean_58 ?_
      refine r_ti (nI ((71 + (6 * x)) + 0)) (nI_add _ _) ?_
      refine r_iald hx hb hK hP 1 rfl ((71 + (6 * x)) + 0) (by omega) (by decide) (nI 0) (now_hi hN ((71 + (6 * x)) + 0) (by omega) (by omega)) dX12_mean_59 ?_
      refine lv_iadd hx hb dX12_mean_60 ?_
      refine r_ti (nI 0) (by decide) ?_
      refine lv_istore_n (lv' := [(3, .int (nI 0)), (4, .int (nI 0)), (0, .ref o), (1, .int (nI x)), (2, .int (nI 1))]) hx hb dX12_mean_61 rfl hl (by decide) rfl (fun ls hl => ?_)
      refine lv_iinc (v := nI 1) (lv' := [(4, .int (nI 1)), (3, .int (nI 0)), (0, .ref o), (1, .int (nI x)), (2, .int (nI 1))]) hx hb dX12_mean_62 hl (k := 1) rfl (by decide) (by decide) rfl (fun ls hl => ?_)
      refine lv_goto (tgt := 33) hx hb dX12_mean_65 (by decide) ?_
      refine lv_iload hx hb dX12_mean_33 (lv_at hl 0 rfl) ?_
      refine lv_aload_n hx hb dX12_mean_35 rfl (lv_at hl 2 rfl) ?_
      refine va_get (D := (dC, dI)) (ci := 12) (v := .ref know) (C := RX12) (T := TX12) (N := 52) hx hb hts hin12 hown hK hP 0 rfl rfl 14 (by decide) (hts (.fieldLink RX12 98 "PorridgeSeaModel" "now" "[I") (List.mem_of_getElem? (i := 2) rfl)) (fun _ h9 => h9) rfl dX12_mean_36 ?_
      refine lv_iconst (v := nI 0) hx hb dX12_mean_39 (by decide) ?_
      refine r_iald hx hb hK hP 1 rfl 0 (by decide) (by decide) (nI 4) (NowOk.b hN).1 dX12_mean_40 ?_
      refine lv_icmp_ge (tgt := 68) hx hb dX12_mean_41 (by decide) (fun c8 => absurd c8 (by decide)) (fun c8 => ?_)
      refine lv_iload_n hx hb dX12_mean_44 rfl (lv_at hl 1 rfl) ?_
      refine lv_aload_n hx hb dX12_mean_45 rfl (lv_at hl 2 rfl) ?_
      refine va_get (D := (dC, dI)) (ci := 12) (v := .ref know) (C := RX12) (T := TX12) (N := 52) hx hb hts hin12 hown hK hP 0 rfl rfl 14 (by decide) (hts (.fieldLink RX12 98 "PorridgeSeaModel" "now" "[I") (List.mem_of_getElem? (i := 2) rfl)) (fun _ h9 => h9) rfl dX12_mean_46 ?_
      refine lv_bipush (v := nI 71) hx hb dX12_mean_49 (by decide) ?_
      refine lv_bipush (v := nI 6) hx hb dX12_mean_51 (by decide) ?_
      refine lv_iload_n hx hb dX12_mean_53 rfl (lv_at hl 3 rfl) ?_
      refine lv_imul hx hb dX12_mean_54 ?_
      refine r_ti (nI (6 * x)) (pk_mul _ _) ?_
      refine lv_iadd hx hb dX12_mean_55 ?_
      refine r_ti (nI (71 + (6 * x))) (nI_add _ _) ?_
      refine lv_iload hx hb dX12_mean_56 (lv_at hl 0 rfl) ?_
      refine lv_iadd hx hb dX12_mean_58 ?_
      refine r_ti (nI ((71 + (6 * x)) + 1)) (nI_add _ _) ?_
      refine r_iald hx hb hK hP 1 rfl ((71 + (6 * x)) + 1) (by omega) (by decide) (nI 0) (now_hi hN ((71 + (6 * x)) + 1) (by omega) (by omega)) dX12_mean_59 ?_
      refine lv_iadd hx hb dX12_mean_60 ?_
      refine r_ti (nI 0) (by decide) ?_
      refine lv_istore_n (lv' := [(3, .int (nI 0)), (4, .int (nI 1)), (0, .ref o), (1, .int (nI x)), (2, .int (nI 1))]) hx hb dX12_mean_61 rfl hl (by decide) rfl (fun ls hl => ?_)
      refine lv_iinc (v := nI 2) (lv' := [(4, .int (nI 2)), (3, .int (nI 0)), (0, .ref o), (1, .int (nI x)), (2, .int (nI 1))]) hx hb dX12_mean_62 hl (k := 1) rfl (by decide) (by decide) rfl (fun ls hl => ?_)
      refine lv_goto (tgt := 33) hx hb dX12_mean_65 (by decide) ?_
      refine lv_iload hx hb dX12_mean_33 (lv_at hl 0 rfl) ?_
      refine lv_aload_n hx hb dX12_mean_35 rfl (lv_at hl 2 rfl) ?_
      refine va_get (D := (dC, dI)) (ci := 12) (v := .ref know) (C := RX12) (T := TX12) (N := 52) hx hb hts hin12 hown hK hP 0 rfl rfl 14 (by decide) (hts (.fieldLink RX12 98 "PorridgeSeaModel" "now" "[I") (List.mem_of_getElem? (i := 2) rfl)) (fun _ h9 => h9) rfl dX12_mean_36 ?_
      refine lv_iconst (v := nI 0) hx hb dX12_mean_39 (by decide) ?_
      refine r_iald hx hb hK hP 1 rfl 0 (by decide) (by decide) (nI 4) (NowOk.b hN).1 dX12_mean_40 ?_
      refine lv_icmp_ge (tgt := 68) hx hb dX12_mean_41 (by decide) (fun c9 => absurd c9 (by decide)) (fun c9 => ?_)
      refine lv_iload_n hx hb dX12_mean_44 rfl (lv_at hl 1 rfl) ?_
      refine lv_aload_n hx hb dX12_mean_45 rfl (lv_at hl 2 rfl) ?_
      refine va_get (D := (dC, dI)) (ci := 12) (v := .ref know) (C := RX12) (T := TX12) (N := 52) hx hb hts hin12 hown hK hP 0 rfl rfl 14 (by decide) (hts (.fieldLink RX12 98 "PorridgeSeaModel" "now" "[I") (List.mem_of_getElem? (i := 2) rfl)) (fun _ h9 => h9) rfl dX12_mean_46 ?_
      refine lv_bipush (v := nI 71) hx hb dX12_mean_49 (by decide) ?_
      refine lv_bipush (v := nI 6) hx hb dX12_mean_51 (by decide) ?_
      refine lv_iload_n hx hb dX12_mean_53 rfl (lv_at hl 3 rfl) ?_
      refine lv_imul hx hb dX12_mean_54 ?_
      refine r_ti (nI (6 * x)) (pk_mul _ _) ?_
      refine lv_iadd hx hb dX12_mean_55 ?_
      refine r_ti (nI (71 + (6 * x))) (nI_add _ _) ?_
      refine lv_iload hx hb dX12_mean_56 (lv_at hl 0 rfl) ?_
      refine lv_iadd hx hb dX12_mean_58 ?_
      refine r_ti (nI ((71 + (6 * x)) + 2)) (nI_add _ _) ?_
      refine r_iald hx hb hK hP 1 rfl ((71 + (6 * x)) + 2) (by omega) (by decide) (nI 0) (now_hi hN ((71 + (6 * x)) + 2) (by omega) (by omega)) dX12_mean_59 ?_
      refine lv_iadd hx hb dX12_mean_60 ?_
      refine r_ti (nI 0) (by decide) ?_
      refine lv_istore_n (lv' := [(3, .int (nI 0)), (4, .int (nI 2)), (0, .ref o), (1, .int (nI x)), (2, .int (nI 1))]) hx hb dX12_mean_61 rfl hl (by decide) rfl (fun ls hl => ?_)
      refine lv_iinc (v := nI 3) (lv' := [(4, .int (nI 3)), (3, .int (nI 0)), (0, .ref o), (1, .int (nI x)), (2, .int (nI 1))]) hx hb dX12_mean_62 hl (k := 1) rfl (by decide) (by decide) rfl (fun ls hl => ?_)
      refine lv_goto (tgt := 33) hx hb dX12_mean_65 (by decide) ?_
      refine lv_iload hx hb dX12_mean_33 (lv_at hl 0 rfl) ?_
      refine lv_aload_n hx hb dX12_mean_35 rfl (lv_at hl 2 rfl) ?_
      refine va_get (D := (dC, dI)) (ci := 12) (v := .ref know) (C := RX12) (T := TX12) (N := 52) hx hb hts hin12 hown hK hP 0 rfl rfl 14 (by decide) (hts (.fieldLink RX12 98 "PorridgeSeaModel" "now" "[I") (List.mem_of_getElem? (i := 2) rfl)) (fun _ h9 => h9) rfl dX12_mean_36 ?_
      refine lv_iconst (v := nI 0) hx hb dX12_mean_39 (by decide) ?_
      refine r_iald hx hb hK hP 1 rfl 0 (by decide) (by decide) (nI 4) (NowOk.b hN).1 dX12_mean_40 ?_
      refine lv_icmp_ge (tgt := 68) hx hb dX12_mean_41 (by decide) (fun c10 => absurd c10 (by decide)) (fun c10 => ?_)
      refine lv_iload_n hx hb dX12_mean_44 rfl (lv_at hl 1 rfl) ?_
      refine lv_aload_n hx hb dX12_mean_45 rfl (lv_at hl 2 rfl) ?_
      refine va_get (D := (dC, dI)) (ci := 12) (v := .ref know) (C := RX12) (T := TX12) (N := 52) hx hb hts hin12 hown hK hP 0 rfl rfl 14 (by decide) (hts (.fieldLink RX12 98 "PorridgeSeaModel" "now" "[I") (List.mem_of_getElem? (i := 2) rfl)) (fun _ h9 => h9) rfl dX12_mean_46 ?_
      refine lv_bipush (v := nI 71) hx hb dX12_mean_49 (by decide) ?_
      refine lv_bipush (v := nI 6) hx hb dX12_mean_51 (by decide) ?_
      refine lv_iload_n hx hb dX12_mean_53 rfl (lv_at hl 3 rfl) ?_
      refine lv_imul hx hb dX12_mean_54 ?_
      refine r_ti (nI (6 * x)) (pk_mul _ _) ?_
      refine lv_iadd hx hb dX12_mean_55 ?_
      refine r_ti (nI (71 + (6 * x))) (nI_add _ _) ?_
      refine lv_iload hx hb dX12_mean_56 (lv_at hl 0 rfl) ?_
      refine lv_iadd hx hb dX12_mean_58 ?_
      refine r_ti (nI ((71 + (6 * x)) + 3)) (nI_add _ _) ?_
      refine r_iald hx hb hK hP 1 rfl ((71 + (6 * x)) + 3) (by omega) (by decide) (nI 0) (now_hi hN ((71 + (6 * x)) + 3) (by omega) (by omega)) dX12_mean_59 ?_
      refine lv_iadd hx hb dX12_mean_60 ?_
      refine r_ti (nI 0) (by decide) ?_
      refine lv_istore_n (lv' := [(3, .int (nI 0)), (4, .int (nI 3)), (0, .ref o), (1, .int (nI x)), (2, .int (nI 1))]) hx hb dX12_mean_61 rfl hl (by decide) rfl (fun ls hl => ?_)
      refine lv_iinc (v := nI 4) (lv' := [(4, .int (nI 4)), (3, .int (nI 0)), (0, .ref o), (1, .int (nI x)), (2, .int (nI 1))]) hx hb dX12_mean_62 hl (k := 1) rfl (by decide) (by decide) rfl (fun ls hl => ?_)
      refine lv_goto (tgt := 33) hx hb dX12_mean_65 (by decide) ?_
      refine lv_iload hx hb dX12_mean_33 (lv_at hl 0 rfl) ?_
      refine lv_aload_n hx hb dX12_mean_35 rfl (lv_at hl 2 rfl) ?_
      refine va_get (D := (dC, dI)) (ci := 12) (v := .ref know) (C := RX12) (T := TX12) (N := 52) hx hb hts hin12 hown hK hP 0 rfl rfl 14 (by decide) (hts (.fieldLink RX12 98 "PorridgeSeaModel" "now" "[I") (List.mem_of_getElem? (i := 2) rfl)) (fun _ h9 => h9) rfl dX12_mean_36 ?_
      refine lv_iconst (v := nI 0) hx hb dX12_mean_39 (by decide) ?_
      refine r_iald hx hb hK hP 1 rfl 0 (by decide) (by decide) (nI 4) (NowOk.b hN).1 dX12_mean_40 ?_
      refine lv_icmp_ge (tgt := 68) hx hb dX12_mean_41 (by decide) (fun c11 => ?_) (fun c11 => absurd (by decide) c11)
      refine lv_iload_n hx hb dX12_mean_68 rfl (lv_at hl 4 rfl) ?_
      refine lv_if_ne (tgt := 76) hx hb dX12_mean_69 (by decide) (fun c12 => ?_) (fun c12 => absurd c12 (by decide))
      refine lv_aload_n hx hb dX12_mean_76 rfl (lv_at hl 2 rfl) ?_
      refine va_get (D := (dC, dI)) (ci := 12) (v := .ref know) (C := RX12) (T := TX12) (N := 52) hx hb hts hin12 hown hK hP 0 rfl rfl 14 (by decide) (hts (.fieldLink RX12 98 "PorridgeSeaModel" "now" "[I") (List.mem_of_getElem? (i := 2) rfl)) (fun _ h9 => h9) rfl dX12_mean_77 ?_
      refine lv_iconst (v := nI 0) hx hb dX12_mean_80 (by decide) ?_
      refine r_iald hx hb hK hP 1 rfl 0 (by decide) (by decide) (nI 4) (NowOk.b hN).1 dX12_mean_81 ?_
      refine lv_aload_n hx hb dX12_mean_82 rfl (lv_at hl 2 rfl) ?_
      refine va_get (D := (dC, dI)) (ci := 12) (v := .ref know) (C := RX12) (T := TX12) (N := 52) hx hb hts hin12 hown hK hP 0 rfl rfl 14 (by decide) (hts (.fieldLink RX12 98 "PorridgeSeaModel" "now" "[I") (List.mem_of_getElem? (i := 2) rfl)) (fun _ h9 => h9) rfl dX12_mean_83 ?_
      refine lv_iconst (v := nI 0) hx hb dX12_mean_86 (by decide) ?_
      refine r_iald hx hb hK hP 1 rfl 0 (by decide) (by decide) (nI 4) (NowOk.b hN).1 dX12_mean_87 ?_
      refine lv_iload_n hx hb dX12_mean_88 rfl (lv_at hl 1 rfl) ?_
      refine vp_callSi (W.runS (As := [.int (nI 4), .int (nI 0)]) (rest := [.int (nI 4)]) ⟨hx, hb, hml, hown, hts⟩ (c_m_common l dC dI ky) (va_cwS 2 hts gX12_mean_X12_common rfl rfl rfl (by decide +kernel) ⟨(Nat.le_of_ble_eq_true rfl), (Nat.le_of_ble_eq_true rfl)⟩) (pre_PS hK hP [] rfl) rfl rfl hl.1 rfl (lv_room (Nat.le_of_ble_eq_true rfl)) dX12_mean_89 ⟨(Nat.le_of_ble_eq_true rfl), (Nat.le_of_ble_eq_true rfl)⟩) (fun r13 p14 => ?_)
      subst p14
      refine lv_idiv hx hb dX12_mean_92 (by decide) ?_
      refine r_ti (nI 1) (by decide) ?_
      have hP9 := hP.sub (ws' := [(o, .inr (12, [.int (nI 0), .ref ktape, .int (nI 0), .int (nI 0), .int (nI 0), .int (nI 0), .int (nI 0), .int (nI 0), .int (nI 0), .int (nI 0), .int (nI 0), .int (nI 0), .long 0, .int (nI 0), .ref know, .ref kread, .ref kkept, .ref ksnaps, .ref kaside, .ref kname, .ref kreadName, .ref kkeptName, .ref kisKept, .ref konces, .int (nI 0), .int (nI 0), .ref kpoured, .ref kfar, .ref ksides, .int (nI 0), .int (-1 : Int32), .int (nI 0), .ref klines, .ref kmet, .int (nI 0), .ref ksunk, .ref ktrying, .int (nI 0), .int (-1 : Int32), .int (-1 : Int32), .ref ktext, .int (nI 0), .int (nI 0), .ref kline, .ref kwritten, .int (nI 0), .int (nI 0), .ref knode, .int (nI 0), .int (nI 0), .int (nI 0), .int (nI 0)]))]) [0] rfl
      have hD9 := hD.sub (ws' := [(o, .inr (12, [.int (nI 0), .ref ktape, .int (nI 0), .int (nI 0), .int (nI 0), .int (nI 0), .int (nI 0), .int (nI 0), .int (nI 0), .int (nI 0), .int (nI 0), .int (nI 0), .long 0, .int (nI 0), .ref know, .ref kread, .ref kkept, .ref ksnaps, .ref kaside, .ref kname, .ref kreadName, .ref kkeptName, .ref kisKept, .ref konces, .int (nI 0), .int (nI 0), .ref kpoured, .ref kfar, .ref ksides, .int (nI 0), .int (-1 : Int32), .int (nI 0), .ref klines, .ref kmet, .int (nI 0), .ref ksunk, .ref ktrying, .int (nI 0), .int (-1 : Int32), .int (-1 : Int32), .ref ktext, .int (nI 0), .int (nI 0), .ref kline, .ref kwritten, .int (nI 0), .int (nI 0), .ref knode, .int (nI 0), .int (nI 0), .int (nI 0), .int (nI 0)]))]) [0] (by decide) rfl
      refine W.widen (k := 0) (n := 0) (Nat.le_of_ble_eq_true rfl) (Nat.le_of_ble_eq_true rfl) ?_
      exact W.iret (v := nI 1) hx hb hr (fun t ht9 hW9 => ⟨⟨nI 1, (), rfl, rfl, by rw [ht9]; exact hP9, va_K.moved hW9.alike hK, hD9⟩, hS.F ht9⟩) hS.2.2 dX12_mean_93
    · exact ((lf_m_meanOk1_2 o ktape know kread kkept ksnaps kaside kname kreadName kkeptName kisKept konces kpoured kfar ksides klines kmet ksunk ktrying ktext kline kwritten knode knowF x r1 r4 hN hx4 p2 c3 p5 c6)).elim
set_option maxHeartbeats 4000000 in
set_option maxRecDepth 100000 in
theorem law_6 {p : Program} {l : Launch} {e : Env} {s : State} {m : MethodId} {args : Array Value} {below : List Frame} {meth : Method} {c : Code} {Q : State → Prop} {dC : Nat → ClassId} {dI : Nat → Nat → Nat} {ky : Nat → ClassId} {A : Nat → Prop} {b : Nat} {xs : Nat → Int32} (hx : p.tables.exec = Jvm.exec) (hb : c.code = cL_law) (hml : c.maxLocals = 7) (hown : s.vm.findClass RL = some m.cls) (hts : ∀ w ∈ lw_tbl, w.before args s = true) (hK : Kk dC dI ky s) (hA : ∀ q, s.heap.size ≤ q → A q) (hX : va_X b 6 xs s s.heap) (hbl : b < s.heap.size) (hbA : ¬ A b) (hst : l.stackTraces = false) (hTh : ThE s s.heap) (hAn : ∀ a, a < s.heap.size → ¬ A a) (reader : Nat) (sea : Nat) (spareSea : Nat) (seaText : Nat) (book : Nat) (sentence : Nat) (spareSentence : Nat) (route : Nat) (meeting : Nat) (sighting : Nat) (draws : Nat) (history : Nat) (images : Nat) (chartBytes : Nat) (thickness : Nat) (lumpNames : Nat) (lumpCells : Nat) (boatNames : Nat) (boatCells : Nat) (loads : Nat) (spoons : Nat) (spoonsLeft : Nat) (depths : Nat) (ktape : Nat) (know : Nat) (kread : Nat) (kkept : Nat) (ksnaps : Nat) (kaside : Nat) (kname : Nat) (kreadName : Nat) (kkeptName : Nat) (kisKept : Nat) (konces : Nat) (kpoured : Nat) (kfar : Nat) (ksides : Nat) (klines : Nat) (kmet : Nat) (ksunk : Nat) (ktrying : Nat) (ktext : Nat) (kline : Nat) (kwritten : Nat) (knode : Nat) (knowG : Nat → Int32) (t : Nat) (o : Nat) (out : Nat) (outF : Nat → Int64) (hN : NowOk knowG) (x1 x2 x3 x4 x5 : Int32) (hx1 : xs 1 = x1) (hx2 : xs 2 = x2) (hx3 : xs 3 = x3) (hx4 : xs 4 = x4) (hx5 : xs 5 = x5) (kx : ∀ (H : Heap) (locs : List Loc) (ls : Array Slot), va_S A s.heap H locs → W p l e room_1 s m args below meth c H locs 173 6153 Q (F0 m 1440 ls [])) : ∀ (H : Heap) (locs : List Loc) (ls : Array Slot), va_P (dC, dI) vwCl [(t, .inr (11, [.ref reader, .int (nI 0), .int (nI 0), .ref sea, .ref spareSea, .ref seaText, .ref book, .ref sentence, .ref spareSentence, .ref route, .ref meeting, .ref sighting, .ref draws, .ref history, .ref images, .ref chartBytes, .int (nI 0), .int (-1 : Int32)])), (sea, .inr (7, [.int (nI 4), .int (nI 4), .int (nI 10), .int (nI 1), .int (nI 3), .int (nI 0), .int (nI 0), .int (nI 0), .int (nI 0), .int (nI 0), .ref thickness, .ref lumpNames, .ref lumpCells, .ref boatNames, .ref boatCells, .ref loads, .ref spoons, .ref spoonsLeft, .ref depths])), (o, .inr (12, [.int (nI 0), .ref ktape, .int (nI 0), .int (nI 0), .int (nI 0), .int (nI 0), .int (nI 0), .int (nI 0), .int (nI 0), .int (nI 0), .int (nI 0), .int (nI 0), .long 0, .int (nI 0), .ref know, .ref kread, .ref kkept, .ref ksnaps, .ref kaside, .ref kname, .ref kreadName, .ref kkeptName, .ref kisKept, .ref konces, .int (nI 0), .int (nI 0), .ref kpoured, .ref kfar, .ref ksides, .int (nI 0), .int (-1 : Int32), .int (nI 0), .ref klines, .ref kmet, .int (nI 0), .ref ksunk, .ref ktrying, .int (nI 0), .int (-1 : Int32), .int (-1 : Int32), .ref ktext, .int (nI 0), .int (nI 0), .ref kline, .ref kwritten, .int (nI 0), .int (nI 0), .ref knode, .int (nI 0), .int (nI 0), .int (nI 0), .int (nI 0)])), (know, .inl (ky 0, 373, .inl knowG)), (out, .inl (ky 1, 1, .inr (.inl outF)))] H → va_D A [(t, .inr (11, [.ref reader, .int (nI 0), .int (nI 0), .ref sea, .ref spareSea, .ref seaText, .ref book, .ref sentence, .ref spareSentence, .ref route, .ref meeting, .ref sighting, .ref draws, .ref history, .ref images, .ref chartBytes, .int (nI 0), .int (-1 : Int32)])), (sea, .inr (7, [.int (nI 4), .int (nI 4), .int (nI 10), .int (nI 1), .int (nI 3), .int (nI 0), .int (nI 0), .int (nI 0), .int (nI 0), .int (nI 0), .ref thickness, .ref lumpNames, .ref lumpCells, .ref boatNames, .ref boatCells, .ref loads, .ref spoons, .ref spoonsLeft, .ref depths])), (o, .inr (12, [.int (nI 0), .ref ktape, .int (nI 0), .int (nI 0), .int (nI 0), .int (nI 0), .int (nI 0), .int (nI 0), .int (nI 0), .int (nI 0), .int (nI 0), .int (nI 0), .long 0, .int (nI 0), .ref know, .ref kread, .ref kkept, .ref ksnaps, .ref kaside, .ref kname, .ref kreadName, .ref kkeptName, .ref kisKept, .ref konces, .int (nI 0), .int (nI 0), .ref kpoured, .ref kfar, .ref ksides, .int (nI 0), .int (-1 : Int32), .int (nI 0), .ref klines, .ref kmet, .int (nI 0), .ref ksunk, .ref ktrying, .int (nI 0), .int (-1 : Int32), .int (-1 : Int32), .ref ktext, .int (nI 0), .int (nI 0), .ref kline, .ref kwritten, .int (nI 0), .int (nI 0), .ref knode, .int (nI 0), .int (nI 0), .int (nI 0), .int (nI 0)])), (know, .inl (ky 0, 373, .inl knowG)), (out, .inl (ky 1, 1, .inr (.inl outF)))] → va_S A s.heap H locs → lv_has ls 7 [(4, .int (nI 0)), (3, .ref out), (2, .ref o), (1, .ref t), (0, .ref b)] → W p l e room_1 s m args below meth c H locs 172 6147 Q (F0 m 414 ls []) := by
  intro H locs ls hP hD hS hl
  refine lv_aload_n hx hb dL_law_414 rfl (lv_at hl 3 rfl) ?_
  refine lv_aload_n hx hb dL_law_415 rfl (lv_at hl 4 rfl) ?_
  refine lv_iload hx hb dL_law_416 (lv_at hl 0 rfl) ?_
  refine lv_iconst (v := nI 1) hx hb dL_law_418 (by decide) ?_
  refine lv_iadd hx hb dL_law_419 ?_
  refine r_ti (nI 1) (by decide) ?_
  refine r_sld hx hb hX hbl hbA hS 1 (by decide) (by decide) x1 hx1 dL_law_420 ?_
  refine lv_aload_n hx hb dL_law_421 rfl (lv_at hl 4 rfl) ?_
  refine lv_iload hx hb dL_law_422 (lv_at hl 0 rfl) ?_
  refine lv_iconst (v := nI 2) hx hb dL_law_424 (by decide) ?_
  refine lv_iadd hx hb dL_law_425 ?_
  refine r_ti (nI 2) (by decide) ?_
  refine r_sld hx hb hX hbl hbA hS 2 (by decide) (by decide) x2 hx2 dL_law_426 ?_
  refine lv_aload_n hx hb dL_law_427 rfl (lv_at hl 1 rfl) ?_
  refine r_call_i (wc := []) (wr := [(t, .inr (11, [.ref reader, .int (nI 0), .int (nI 0), .ref sea, .ref spareSea, .ref seaText, .ref book, .ref sentence, .ref spareSentence, .ref route, .ref meeting, .ref sighting, .ref draws, .ref history, .ref images, .ref chartBytes, .int (nI 0), .int (-1 : Int32)])), (sea, .inr (7, [.int (nI 4), .int (nI 4), .int (nI 10), .int (nI 1), .int (nI 3), .int (nI 0), .int (nI 0), .int (nI 0), .int (nI 0), .int (nI 0), .ref thickness, .ref lumpNames, .ref lumpCells, .ref boatNames, .ref boatCells, .ref loads, .ref spoons, .ref spoonsLeft, .ref depths])), (o, .inr (12, [.int (nI 0), .ref ktape, .int (nI 0), .int (nI 0), .int (nI 0), .int (nI 0), .int (nI 0), .int (nI 0), .int (nI 0), .int (nI 0), .int (nI 0), .int (nI 0), .long 0, .int (nI 0), .ref know, .ref kread, .ref kkept, .ref ksnaps, .ref kaside, .ref kname, .ref kreadName, .ref kkeptName, .ref kisKept, .ref konces, .int (nI 0), .int (nI 0), .ref kpoured, .ref kfar, .ref ksides, .int (nI 0), .int (-1 : Int32), .int (nI 0), .ref klines, .ref kmet, .int (nI 0), .ref ksunk, .ref ktrying, .int (nI 0), .int (-1 : Int32), .int (-1 : Int32), .ref ktext, .int (nI 0), .int (nI 0), .ref kline, .ref kwritten, .int (nI 0), .int (nI 0), .ref knode, .int (nI 0), .int (nI 0), .int (nI 0), .int (nI 0)])), (know, .inl (ky 0, 373, .inl knowG)), (out, .inl (ky 1, 1, .inr (.inl outF)))]) (vx_runSW (As := [.ref t, .int x1, .int x2, .ref out]) (rest := []) ⟨hx, hb, hml, hown, hts⟩ (c_Lboat l dC dI ky hst H.size t reader sea spareSea seaText book sentence spareSentence route meeting sighting draws history images chartBytes thickness lumpNames lumpCells boatNames boatCells loads spoons spoonsLeft depths x1 x2 out ) (vx_cwSW 4 hts gl_L_boat rfl rfl rfl (by decide +kernel) ⟨Nat.le_of_ble_eq_true rfl, Nat.le_of_ble_eq_true rfl⟩) (pre_TS (hTh.kept (fun a h => hS.2.1 a h (hAn a h))) hK hP hD [0, 1] (by decide) rfl) rfl rfl hl.1 rfl (lv_room (Nat.le_of_ble_eq_true rfl)) dL_law_428 ⟨Nat.le_of_ble_eq_true rfl, Nat.le_of_ble_eq_true rfl⟩) hP hD hS hA [] [0, 1, 2, 3, 4] rfl rfl (by decide) (by decide) (fun r9 u9 H locs p1 hP hD hS => ?_)
  subst p1
  refine W.widen (k := 173) (n := 6153) (Nat.le_of_ble_eq_true rfl) (Nat.le_of_ble_eq_true rfl) ?_
  have hP : va_P (dC, dI) vwCl [(t, .inr (11, [.ref reader, .int (nI 0), .int (nI 0), .ref sea, .ref spareSea, .ref seaText, .ref book, .ref sentence, .ref spareSentence, .ref route, .ref meeting, .ref sighting, .ref draws, .ref history, .ref images, .ref chartBytes, .int (nI 0), .int (-1 : Int32)])), (sea, .inr (7, [.int (nI 4), .int (nI 4), .int (nI 10), .int (nI 1), .int (nI 3), .int (nI 0), .int (nI 0), .int (nI 0), .int (nI 0), .int (nI 0), .ref thickness, .ref lumpNames, .ref lumpCells, .ref boatNames, .ref boatCells, .ref loads, .ref spoons, .ref spoonsLeft, .ref depths])), (o, .inr (12, [.int (nI 0), .ref ktape, .int (nI 0), .int (nI 0), .int (nI 0), .int (nI 0), .int (nI 0), .int (nI 0), .int (nI 0), .int (nI 0), .int (nI 0), .int (nI 0), .long 0, .int (nI 0), .ref know, .ref kread, .ref kkept, .ref ksnaps, .ref kaside, .ref kname, .ref kreadName, .ref kkeptName, .ref kisKept, .ref konces, .int (nI 0), .int (nI 0), .ref kpoured, .ref kfar, .ref ksides, .int (nI 0), .int (-1 : Int32), .int (nI 0), .ref klines, .ref kmet, .int (nI 0), .ref ksunk, .ref ktrying, .int (nI 0), .int (-1 : Int32), .int (-1 : Int32), .ref ktext, .int (nI 0), .int (nI 0), .ref kline, .ref kwritten, .int (nI 0), .int (nI 0), .ref knode, .int (nI 0), .int (nI 0), .int (nI 0), .int (nI 0)])), (know, .inl (ky 0, 373, .inl knowG)), (out, .inl (ky 1, 1, .inr (.inl outF)))] H := hP
  have hD : va_D A [(t, .inr (11, [.ref reader, .int (nI 0), .int (nI 0), .ref sea, .ref spareSea, .ref seaText, .ref book, .ref sentence, .ref spareSentence, .ref route, .ref meeting, .ref sighting, .ref draws, .ref history, .ref images, .ref chartBytes, .int (nI 0), .int (-1 : Int32)])), (sea, .inr (7, [.int (nI 4), .int (nI 4), .int (nI 10), .int (nI 1), .int (nI 3), .int (nI 0), .int (nI 0), .int (nI 0), .int (nI 0), .int (nI 0), .ref thickness, .ref lumpNames, .ref lumpCells, .ref boatNames, .ref boatCells, .ref loads, .ref spoons, .ref spoonsLeft, .ref depths])), (o, .inr (12, [.int (nI 0), .ref ktape, .int (nI 0), .int (nI 0), .int (nI 0), .int (nI 0), .int (nI 0), .int (nI 0), .int (nI 0), .int (nI 0), .int (nI 0), .int (nI 0), .long 0, .int (nI 0), .ref know, .ref kread, .ref kkept, .ref ksnaps, .ref kaside, .ref kname, .ref kreadName, .ref kkeptName, .ref kisKept, .ref konces, .int (nI 0), .int (nI 0), .ref kpoured, .ref kfar, .ref ksides, .int (nI 0), .int (-1 : Int32), .int (nI 0), .ref klines, .ref kmet, .int (nI 0), .ref ksunk, .ref ktrying, .int (nI 0), .int (-1 : Int32), .int (-1 : Int32), .ref ktext, .int (nI 0), .int (nI 0), .ref kline, .ref kwritten, .int (nI 0), .int (nI 0), .ref knode, .int (nI 0), .int (nI 0), .int (nI 0), .int (nI 0)])), (know, .inl (ky 0, 373, .inl knowG)), (out, .inl (ky 1, 1, .inr (.inl outF)))] := hD
  refine lv_istore (lv' := [(5, .int (nI 1)), (4, .int (nI 0)), (3, .ref out), (2, .ref o), (1, .ref t), (0, .ref b)]) hx hb dL_law_431 hl (by decide) rfl (fun ls hl => ?_)
  refine lv_aload_n hx hb dL_law_433 rfl (lv_at hl 3 rfl) ?_
  refine lv_aload_n hx hb dL_law_434 rfl (lv_at hl 5 rfl) ?_
  refine lv_iload hx hb dL_law_435 (lv_at hl 1 rfl) ?_
  refine lv_iconst (v := nI 1) hx hb dL_law_437 (by decide) ?_
  refine lv_iadd hx hb dL_law_438 ?_
  refine r_ti (nI 1) (by decide) ?_
  refine r_sld hx hb hX hbl hbA hS 1 (by decide) (by decide) x1 hx1 dL_law_439 ?_
  refine lv_aload_n hx hb dL_law_440 rfl (lv_at hl 5 rfl) ?_
  refine lv_iload hx hb dL_law_441 (lv_at hl 1 rfl) ?_
  refine lv_iconst (v := nI 2) hx hb dL_law_443 (by decide) ?_
  refine lv_iadd hx hb dL_law_444 ?_
  refine r_ti (nI 2) (by decide) ?_
  refine r_sld hx hb hX hbl hbA hS 2 (by decide) (by decide) x2 hx2 dL_law_445 ?_
  refine r_call_i (wr := [(t, .inr (11, [.ref reader, .int (nI 0), .int (nI 0), .ref sea, .ref spareSea, .ref seaText, .ref book, .ref sentence, .ref spareSentence, .ref route, .ref meeting, .ref sighting, .ref draws, .ref history, .ref images, .ref chartBytes, .int (nI 0), .int (-1 : Int32)])), (sea, .inr (7, [.int (nI 4), .int (nI 4), .int (nI 10), .int (nI 1), .int (nI 3), .int (nI 0), .int (nI 0), .int (nI 0), .int (nI 0), .int (nI 0), .ref thickness, .ref lumpNames, .ref lumpCells, .ref boatNames, .ref boatCells, .ref loads, .ref spoons, .ref spoonsLeft, .ref depths])), (out, .inl (ky 1, 1, .inr (.inl outF)))]) (va_runV (As := [.int x1, .int x2]) (rest := []) ⟨hx, hb, hml, hown, hts⟩ (c_m_boat l dC dI ky H.size o ktape know kread kkept ksnaps kaside kname kreadName kkeptName kisKept konces kpoured kfar ksides klines kmet ksunk ktrying ktext kline kwritten knode knowG x1 x2 hN) (cwV 2 hts gl_X12_boat rfl rfl rfl (by decide +kernel) ⟨(Nat.le_of_ble_eq_true rfl), (Nat.le_of_ble_eq_true rfl)⟩) (pre_UV hK hP hD [2, 3] (by decide) rfl (ci := 12) (q0 := 2) rfl rfl) rfl rfl hl.1 rfl (lv_room (Nat.le_of_ble_eq_true rfl)) dL_law_446 ⟨(Nat.le_of_ble_eq_true rfl), (Nat.le_of_ble_eq_true rfl)⟩) hP hD hS hA [2, 3] [0, 1, 4] rfl rfl (by decide) (by decide) (fun r4 u2 H locs p3 hP hD hS => ?_)
  try dsimp only at p3
  have p5 := p3
  refine W.widen (k := 173) (n := 6153) (Nat.le_of_ble_eq_true rfl) (Nat.le_of_ble_eq_true rfl) ?_
  have hP : va_P (dC, dI) vwCl [(t, .inr (11, [.ref reader, .int (nI 0), .int (nI 0), .ref sea, .ref spareSea, .ref seaText, .ref book, .ref sentence, .ref spareSentence, .ref route, .ref meeting, .ref sighting, .ref draws, .ref history, .ref images, .ref chartBytes, .int (nI 0), .int (-1 : Int32)])), (sea, .inr (7, [.int (nI 4), .int (nI 4), .int (nI 10), .int (nI 1), .int (nI 3), .int (nI 0), .int (nI 0), .int (nI 0), .int (nI 0), .int (nI 0), .ref thickness, .ref lumpNames, .ref lumpCells, .ref boatNames, .ref boatCells, .ref loads, .ref spoons, .ref spoonsLeft, .ref depths])), (out, .inl (ky 1, 1, .inr (.inl outF))), (o, .inr (12, [.int (nI 1), .ref ktape, .int (nI 0), .int (nI 0), .int (nI 0), .int (nI 0), .int (nI 0), .int (nI 0), .int (nI 0), .int (nI 0), .int (nI 0), .int (nI 0), .long 0, .int (nI 0), .ref know, .ref kread, .ref kkept, .ref ksnaps, .ref kaside, .ref kname, .ref kreadName, .ref kkeptName, .ref kisKept, .ref konces, .int (nI 0), .int (nI 0), .ref kpoured, .ref kfar, .ref ksides, .int (nI 0), .int (-1 : Int32), .int (nI 0), .ref klines, .ref kmet, .int (nI 0), .ref ksunk, .ref ktrying, .int (nI 0), .int (-1 : Int32), .int (-1 : Int32), .ref ktext, .int (nI 0), .int (nI 0), .ref kline, .ref kwritten, .int (nI 0), .int (nI 0), .ref knode, .int (nI 0), .int (nI 0), .int (nI 0), .int (nI 0)]))] H := hP
  have hD : va_D A [(t, .inr (11, [.ref reader, .int (nI 0), .int (nI 0), .ref sea, .ref spareSea, .ref seaText, .ref book, .ref sentence, .ref spareSentence, .ref route, .ref meeting, .ref sighting, .ref draws, .ref history, .ref images, .ref chartBytes, .int (nI 0), .int (-1 : Int32)])), (sea, .inr (7, [.int (nI 4), .int (nI 4), .int (nI 10), .int (nI 1), .int (nI 3), .int (nI 0), .int (nI 0), .int (nI 0), .int (nI 0), .int (nI 0), .ref thickness, .ref lumpNames, .ref lumpCells, .ref boatNames, .ref boatCells, .ref loads, .ref spoons, .ref spoonsLeft, .ref depths])), (out, .inl (ky 1, 1, .inr (.inl outF))), (o, .inr (12, [.int (nI 1), .ref ktape, .int (nI 0), .int (nI 0), .int (nI 0), .int (nI 0), .int (nI 0), .int (nI 0), .int (nI 0), .int (nI 0), .int (nI 0), .int (nI 0), .long 0, .int (nI 0), .ref know, .ref kread, .ref kkept, .ref ksnaps, .ref kaside, .ref kname, .ref kreadName, .ref kkeptName, .ref kisKept, .ref konces, .int (nI 0), .int (nI 0), .ref kpoured, .ref kfar, .ref ksides, .int (nI 0), .int (-1 : Int32), .int (nI 0), .ref klines, .ref kmet, .int (nI 0), .ref ksunk, .ref ktrying, .int (nI 0), .int (-1 : Int32), .int (-1 : Int32), .ref ktext, .int (nI 0), .int (nI 0), .ref kline, .ref kwritten, .int (nI 0), .int (nI 0), .ref knode, .int (nI 0), .int (nI 0), .int (nI 0), .int (nI 0)]))] := hD
  subst p5
  refine lv_istore (lv' := [(6, .int (nI 0)), (5, .int (nI 1)), (4, .int (nI 0)), (3, .ref out), (2, .ref o), (1, .ref t), (0, .ref b)]) hx hb dL_law_449 hl (by decide) rfl (fun ls hl => ?_)
  refine lv_aload_n hx hb dL_law_451 rfl (lv_at hl 4 rfl) ?_
  refine vp_callSi (W.runV (As := []) (rest := []) ⟨hx, hb, hml, hown, hts⟩ (c_m_thrown1 l dC dI ky o ktape (nI 0) (nI 0) (nI 0) (nI 0) (nI 0) (nI 0) (nI 0) (nI 0) (nI 0) (nI 0) 0 (nI 0) know kread kkept ksnaps kaside kname kreadName kkeptName kisKept konces (nI 0) (nI 0) kpoured kfar ksides (nI 0) (-1 : Int32) (nI 0) klines kmet (nI 0) ksunk ktrying (nI 0) (-1 : Int32) (-1 : Int32) ktext (nI 0) (nI 0) kline kwritten (nI 0) (nI 0) knode (nI 0) (nI 0) (nI 0) (nI 0)) (cwV 0 hts gl_X12_thrown rfl rfl rfl (by decide +kernel) ⟨(Nat.le_of_ble_eq_true rfl), (Nat.le_of_ble_eq_true rfl)⟩) (pre_PV hK hP [3] rfl (ci := 12) (q0 := 3) rfl rfl) rfl rfl hl.1 rfl (lv_room (Nat.le_of_ble_eq_true rfl)) dL_law_452 ⟨(Nat.le_of_ble_eq_true rfl), (Nat.le_of_ble_eq_true rfl)⟩) (fun r6 p7 => ?_)
  subst p7
  refine lv_iload hx hb dL_law_455 (lv_at hl 1 rfl) ?_
  refine lv_icmp_eq (tgt := 462) hx hb dL_law_457 (by decide) (fun c8 => ?_) (fun c8 => absurd (by decide) c8)
  refine lv_iload hx hb dL_law_462 (lv_at hl 1 rfl) ?_
  refine lv_if_ne (tgt := 479) hx hb dL_law_464 (by decide) (fun c9 => ?_) (fun c9 => absurd c9 (by decide))
  refine lv_goto (tgt := 1434) hx hb dL_law_479 (by decide) ?_
  refine lv_iinc (v := nI 6) (lv' := [(4, .int (nI 6)), (6, .int (nI 0)), (5, .int (nI 1)), (3, .ref out), (2, .ref o), (1, .ref t), (0, .ref b)]) hx hb dL_law_1434 hl (k := 2) rfl (by decide) (by decide) rfl (fun ls hl => ?_)
  refine lv_goto (tgt := 23) hx hb dL_law_1437 (by decide) ?_
  refine lv_iload hx hb dL_law_23 (lv_at hl 0 rfl) ?_
  refine lv_aload_n hx hb dL_law_25 rfl (lv_at hl 6 rfl) ?_
  refine va_slen hx hb hX hbl hbA hS dL_law_26 ?_
  refine r_ti (nI 6) rfl ?_
  refine lv_bipush (v := nI 6) hx hb dL_law_27 (by decide) ?_
  refine lv_isub hx hb dL_law_29 ?_
  refine r_ti (nI 0) (by decide) ?_
  refine lv_icmp_gt (tgt := 1440) hx hb dL_law_30 (by decide) (fun c10 => ?_) (fun c10 => absurd (by decide) c10)
  refine W.widen (k := 173) (n := 6153) (Nat.le_of_ble_eq_true rfl) (Nat.le_of_ble_eq_true rfl) ?_
  exact kx H locs ls hS
set_option maxRecDepth 20000 in
theorem lf_law_26_1 (reader : Nat) (sea : Nat) (spareSea : Nat) (seaText : Nat) (book : Nat) (sentence : Nat) (spareSentence : Nat) (route : Nat) (meeting : Nat) (sighting : Nat) (draws : Nat) (history : Nat) (images : Nat) (chartBytes : Nat) (thickness : Nat) (lumpNames : Nat) (lumpCells : Nat) (boatNames : Nat) (boatCells : Nat) (loads : Nat) (spoons : Nat) (spoonsLeft : Nat) (depths : Nat) (thicknessG : Nat → Int32) (ktape : Nat) (know : Nat) (kread : Nat) (kkept : Nat) (ksnaps : Nat) (kaside : Nat) (kname : Nat) (kreadName : Nat) (kkeptName : Nat) (kisKept : Nat) (konces : Nat) (kpoured : Nat) (kfar : Nat) (ksides : Nat) (klines : Nat) (kmet : Nat) (ksunk : Nat) (ktrying : Nat) (ktext : Nat) (kline : Nat) (kwritten : Nat) (knode : Nat) (knowG : Nat → Int32) (t : Nat) (o : Nat) (out : Nat) (outF : Nat → Int64) (x1 : Int32) (x2 : Int32) (x3 : Int32) (x4 : Int32) (x5 : Int32) (hz : ∀ j, j < 36 → thicknessG j = nI 0) (hN : NowOk knowG) (hok : 0 ≤ x1.toInt ∧ x1.toInt < 4 ∧ 0 ≤ x2.toInt ∧ x2.toInt < 2) : 0 ≤ x1.toInt ∧ x1.toInt < ((4 : Nat) : Int) := by
  have k_0 := ia_n 0 (by decide)
  try simp only [ia_lt, ia_le, ia_eq, ia_m1, ia_0, ia_1, ne_eq, true_and, and_true, false_and, and_false, or_false, false_or, or_true, true_or, not_true_eq_false, not_false_eq_true] at *
  all_goals omega
set_option maxRecDepth 20000 in
theorem lf_law_26_2 (reader : Nat) (sea : Nat) (spareSea : Nat) (seaText : Nat) (book : Nat) (sentence : Nat) (spareSentence : Nat) (route : Nat) (meeting : Nat) (sighting : Nat) (draws : Nat) (history : Nat) (images : Nat) (chartBytes : Nat) (thickness : Nat) (lumpNames : Nat) (lumpCells : Nat) (boatNames : Nat) (boatCells : Nat) (loads : Nat) (spoons : Nat) (spoonsLeft : Nat) (depths : Nat) (thicknessG : Nat → Int32) (ktape : Nat) (know : Nat) (kread : Nat) (kkept : Nat) (ksnaps : Nat) (kaside : Nat) (kname : Nat) (kreadName : Nat) (kkeptName : Nat) (kisKept : Nat) (konces : Nat) (kpoured : Nat) (kfar : Nat) (ksides : Nat) (klines : Nat) (kmet : Nat) (ksunk : Nat) (ktrying : Nat) (ktext : Nat) (kline : Nat) (kwritten : Nat) (knode : Nat) (knowG : Nat → Int32) (t : Nat) (o : Nat) (out : Nat) (outF : Nat → Int64) (x2 : Int32) (x3 : Int32) (x4 : Int32) (x5 : Int32) (x1n : Nat) (hz : ∀ j, j < 36 → thicknessG j = nI 0) (hN : NowOk knowG) (hok : 0 ≤ (nI x1n).toInt ∧ (nI x1n).toInt < 4 ∧ 0 ≤ x2.toInt ∧ x2.toInt < 2) (h1 : x1n < 4) : x2 = nI 0 ∨ x2 = nI 1 := by
  have k_0 := ia_n 0 (by decide)
  have k_1 := ia_n x1n (by omega)
  have k_2 := ia_n 1 (by decide)
  try simp only [ia_lt, ia_le, ia_eq, ia_m1, ia_0, ia_1, ne_eq, true_and, and_true, false_and, and_false, or_false, false_or, or_true, true_or, not_true_eq_false, not_false_eq_true] at *
  all_goals omega
set_option maxHeartbeats 4000000 in
set_option maxRecDepth 100000 in
theorem law_26 {p : Program} {l : Launch} {e : Env} {s : State} {m : MethodId} {args : Array Value} {below : List Frame} {meth : Method} {c : Code} {Q : State → Prop} {dC : Nat → ClassId} {dI : Nat → Nat → Nat} {ky : Nat → ClassId} {A : Nat → Prop} {b : Nat} {xs : Nat → Int32} (hx : p.tables.exec = Jvm.exec) (hb : c.code = cL_law) (hml : c.maxLocals = 7) (hown : s.vm.findClass RL = some m.cls) (hts : ∀ w ∈ lw_tbl, w.before args s = true) (hK : Kk dC dI ky s) (hA : ∀ q, s.heap.size ≤ q → A q) (hX : va_X b 6 xs s s.heap) (hbl : b < s.heap.size) (hbA : ¬ A b) (hst : l.stackTraces = false) (hTh : ThE s s.heap) (hAn : ∀ a, a < s.heap.size → ¬ A a) (reader : Nat) (sea : Nat) (spareSea : Nat) (seaText : Nat) (book : Nat) (sentence : Nat) (spareSentence : Nat) (route : Nat) (meeting : Nat) (sighting : Nat) (draws : Nat) (history : Nat) (images : Nat) (chartBytes : Nat) (thickness : Nat) (lumpNames : Nat) (lumpCells : Nat) (boatNames : Nat) (boatCells : Nat) (loads : Nat) (spoons : Nat) (spoonsLeft : Nat) (depths : Nat) (thicknessG : Nat → Int32) (ktape : Nat) (know : Nat) (kread : Nat) (kkept : Nat) (ksnaps : Nat) (kaside : Nat) (kname : Nat) (kreadName : Nat) (kkeptName : Nat) (kisKept : Nat) (konces : Nat) (kpoured : Nat) (kfar : Nat) (ksides : Nat) (klines : Nat) (kmet : Nat) (ksunk : Nat) (ktrying : Nat) (ktext : Nat) (kline : Nat) (kwritten : Nat) (knode : Nat) (knowG : Nat → Int32) (t : Nat) (o : Nat) (out : Nat) (outF : Nat → Int64) (hz : ∀ j, j < 36 → thicknessG j = nI 0) (hN : NowOk knowG) (x1 x2 x3 x4 x5 : Int32) (hx1 : xs 1 = x1) (hx2 : xs 2 = x2) (hx3 : xs 3 = x3) (hx4 : xs 4 = x4) (hx5 : xs 5 = x5) (kx : ∀ (H : Heap) (locs : List Loc) (ls : Array Slot), va_S A s.heap H locs → W p l e room_1 s m args below meth c H locs 173 6153 Q (F0 m 1440 ls [])) : ∀ (H : Heap) (locs : List Loc) (ls : Array Slot), va_P (dC, dI) vwCl [(t, .inr (11, [.ref reader, .int (nI 0), .int (nI 0), .ref sea, .ref spareSea, .ref seaText, .ref book, .ref sentence, .ref spareSentence, .ref route, .ref meeting, .ref sighting, .ref draws, .ref history, .ref images, .ref chartBytes, .int (nI 0), .int (-1 : Int32)])), (sea, .inr (7, [.int (nI 4), .int (nI 4), .int (nI 10), .int (nI 1), .int (nI 3), .int (nI 0), .int (nI 0), .int (nI 0), .int (nI 0), .int (nI 0), .ref thickness, .ref lumpNames, .ref lumpCells, .ref boatNames, .ref boatCells, .ref loads, .ref spoons, .ref spoonsLeft, .ref depths])), (thickness, .inl (ky 0, 36, .inl thicknessG)), (o, .inr (12, [.int (nI 0), .ref ktape, .int (nI 0), .int (nI 0), .int (nI 0), .int (nI 0), .int (nI 0), .int (nI 0), .int (nI 0), .int (nI 0), .int (nI 0), .int (nI 0), .long 0, .int (nI 0), .ref know, .ref kread, .ref kkept, .ref ksnaps, .ref kaside, .ref kname, .ref kreadName, .ref kkeptName, .ref kisKept, .ref konces, .int (nI 0), .int (nI 0), .ref kpoured, .ref kfar, .ref ksides, .int (nI 0), .int (-1 : Int32), .int (nI 0), .ref klines, .ref kmet, .int (nI 0), .ref ksunk, .ref ktrying, .int (nI 0), .int (-1 : Int32), .int (-1 : Int32), .ref ktext, .int (nI 0), .int (nI 0), .ref kline, .ref kwritten, .int (nI 0), .int (nI 0), .ref knode, .int (nI 0), .int (nI 0), .int (nI 0), .int (nI 0)])), (know, .inl (ky 0, 373, .inl knowG)), (out, .inl (ky 1, 1, .inr (.inl outF)))] H → va_D A [(t, .inr (11, [.ref reader, .int (nI 0), .int (nI 0), .ref sea, .ref spareSea, .ref seaText, .ref book, .ref sentence, .ref spareSentence, .ref route, .ref meeting, .ref sighting, .ref draws, .ref history, .ref images, .ref chartBytes, .int (nI 0), .int (-1 : Int32)])), (sea, .inr (7, [.int (nI 4), .int (nI 4), .int (nI 10), .int (nI 1), .int (nI 3), .int (nI 0), .int (nI 0), .int (nI 0), .int (nI 0), .int (nI 0), .ref thickness, .ref lumpNames, .ref lumpCells, .ref boatNames, .ref boatCells, .ref loads, .ref spoons, .ref spoonsLeft, .ref depths])), (thickness, .inl (ky 0, 36, .inl thicknessG)), (o, .inr (12, [.int (nI 0), .ref ktape, .int (nI 0), .int (nI 0), .int (nI 0), .int (nI 0), .int (nI 0), .int (nI 0), .int (nI 0), .int (nI 0), .int (nI 0), .int (nI 0), .long 0, .int (nI 0), .ref know, .ref kread, .ref kkept, .ref ksnaps, .ref kaside, .ref kname, .ref kreadName, .ref kkeptName, .ref kisKept, .ref konces, .int (nI 0), .int (nI 0), .ref kpoured, .ref kfar, .ref ksides, .int (nI 0), .int (-1 : Int32), .int (nI 0), .ref klines, .ref kmet, .int (nI 0), .ref ksunk, .ref ktrying, .int (nI 0), .int (-1 : Int32), .int (-1 : Int32), .ref ktext, .int (nI 0), .int (nI 0), .ref kline, .ref kwritten, .int (nI 0), .int (nI 0), .ref knode, .int (nI 0), .int (nI 0), .int (nI 0), .int (nI 0)])), (know, .inl (ky 0, 373, .inl knowG)), (out, .inl (ky 1, 1, .inr (.inl outF)))] → va_S A s.heap H locs → lv_has ls 7 [(4, .int (nI 0)), (3, .ref out), (2, .ref o), (1, .ref t), (0, .ref b)] → W p l e room_1 s m args below meth c H locs 172 6147 Q (F0 m 1029 ls []) := by
  intro H locs ls hP hD hS hl
  rcases Classical.em (0 ≤ x1.toInt ∧ x1.toInt < 4 ∧ 0 ≤ x2.toInt ∧ x2.toInt < 2) with hok | hnok
  · obtain ⟨x1n, h1, rfl⟩ := nat_of x1 4 (by decide) (lf_law_26_1 reader sea spareSea seaText book sentence spareSentence route meeting sighting draws history images chartBytes thickness lumpNames lumpCells boatNames boatCells loads spoons spoonsLeft depths thicknessG ktape know kread kkept ksnaps kaside kname kreadName kkeptName kisKept konces kpoured kfar ksides klines kmet ksunk ktrying ktext kline kwritten knode knowG t o out outF x1 x2 x3 x4 x5 hz hN hok)
    rcases (lf_law_26_2 reader sea spareSea seaText book sentence spareSentence route meeting sighting draws history images chartBytes thickness lumpNames lumpCells boatNames boatCells loads spoons spoonsLeft depths thicknessG ktape know kread kkept ksnaps kaside kname kreadName kkeptName kisKept konces kpoured kfar ksides klines kmet ksunk ktrying ktext kline kwritten knode knowG t o out outF x2 x3 x4 x5 x1n hz hN hok h1) with rfl | rfl
    · refine lv_aload_n hx hb dL_law_1029 rfl (lv_at hl 3 rfl) ?_
      refine lv_aload_n hx hb dL_law_1030 rfl (lv_at hl 4 rfl) ?_
      refine lv_iload hx hb dL_law_1031 (lv_at hl 0 rfl) ?_
      refine lv_iconst (v := nI 1) hx hb dL_law_1033 (by decide) ?_
      refine lv_iadd hx hb dL_law_1034 ?_
      refine r_ti (nI 1) (by decide) ?_
      refine r_sld hx hb hX hbl hbA hS 1 (by decide) (by decide) (nI x1n) hx1 dL_law_1035 ?_
      refine lv_aload_n hx hb dL_law_1036 rfl (lv_at hl 4 rfl) ?_
      refine lv_iload hx hb dL_law_1037 (lv_at hl 0 rfl) ?_
      refine lv_iconst (v := nI 2) hx hb dL_law_1039 (by decide) ?_
      refine lv_iadd hx hb dL_law_1040 ?_
      refine r_ti (nI 2) (by decide) ?_
      refine r_sld hx hb hX hbl hbA hS 2 (by decide) (by decide) (nI 0) hx2 dL_law_1041 ?_
      refine lv_aload_n hx hb dL_law_1042 rfl (lv_at hl 1 rfl) ?_
      refine r_call_i (wr := [(o, .inr (12, [.int (nI 0), .ref ktape, .int (nI 0), .int (nI 0), .int (nI 0), .int (nI 0), .int (nI 0), .int (nI 0), .int (nI 0), .int (nI 0), .int (nI 0), .int (nI 0), .long 0, .int (nI 0), .ref know, .ref kread, .ref kkept, .ref ksnaps, .ref kaside, .ref kname, .ref kreadName, .ref kkeptName, .ref kisKept, .ref konces, .int (nI 0), .int (nI 0), .ref kpoured, .ref kfar, .ref ksides, .int (nI 0), .int (-1 : Int32), .int (nI 0), .ref klines, .ref kmet, .int (nI 0), .ref ksunk, .ref ktrying, .int (nI 0), .int (-1 : Int32), .int (-1 : Int32), .ref ktext, .int (nI 0), .int (nI 0), .ref kline, .ref kwritten, .int (nI 0), .int (nI 0), .ref knode, .int (nI 0), .int (nI 0), .int (nI 0), .int (nI 0)])), (know, .inl (ky 0, 373, .inl knowG))]) (vx_runSW (As := [.ref t, .int (nI x1n), .int (nI 0), .ref out]) (rest := []) ⟨hx, hb, hml, hown, hts⟩ (c_LmeanOk0 l dC dI ky H.size t reader sea spareSea seaText book sentence spareSentence route meeting sighting draws history images chartBytes thickness lumpNames lumpCells boatNames boatCells loads spoons spoonsLeft depths thicknessG x1n out outF hz (by omega)) (vx_cwSW 4 hts gl_L_mean rfl rfl rfl (by decide +kernel) ⟨(Nat.le_of_ble_eq_true rfl), (Nat.le_of_ble_eq_true rfl)⟩) (pre_US hK hP hD [0, 1, 2, 5] (by decide) rfl) rfl rfl hl.1 rfl (lv_room (Nat.le_of_ble_eq_true rfl)) dL_law_1043 ⟨(Nat.le_of_ble_eq_true rfl), (Nat.le_of_ble_eq_true rfl)⟩) hP hD hS hA [0, 1, 2, 5] [3, 4] rfl rfl (by decide) (by decide) (fun r4 u2 H locs p3 hP hD hS => ?_)
      obtain ⟨outG_5, rfl⟩ : ∃ z, z = u2 := ⟨_, rfl⟩
      try dsimp only at p3
      obtain ⟨p6, p7⟩ := p3
      refine W.widen (k := 172) (n := 6147) (Nat.le_of_ble_eq_true rfl) (Nat.le_of_ble_eq_true rfl) ?_
      have hP : va_P (dC, dI) vwCl [(o, .inr (12, [.int (nI 0), .ref ktape, .int (nI 0), .int (nI 0), .int (nI 0), .int (nI 0), .int (nI 0), .int (nI 0), .int (nI 0), .int (nI 0), .int (nI 0), .int (nI 0), .long 0, .int (nI 0), .ref know, .ref kread, .ref kkept, .ref ksnaps, .ref kaside, .ref kname, .ref kreadName, .ref kkeptName, .ref kisKept, .ref konces, .int (nI 0), .int (nI 0), .ref kpoured, .ref kfar, .ref ksides, .int (nI 0), .int (-1 : Int32), .int (nI 0), .ref klines, .ref kmet, .int (nI 0), .ref ksunk, .ref ktrying, .int (nI 0), .int (-1 : Int32), .int (-1 : Int32), .ref ktext, .int (nI 0), .int (nI 0), .ref kline, .ref kwritten, .int (nI 0), .int (nI 0), .ref knode, .int (nI 0), .int (nI 0), .int (nI 0), .int (nI 0)])), (know, .inl (ky 0, 373, .inl knowG)), (out, .inl (ky 1, 1, .inr (.inl outG_5)))] H := hP
      have hD : va_D A [(o, .inr (12, [.int (nI 0), .ref ktape, .int (nI 0), .int (nI 0), .int (nI 0), .int (nI 0), .int (nI 0), .int (nI 0), .int (nI 0), .int (nI 0), .int (nI 0), .int (nI 0), .long 0, .int (nI 0), .ref know, .ref kread, .ref kkept, .ref ksnaps, .ref kaside, .ref kname, .ref kreadName, .ref kkeptName, .ref kisKept, .ref konces, .int (nI 0), .int (nI 0), .ref kpoured, .ref kfar, .ref ksides, .int (nI 0), .int (-1 : Int32), .int (nI 0), .ref klines, .ref kmet, .int (nI 0), .ref ksunk, .ref ktrying, .int (nI 0), .int (-1 : Int32), .int (-1 : Int32), .ref ktext, .int (nI 0), .int (nI 0), .ref kline, .ref kwritten, .int (nI 0), .int (nI 0), .ref knode, .int (nI 0), .int (nI 0), .int (nI 0), .int (nI 0)])), (know, .inl (ky 0, 373, .inl knowG)), (out, .inl (ky 1, 1, .inr (.inl outG_5)))] := hD
      subst p7
      refine lv_istore (lv' := [(5, .int (nI 0)), (4, .int (nI 0)), (3, .ref out), (2, .ref o), (1, .ref t), (0, .ref b)]) hx hb dL_law_1046 hl (by decide) rfl (fun ls hl => ?_)
      refine lv_aload_n hx hb dL_law_1048 rfl (lv_at hl 3 rfl) ?_
      refine lv_aload_n hx hb dL_law_1049 rfl (lv_at hl 5 rfl) ?_
      refine lv_iload hx hb dL_law_1050 (lv_at hl 1 rfl) ?_
      refine lv_iconst (v := nI 1) hx hb dL_law_1052 (by decide) ?_
      refine lv_iadd hx hb dL_law_1053 ?_
      refine r_ti (nI 1) (by decide) ?_
      refine r_sld hx hb hX hbl hbA hS 1 (by decide) (by decide) (nI x1n) hx1 dL_law_1054 ?_
      refine lv_aload_n hx hb dL_law_1055 rfl (lv_at hl 5 rfl) ?_
      refine lv_iload hx hb dL_law_1056 (lv_at hl 1 rfl) ?_
      refine lv_iconst (v := nI 2) hx hb dL_law_1058 (by decide) ?_
      refine lv_iadd hx hb dL_law_1059 ?_
      refine r_ti (nI 2) (by decide) ?_
      refine r_sld hx hb hX hbl hbA hS 2 (by decide) (by decide) (nI 0) hx2 dL_law_1060 ?_
      refine r_call_i (wr := [(out, .inl (ky 1, 1, .inr (.inl outG_5)))]) (va_runV (As := [.int (nI x1n), .int (nI 0)]) (rest := []) ⟨hx, hb, hml, hown, hts⟩ (c_m_meanOk0 l dC dI ky H.size o ktape know kread kkept ksnaps kaside kname kreadName kkeptName kisKept konces kpoured kfar ksides klines kmet ksunk ktrying ktext kline kwritten knode knowG x1n hN (by omega)) (cwV 2 hts gl_X12_mean rfl rfl rfl (by decide +kernel) ⟨(Nat.le_of_ble_eq_true rfl), (Nat.le_of_ble_eq_true rfl)⟩) (pre_UV hK hP hD [0, 1] (by decide) rfl (ci := 12) (q0 := 0) rfl rfl) rfl rfl hl.1 rfl (lv_room (Nat.le_of_ble_eq_true rfl)) dL_law_1061 ⟨(Nat.le_of_ble_eq_true rfl), (Nat.le_of_ble_eq_true rfl)⟩) hP hD hS hA [0, 1] [2] rfl rfl (by decide) (by decide) (fun r10 u8 H locs p9 hP hD hS => ?_)
      try dsimp only at p9
      have p11 := p9
      refine W.widen (k := 172) (n := 6147) (Nat.le_of_ble_eq_true rfl) (Nat.le_of_ble_eq_true rfl) ?_
      have hP : va_P (dC, dI) vwCl [(out, .inl (ky 1, 1, .inr (.inl outG_5))), (o, .inr (12, [.int (nI 0), .ref ktape, .int (nI 0), .int (nI 0), .int (nI 0), .int (nI 0), .int (nI 0), .int (nI 0), .int (nI 0), .int (nI 0), .int (nI 0), .int (nI 0), .long 0, .int (nI 0), .ref know, .ref kread, .ref kkept, .ref ksnaps, .ref kaside, .ref kname, .ref kreadName, .ref kkeptName, .ref kisKept, .ref konces, .int (nI 0), .int (nI 0), .ref kpoured, .ref kfar, .ref ksides, .int (nI 0), .int (-1 : Int32), .int (nI 0), .ref klines, .ref kmet, .int (nI 0), .ref ksunk, .ref ktrying, .int (nI 0), .int (-1 : Int32), .int (-1 : Int32), .ref ktext, .int (nI 0), .int (nI 0), .ref kline, .ref kwritten, .int (nI 0), .int (nI 0), .ref knode, .int (nI 0), .int (nI 0), .int (nI 0), .int (nI 0)]))] H := hP
      have hD : va_D A [(out, .inl (ky 1, 1, .inr (.inl outG_5))), (o, .inr (12, [.int (nI 0), .ref ktape, .int (nI 0), .int (nI 0), .int (nI 0), .int (nI 0), .int (nI 0), .int (nI 0), .int (nI 0), .int (nI 0), .int (nI 0), .int (nI 0), .long 0, .int (nI 0), .ref know, .ref kread, .ref kkept, .ref ksnaps, .ref kaside, .ref kname, .ref kreadName, .ref kkeptName, .ref kisKept, .ref konces, .int (nI 0), .int (nI 0), .ref kpoured, .ref kfar, .ref ksides, .int (nI 0), .int (-1 : Int32), .int (nI 0), .ref klines, .ref kmet, .int (nI 0), .ref ksunk, .ref ktrying, .int (nI 0), .int (-1 : Int32), .int (-1 : Int32), .ref ktext, .int (nI 0), .int (nI 0), .ref kline, .ref kwritten, .int (nI 0), .int (nI 0), .ref knode, .int (nI 0), .int (nI 0), .int (nI 0), .int (nI 0)]))] := hD
      subst p11
      refine lv_istore (lv' := [(6, .int (nI 0)), (5, .int (nI 0)), (4, .int (nI 0)), (3, .ref out), (2, .ref o), (1, .ref t), (0, .ref b)]) hx hb dL_law_1064 hl (by decide) rfl (fun ls hl => ?_)
      refine lv_aload_n hx hb dL_law_1066 rfl (lv_at hl 4 rfl) ?_
      refine vp_callSi (W.runV (As := []) (rest := []) ⟨hx, hb, hml, hown, hts⟩ (c_m_thrown0 l dC dI ky o ktape (nI 0) (nI 0) (nI 0) (nI 0) (nI 0) (nI 0) (nI 0) (nI 0) (nI 0) (nI 0) 0 (nI 0) know kread kkept ksnaps kaside kname kreadName kkeptName kisKept konces (nI 0) (nI 0) kpoured kfar ksides (nI 0) (-1 : Int32) (nI 0) klines kmet (nI 0) ksunk ktrying (nI 0) (-1 : Int32) (-1 : Int32) ktext (nI 0) (nI 0) kline kwritten (nI 0) (nI 0) knode (nI 0) (nI 0) (nI 0) (nI 0)) (cwV 0 hts gl_X12_thrown rfl rfl rfl (by decide +kernel) ⟨(Nat.le_of_ble_eq_true rfl), (Nat.le_of_ble_eq_true rfl)⟩) (pre_PV hK hP [1] rfl (ci := 12) (q0 := 1) rfl rfl) rfl rfl hl.1 rfl (lv_room (Nat.le_of_ble_eq_true rfl)) dL_law_1067 ⟨(Nat.le_of_ble_eq_true rfl), (Nat.le_of_ble_eq_true rfl)⟩) (fun r12 p13 => ?_)
      subst p13
      refine lv_iload hx hb dL_law_1070 (lv_at hl 1 rfl) ?_
      refine lv_icmp_eq (tgt := 1077) hx hb dL_law_1072 (by decide) (fun c14 => ?_) (fun c14 => absurd (by decide) c14)
      refine lv_iload hx hb dL_law_1077 (lv_at hl 1 rfl) ?_
      refine lv_if_ne (tgt := 1094) hx hb dL_law_1079 (by decide) (fun c15 => absurd c15 (by decide)) (fun c15 => ?_)
      refine lv_aload_n hx hb dL_law_1082 rfl (lv_at hl 3 rfl) ?_
      refine lv_iconst (v := nI 0) hx hb dL_law_1083 (by decide) ?_
      refine r_lald hx hb hK hP 0 rfl 0 (by decide) (by decide) ((nI 0).toInt64) p6 dL_law_1084 ?_
      refine lv_iload hx hb dL_law_1085 (lv_at hl 0 rfl) ?_
      refine lv_i2l (v := (nI 0).toInt64) hx hb dL_law_1087 rfl ?_
      refine W.lcmp hx hb dL_law_1088 ?_
      refine r_ti (nI 0) (by decide) ?_
      refine lv_if_eq (tgt := 1094) hx hb dL_law_1089 (by decide) (fun c16 => ?_) (fun c16 => absurd (by decide) c16)
      refine lv_goto (tgt := 1434) hx hb dL_law_1094 (by decide) ?_
      refine lv_iinc (v := nI 6) (lv' := [(4, .int (nI 6)), (6, .int (nI 0)), (5, .int (nI 0)), (3, .ref out), (2, .ref o), (1, .ref t), (0, .ref b)]) hx hb dL_law_1434 hl (k := 2) rfl (by decide) (by decide) rfl (fun ls hl => ?_)
      refine lv_goto (tgt := 23) hx hb dL_law_1437 (by decide) ?_
      refine lv_iload hx hb dL_law_23 (lv_at hl 0 rfl) ?_
      refine lv_aload_n hx hb dL_law_25 rfl (lv_at hl 6 rfl) ?_
      refine va_slen hx hb hX hbl hbA hS dL_law_26 ?_
      refine r_ti (nI 6) rfl ?_
      refine lv_bipush (v := nI 6) hx hb dL_law_27 (by decide) ?_
      refine lv_isub hx hb dL_law_29 ?_
      refine r_ti (nI 0) (by decide) ?_
      refine lv_icmp_gt (tgt := 1440) hx hb dL_law_30 (by decide) (fun c17 => ?_) (fun c17 => absurd (by decide) c17)
      refine W.widen (k := 173) (n := 6153) (Nat.le_of_ble_eq_true rfl) (Nat.le_of_ble_eq_true rfl) ?_
      exact kx H locs ls hS
    · refine lv_aload_n hx hb dL_law_1029 rfl (lv_at hl 3 rfl) ?_
      refine lv_aload_n hx hb dL_law_1030 rfl (lv_at hl 4 rfl) ?_
      refine lv_iload hx hb dL_law_1031 (lv_at hl 0 rfl) ?_
      refine lv_iconst (v := nI 1) hx hb dL_law_1033 (by decide) ?_
      refine lv_iadd hx hb dL_law_1034 ?_
      refine r_ti (nI 1) (by decide) ?_
      refine r_sld hx hb hX hbl hbA hS 1 (by decide) (by decide) (nI x1n) hx1 dL_law_1035 ?_
      refine lv_aload_n hx hb dL_law_1036 rfl (lv_at hl 4 rfl) ?_
      refine lv_iload hx hb dL_law_1037 (lv_at hl 0 rfl) ?_
      refine lv_iconst (v := nI 2) hx hb dL_law_1039 (by decide) ?_
      refine lv_iadd hx hb dL_law_1040 ?_
      refine r_ti (nI 2) (by decide) ?_
      refine r_sld hx hb hX hbl hbA hS 2 (by decide) (by decide) (nI 1) hx2 dL_law_1041 ?_
      refine lv_aload_n hx hb dL_law_1042 rfl (lv_at hl 1 rfl) ?_
      refine r_call_i (wr := [(o, .inr (12, [.int (nI 0), .ref ktape, .int (nI 0), .int (nI 0), .int (nI 0), .int (nI 0), .int (nI 0), .int (nI 0), .int (nI 0), .int (nI 0), .int (nI 0), .int (nI 0), .long 0, .int (nI 0), .ref know, .ref kread, .ref kkept, .ref ksnaps, .ref kaside, .ref kname, .ref kreadName, .ref kkeptName, .ref kisKept, .ref konces, .int (nI 0), .int (nI 0), .ref kpoured, .ref kfar, .ref ksides, .int (nI 0), .int (-1 : Int32), .int (nI 0), .ref klines, .ref kmet, .int (nI 0), .ref ksunk, .ref ktrying, .int (nI 0), .int (-1 : Int32), .int (-1 : Int32), .ref ktext, .int (nI 0), .int (nI 0), .ref kline, .ref kwritten, .int (nI 0), .int (nI 0), .ref knode, .int (nI 0), .int (nI 0), .int (nI 0), .int (nI 0)])), (know, .inl (ky 0, 373, .inl knowG))]) (vx_runSW (As := [.ref t, .int (nI x1n), .int (nI 1), .ref out]) (rest := []) ⟨hx, hb, hml, hown, hts⟩ (c_LmeanOk1 l dC dI ky H.size t reader sea spareSea seaText book sentence spareSentence route meeting sighting draws history images chartBytes thickness lumpNames lumpCells boatNames boatCells loads spoons spoonsLeft depths thicknessG x1n out outF hz (by omega)) (vx_cwSW 4 hts gl_L_mean rfl rfl rfl (by decide +kernel) ⟨(Nat.le_of_ble_eq_true rfl), (Nat.le_of_ble_eq_true rfl)⟩) (pre_US hK hP hD [0, 1, 2, 5] (by decide) rfl) rfl rfl hl.1 rfl (lv_room (Nat.le_of_ble_eq_true rfl)) dL_law_1043 ⟨(Nat.le_of_ble_eq_true rfl), (Nat.le_of_ble_eq_true rfl)⟩) hP hD hS hA [0, 1, 2, 5] [3, 4] rfl rfl (by decide) (by decide) (fun r20 u18 H locs p19 hP hD hS => ?_)
      obtain ⟨outG_21, rfl⟩ : ∃ z, z = u18 := ⟨_, rfl⟩
      try dsimp only at p19
      obtain ⟨p22, p23⟩ := p19
      refine W.widen (k := 172) (n := 6147) (Nat.le_of_ble_eq_true rfl) (Nat.le_of_ble_eq_true rfl) ?_
      have hP : va_P (dC, dI) vwCl [(o, .inr (12, [.int (nI 0), .ref ktape, .int (nI 0), .int (nI 0), .int (nI 0), .int (nI 0), .int (nI 0), .int (nI 0), .int (nI 0), .int (nI 0), .int (nI 0), .int (nI 0), .long 0, .int (nI 0), .ref know, .ref kread, .ref kkept, .ref ksnaps, .ref kaside, .ref kname, .ref kreadName, .ref kkeptName, .ref kisKept, .ref konces, .int (nI 0), .int (nI 0), .ref kpoured, .ref kfar, .ref ksides, .int (nI 0), .int (-1 : Int32), .int (nI 0), .ref klines, .ref kmet, .int (nI 0), .ref ksunk, .ref ktrying, .int (nI 0), .int (-1 : Int32), .int (-1 : Int32), .ref ktext, .int (nI 0), .int (nI 0), .ref kline, .ref kwritten, .int (nI 0), .int (nI 0), .ref knode, .int (nI 0), .int (nI 0), .int (nI 0), .int (nI 0)])), (know, .inl (ky 0, 373, .inl knowG)), (out, .inl (ky 1, 1, .inr (.inl outG_21)))] H := hP
      have hD : va_D A [(o, .inr (12, [.int (nI 0), .ref ktape, .int (nI 0), .int (nI 0), .int (nI 0), .int (nI 0), .int (nI 0), .int (nI 0), .int (nI 0), .int (nI 0), .int (nI 0), .int (nI 0), .long 0, .int (nI 0), .ref know, .ref kread, .ref kkept, .ref ksnaps, .ref kaside, .ref kname, .ref kreadName, .ref kkeptName, .ref kisKept, .ref konces, .int (nI 0), .int (nI 0), .ref kpoured, .ref kfar, .ref ksides, .int (nI 0), .int (-1 : Int32), .int (nI 0), .ref klines, .ref kmet, .int (nI 0), .ref ksunk, .ref ktrying, .int (nI 0), .int (-1 : Int32), .int (-1 : Int32), .ref ktext, .int (nI 0), .int (nI 0), .ref kline, .ref kwritten, .int (nI 0), .int (nI 0), .ref knode, .int (nI 0), .int (nI 0), .int (nI 0), .int (nI 0)])), (know, .inl (ky 0, 373, .inl knowG)), (out, .inl (ky 1, 1, .inr (.inl outG_21)))] := hD
      subst p23
      refine lv_istore (lv' := [(5, .int (nI 0)), (4, .int (nI 0)), (3, .ref out), (2, .ref o), (1, .ref t), (0, .ref b)]) hx hb dL_law_1046 hl (by decide) rfl (fun ls hl => ?_)
      refine lv_aload_n hx hb dL_law_1048 rfl (lv_at hl 3 rfl) ?_
      refine lv_aload_n hx hb dL_law_1049 rfl (lv_at hl 5 rfl) ?_
      refine lv_iload hx hb dL_law_1050 (lv_at hl 1 rfl) ?_
      refine lv_iconst (v := nI 1) hx hb dL_law_1052 (by decide) ?_
      refine lv_iadd hx hb dL_law_1053 ?_
      refine r_ti (nI 1) (by decide) ?_
      refine r_sld hx hb hX hbl hbA hS 1 (by decide) (by decide) (nI x1n) hx1 dL_law_1054 ?_
      refine lv_aload_n hx hb dL_law_1055 rfl (lv_at hl 5 rfl) ?_
      refine lv_iload hx hb dL_law_1056 (lv_at hl 1 rfl) ?_
      refine lv_iconst (v := nI 2) hx hb dL_law_1058 (by decide) ?_
      refine lv_iadd hx hb dL_law_1059 ?_
      refine r_ti (nI 2) (by decide) ?_
      refine r_sld hx hb hX hbl hbA hS 2 (by decide) (by decide) (nI 1) hx2 dL_law_1060 ?_
      refine r_call_i (wr := [(out, .inl (ky 1, 1, .inr (.inl outG_21)))]) (va_runV (As := [.int (nI x1n), .int (nI 1)]) (rest := []) ⟨hx, hb, hml, hown, hts⟩ (c_m_meanOk1 l dC dI ky H.size o ktape know kread kkept ksnaps kaside kname kreadName kkeptName kisKept konces kpoured kfar ksides klines kmet ksunk ktrying ktext kline kwritten knode knowG x1n hN (by omega)) (cwV 2 hts gl_X12_mean rfl rfl rfl (by decide +kernel) ⟨(Nat.le_of_ble_eq_true rfl), (Nat.le_of_ble_eq_true rfl)⟩) (pre_UV hK hP hD [0, 1] (by decide) rfl (ci := 12) (q0 := 0) rfl rfl) rfl rfl hl.1 rfl (lv_room (Nat.le_of_ble_eq_true rfl)) dL_law_1061 ⟨(Nat.le_of_ble_eq_true rfl), (Nat.le_of_ble_eq_true rfl)⟩) hP hD hS hA [0, 1] [2] rfl rfl (by decide) (by decide) (fun r26 u24 H locs p25 hP hD hS => ?_)
      try dsimp only at p25
      have p27 := p25
      refine W.widen (k := 172) (n := 6147) (Nat.le_of_ble_eq_true rfl) (Nat.le_of_ble_eq_true rfl) ?_
      have hP : va_P (dC, dI) vwCl [(out, .inl (ky 1, 1, .inr (.inl outG_21))), (o, .inr (12, [.int (nI 0), .ref ktape, .int (nI 0), .int (nI 0), .int (nI 0), .int (nI 0), .int (nI 0), .int (nI 0), .int (nI 0), .int (nI 0), .int (nI 0), .int (nI 0), .long 0, .int (nI 0), .ref know, .ref kread, .ref kkept, .ref ksnaps, .ref kaside, .ref kname, .ref kreadName, .ref kkeptName, .ref kisKept, .ref konces, .int (nI 0), .int (nI 0), .ref kpoured, .ref kfar, .ref ksides, .int (nI 0), .int (-1 : Int32), .int (nI 0), .ref klines, .ref kmet, .int (nI 0), .ref ksunk, .ref ktrying, .int (nI 0), .int (-1 : Int32), .int (-1 : Int32), .ref ktext, .int (nI 0), .int (nI 0), .ref kline, .ref kwritten, .int (nI 0), .int (nI 0), .ref knode, .int (nI 0), .int (nI 0), .int (nI 0), .int (nI 0)]))] H := hP
      have hD : va_D A [(out, .inl (ky 1, 1, .inr (.inl outG_21))), (o, .inr (12, [.int (nI 0), .ref ktape, .int (nI 0), .int (nI 0), .int (nI 0), .int (nI 0), .int (nI 0), .int (nI 0), .int (nI 0), .int (nI 0), .int (nI 0), .int (nI 0), .long 0, .int (nI 0), .ref know, .ref kread, .ref kkept, .ref ksnaps, .ref kaside, .ref kname, .ref kreadName, .ref kkeptName, .ref kisKept, .ref konces, .int (nI 0), .int (nI 0), .ref kpoured, .ref kfar, .ref ksides, .int (nI 0), .int (-1 : Int32), .int (nI 0), .ref klines, .ref kmet, .int (nI 0), .ref ksunk, .ref ktrying, .int (nI 0), .int (-1 : Int32), .int (-1 : Int32), .ref ktext, .int (nI 0), .int (nI 0), .ref kline, .ref kwritten, .int (nI 0), .int (nI 0), .ref knode, .int (nI 0), .int (nI 0), .int (nI 0), .int (nI 0)]))] := hD
      subst p27
      refine lv_istore (lv' := [(6, .int (nI 1)), (5, .int (nI 0)), (4, .int (nI 0)), (3, .ref out), (2, .ref o), (1, .ref t), (0, .ref b)]) hx hb dL_law_1064 hl (by decide) rfl (fun ls hl => ?_)
      refine lv_aload_n hx hb dL_law_1066 rfl (lv_at hl 4 rfl) ?_
      refine vp_callSi (W.runV (As := []) (rest := []) ⟨hx, hb, hml, hown, hts⟩ (c_m_thrown0 l dC dI ky o ktape (nI 0) (nI 0) (nI 0) (nI 0) (nI 0) (nI 0) (nI 0) (nI 0) (nI 0) (nI 0) 0 (nI 0) know kread kkept ksnaps kaside kname kreadName kkeptName kisKept konces (nI 0) (nI 0) kpoured kfar ksides (nI 0) (-1 : Int32) (nI 0) klines kmet (nI 0) ksunk ktrying (nI 0) (-1 : Int32) (-1 : Int32) ktext (nI 0) (nI 0) kline kwritten (nI 0) (nI 0) knode (nI 0) (nI 0) (nI 0) (nI 0)) (cwV 0 hts gl_X12_thrown rfl rfl rfl (by decide +kernel) ⟨(Nat.le_of_ble_eq_true rfl), (Nat.le_of_ble_eq_true rfl)⟩) (pre_PV hK hP [1] rfl (ci := 12) (q0 := 1) rfl rfl) rfl rfl hl.1 rfl (lv_room (Nat.le_of_ble_eq_true rfl)) dL_law_1067 ⟨(Nat.le_of_ble_eq_true rfl), (Nat.le_of_ble_eq_true rfl)⟩) (fun r28 p29 => ?_)
      subst p29
      refine lv_iload hx hb dL_law_1070 (lv_at hl 1 rfl) ?_
      refine lv_icmp_eq (tgt := 1077) hx hb dL_law_1072 (by decide) (fun c30 => ?_) (fun c30 => absurd (by decide) c30)
      refine lv_iload hx hb dL_law_1077 (lv_at hl 1 rfl) ?_
      refine lv_if_ne (tgt := 1094) hx hb dL_law_1079 (by decide) (fun c31 => absurd c31 (by decide)) (fun c31 => ?_)
      refine lv_aload_n hx hb dL_law_1082 rfl (lv_at hl 3 rfl) ?_
      refine lv_iconst (v := nI 0) hx hb dL_law_1083 (by decide) ?_
      refine r_lald hx hb hK hP 0 rfl 0 (by decide) (by decide) ((nI 1).toInt64) p22 dL_law_1084 ?_
      refine lv_iload hx hb dL_law_1085 (lv_at hl 0 rfl) ?_
      refine lv_i2l (v := (nI 1).toInt64) hx hb dL_law_1087 rfl ?_
      refine W.lcmp hx hb dL_law_1088 ?_
      refine r_ti (nI 0) (by decide) ?_
      refine lv_if_eq (tgt := 1094) hx hb dL_law_1089 (by decide) (fun c32 => ?_) (fun c32 => absurd (by decide) c32)
      refine lv_goto (tgt := 1434) hx hb dL_law_1094 (by decide) ?_
      refine lv_iinc (v := nI 6) (lv' := [(4, .int (nI 6)), (6, .int (nI 1)), (5, .int (nI 0)), (3, .ref out), (2, .ref o), (1, .ref t), (0, .ref b)]) hx hb dL_law_1434 hl (k := 2) rfl (by decide) (by decide) rfl (fun ls hl => ?_)
      refine lv_goto (tgt := 23) hx hb dL_law_1437 (by decide) ?_
      refine lv_iload hx hb dL_law_23 (lv_at hl 0 rfl) ?_
      refine lv_aload_n hx hb dL_law_25 rfl (lv_at hl 6 rfl) ?_
      refine va_slen hx hb hX hbl hbA hS dL_law_26 ?_
      refine r_ti (nI 6) rfl ?_
      refine lv_bipush (v := nI 6) hx hb dL_law_27 (by decide) ?_
      refine lv_isub hx hb dL_law_29 ?_
      refine r_ti (nI 0) (by decide) ?_
      refine lv_icmp_gt (tgt := 1440) hx hb dL_law_30 (by decide) (fun c33 => ?_) (fun c33 => absurd (by decide) c33)
      refine W.widen (k := 173) (n := 6153) (Nat.le_of_ble_eq_true rfl) (Nat.le_of_ble_eq_true rfl) ?_
      exact kx H locs ls hS
  · refine lv_aload_n hx hb dL_law_1029 rfl (lv_at hl 3 rfl) ?_
    refine lv_aload_n hx hb dL_law_1030 rfl (lv_at hl 4 rfl) ?_
    refine lv_iload hx hb dL_law_1031 (lv_at hl 0 rfl) ?_
    refine lv_iconst (v := nI 1) hx hb dL_law_1033 (by decide) ?_
    refine lv_iadd hx hb dL_law_1034 ?_
    refine r_ti (nI 1) (by decide) ?_
    refine r_sld hx hb hX hbl hbA hS 1 (by decide) (by decide) x1 hx1 dL_law_1035 ?_
    refine lv_aload_n hx hb dL_law_1036 rfl (lv_at hl 4 rfl) ?_
    refine lv_iload hx hb dL_law_1037 (lv_at hl 0 rfl) ?_
    refine lv_iconst (v := nI 2) hx hb dL_law_1039 (by decide) ?_
    refine lv_iadd hx hb dL_law_1040 ?_
    refine r_ti (nI 2) (by decide) ?_
    refine r_sld hx hb hX hbl hbA hS 2 (by decide) (by decide) x2 hx2 dL_law_1041 ?_
    refine lv_aload_n hx hb dL_law_1042 rfl (lv_at hl 1 rfl) ?_
    refine r_call_i (wc := []) (wr := [(t, .inr (11, [.ref reader, .int (nI 0), .int (nI 0), .ref sea, .ref spareSea, .ref seaText, .ref book, .ref sentence, .ref spareSentence, .ref route, .ref meeting, .ref sighting, .ref draws, .ref history, .ref images, .ref chartBytes, .int (nI 0), .int (-1 : Int32)])), (sea, .inr (7, [.int (nI 4), .int (nI 4), .int (nI 10), .int (nI 1), .int (nI 3), .int (nI 0), .int (nI 0), .int (nI 0), .int (nI 0), .int (nI 0), .ref thickness, .ref lumpNames, .ref lumpCells, .ref boatNames, .ref boatCells, .ref loads, .ref spoons, .ref spoonsLeft, .ref depths])), (thickness, .inl (ky 0, 36, .inl thicknessG)), (o, .inr (12, [.int (nI 0), .ref ktape, .int (nI 0), .int (nI 0), .int (nI 0), .int (nI 0), .int (nI 0), .int (nI 0), .int (nI 0), .int (nI 0), .int (nI 0), .int (nI 0), .long 0, .int (nI 0), .ref know, .ref kread, .ref kkept, .ref ksnaps, .ref kaside, .ref kname, .ref kreadName, .ref kkeptName, .ref kisKept, .ref konces, .int (nI 0), .int (nI 0), .ref kpoured, .ref kfar, .ref ksides, .int (nI 0), .int (-1 : Int32), .int (nI 0), .ref klines, .ref kmet, .int (nI 0), .ref ksunk, .ref ktrying, .int (nI 0), .int (-1 : Int32), .int (-1 : Int32), .ref ktext, .int (nI 0), .int (nI 0), .ref kline, .ref kwritten, .int (nI 0), .int (nI 0), .ref knode, .int (nI 0), .int (nI 0), .int (nI 0), .int (nI 0)])), (know, .inl (ky 0, 373, .inl knowG)), (out, .inl (ky 1, 1, .inr (.inl outF)))]) (vx_runSW (As := [.ref t, .int x1, .int x2, .ref out]) (rest := []) ⟨hx, hb, hml, hown, hts⟩ (c_LmeanNo l dC dI ky hst H.size t reader sea spareSea seaText book sentence spareSentence route meeting sighting draws history images chartBytes thickness lumpNames lumpCells boatNames boatCells loads spoons spoonsLeft depths x1 x2 out hnok) (vx_cwSW 4 hts gl_L_mean rfl rfl rfl (by decide +kernel) ⟨Nat.le_of_ble_eq_true rfl, Nat.le_of_ble_eq_true rfl⟩) (pre_TS (hTh.kept (fun a h => hS.2.1 a h (hAn a h))) hK hP hD [0, 1] (by decide) rfl) rfl rfl hl.1 rfl (lv_room (Nat.le_of_ble_eq_true rfl)) dL_law_1043 ⟨Nat.le_of_ble_eq_true rfl, Nat.le_of_ble_eq_true rfl⟩) hP hD hS hA [] [0, 1, 2, 3, 4, 5] rfl rfl (by decide) (by decide) (fun r9 u9 H locs p34 hP hD hS => ?_)
    subst p34
    refine W.widen (k := 173) (n := 6153) (Nat.le_of_ble_eq_true rfl) (Nat.le_of_ble_eq_true rfl) ?_
    have hP : va_P (dC, dI) vwCl [(t, .inr (11, [.ref reader, .int (nI 0), .int (nI 0), .ref sea, .ref spareSea, .ref seaText, .ref book, .ref sentence, .ref spareSentence, .ref route, .ref meeting, .ref sighting, .ref draws, .ref history, .ref images, .ref chartBytes, .int (nI 0), .int (-1 : Int32)])), (sea, .inr (7, [.int (nI 4), .int (nI 4), .int (nI 10), .int (nI 1), .int (nI 3), .int (nI 0), .int (nI 0), .int (nI 0), .int (nI 0), .int (nI 0), .ref thickness, .ref lumpNames, .ref lumpCells, .ref boatNames, .ref boatCells, .ref loads, .ref spoons, .ref spoonsLeft, .ref depths])), (thickness, .inl (ky 0, 36, .inl thicknessG)), (o, .inr (12, [.int (nI 0), .ref ktape, .int (nI 0), .int (nI 0), .int (nI 0), .int (nI 0), .int (nI 0), .int (nI 0), .int (nI 0), .int (nI 0), .int (nI 0), .int (nI 0), .long 0, .int (nI 0), .ref know, .ref kread, .ref kkept, .ref ksnaps, .ref kaside, .ref kname, .ref kreadName, .ref kkeptName, .ref kisKept, .ref konces, .int (nI 0), .int (nI 0), .ref kpoured, .ref kfar, .ref ksides, .int (nI 0), .int (-1 : Int32), .int (nI 0), .ref klines, .ref kmet, .int (nI 0), .ref ksunk, .ref ktrying, .int (nI 0), .int (-1 : Int32), .int (-1 : Int32), .ref ktext, .int (nI 0), .int (nI 0), .ref kline, .ref kwritten, .int (nI 0), .int (nI 0), .ref knode, .int (nI 0), .int (nI 0), .int (nI 0), .int (nI 0)])), (know, .inl (ky 0, 373, .inl knowG)), (out, .inl (ky 1, 1, .inr (.inl outF)))] H := hP
    have hD : va_D A [(t, .inr (11, [.ref reader, .int (nI 0), .int (nI 0), .ref sea, .ref spareSea, .ref seaText, .ref book, .ref sentence, .ref spareSentence, .ref route, .ref meeting, .ref sighting, .ref draws, .ref history, .ref images, .ref chartBytes, .int (nI 0), .int (-1 : Int32)])), (sea, .inr (7, [.int (nI 4), .int (nI 4), .int (nI 10), .int (nI 1), .int (nI 3), .int (nI 0), .int (nI 0), .int (nI 0), .int (nI 0), .int (nI 0), .ref thickness, .ref lumpNames, .ref lumpCells, .ref boatNames, .ref boatCells, .ref loads, .ref spoons, .ref spoonsLeft, .ref depths])), (thickness, .inl (ky 0, 36, .inl thicknessG)), (o, .inr (12, [.int (nI 0), .ref ktape, .int (nI 0), .int (nI 0), .int (nI 0), .int (nI 0), .int (nI 0), .int (nI 0), .int (nI 0), .int (nI 0), .int (nI 0), .int (nI 0), .long 0, .int (nI 0), .ref know, .ref kread, .ref kkept, .ref ksnaps, .ref kaside, .ref kname, .ref kreadName, .ref kkeptName, .ref kisKept, .ref konces, .int (nI 0), .int (nI 0), .ref kpoured, .ref kfar, .ref ksides, .int (nI 0), .int (-1 : Int32), .int (nI 0), .ref klines, .ref kmet, .int (nI 0), .ref ksunk, .ref ktrying, .int (nI 0), .int (-1 : Int32), .int (-1 : Int32), .ref ktext, .int (nI 0), .int (nI 0), .ref kline, .ref kwritten, .int (nI 0), .int (nI 0), .ref knode, .int (nI 0), .int (nI 0), .int (nI 0), .int (nI 0)])), (know, .inl (ky 0, 373, .inl knowG)), (out, .inl (ky 1, 1, .inr (.inl outF)))] := hD
    refine lv_istore (lv' := [(5, .int (nI 1)), (4, .int (nI 0)), (3, .ref out), (2, .ref o), (1, .ref t), (0, .ref b)]) hx hb dL_law_1046 hl (by decide) rfl (fun ls hl => ?_)
    refine lv_aload_n hx hb dL_law_1048 rfl (lv_at hl 3 rfl) ?_
    refine lv_aload_n hx hb dL_law_1049 rfl (lv_at hl 5 rfl) ?_
    refine lv_iload hx hb dL_law_1050 (lv_at hl 1 rfl) ?_
    refine lv_iconst (v := nI 1) hx hb dL_law_1052 (by decide) ?_
    refine lv_iadd hx hb dL_law_1053 ?_
    refine r_ti (nI 1) (by decide) ?_
    refine r_sld hx hb hX hbl hbA hS 1 (by decide) (by decide) x1 hx1 dL_law_1054 ?_
    refine lv_aload_n hx hb dL_law_1055 rfl (lv_at hl 5 rfl) ?_
    refine lv_iload hx hb dL_law_1056 (lv_at hl 1 rfl) ?_
    refine lv_iconst (v := nI 2) hx hb dL_law_1058 (by decide) ?_
    refine lv_iadd hx hb dL_law_1059 ?_
    refine r_ti (nI 2) (by decide) ?_
    refine r_sld hx hb hX hbl hbA hS 2 (by decide) (by decide) x2 hx2 dL_law_1060 ?_
    refine r_call_i (wr := [(t, .inr (11, [.ref reader, .int (nI 0), .int (nI 0), .ref sea, .ref spareSea, .ref seaText, .ref book, .ref sentence, .ref spareSentence, .ref route, .ref meeting, .ref sighting, .ref draws, .ref history, .ref images, .ref chartBytes, .int (nI 0), .int (-1 : Int32)])), (sea, .inr (7, [.int (nI 4), .int (nI 4), .int (nI 10), .int (nI 1), .int (nI 3), .int (nI 0), .int (nI 0), .int (nI 0), .int (nI 0), .int (nI 0), .ref thickness, .ref lumpNames, .ref lumpCells, .ref boatNames, .ref boatCells, .ref loads, .ref spoons, .ref spoonsLeft, .ref depths])), (thickness, .inl (ky 0, 36, .inl thicknessG)), (out, .inl (ky 1, 1, .inr (.inl outF)))]) (va_runV (As := [.int x1, .int x2]) (rest := []) ⟨hx, hb, hml, hown, hts⟩ (c_m_meanNo l dC dI ky H.size o ktape know kread kkept ksnaps kaside kname kreadName kkeptName kisKept konces kpoured kfar ksides klines kmet ksunk ktrying ktext kline kwritten knode knowG x1 x2 hN hnok) (cwV 2 hts gl_X12_mean rfl rfl rfl (by decide +kernel) ⟨(Nat.le_of_ble_eq_true rfl), (Nat.le_of_ble_eq_true rfl)⟩) (pre_UV hK hP hD [3, 4] (by decide) rfl (ci := 12) (q0 := 3) rfl rfl) rfl rfl hl.1 rfl (lv_room (Nat.le_of_ble_eq_true rfl)) dL_law_1061 ⟨(Nat.le_of_ble_eq_true rfl), (Nat.le_of_ble_eq_true rfl)⟩) hP hD hS hA [3, 4] [0, 1, 2, 5] rfl rfl (by decide) (by decide) (fun r37 u35 H locs p36 hP hD hS => ?_)
    try dsimp only at p36
    have p38 := p36
    refine W.widen (k := 173) (n := 6153) (Nat.le_of_ble_eq_true rfl) (Nat.le_of_ble_eq_true rfl) ?_
    have hP : va_P (dC, dI) vwCl [(t, .inr (11, [.ref reader, .int (nI 0), .int (nI 0), .ref sea, .ref spareSea, .ref seaText, .ref book, .ref sentence, .ref spareSentence, .ref route, .ref meeting, .ref sighting, .ref draws, .ref history, .ref images, .ref chartBytes, .int (nI 0), .int (-1 : Int32)])), (sea, .inr (7, [.int (nI 4), .int (nI 4), .int (nI 10), .int (nI 1), .int (nI 3), .int (nI 0), .int (nI 0), .int (nI 0), .int (nI 0), .int (nI 0), .ref thickness, .ref lumpNames, .ref lumpCells, .ref boatNames, .ref boatCells, .ref loads, .ref spoons, .ref spoonsLeft, .ref depths])), (thickness, .inl (ky 0, 36, .inl thicknessG)), (out, .inl (ky 1, 1, .inr (.inl outF))), (o, .inr (12, [.int (nI 1), .ref ktape, .int (nI 0), .int (nI 0), .int (nI 0), .int (nI 0), .int (nI 0), .int (nI 0), .int (nI 0), .int (nI 0), .int (nI 0), .int (nI 0), .long 0, .int (nI 0), .ref know, .ref kread, .ref kkept, .ref ksnaps, .ref kaside, .ref kname, .ref kreadName, .ref kkeptName, .ref kisKept, .ref konces, .int (nI 0), .int (nI 0), .ref kpoured, .ref kfar, .ref ksides, .int (nI 0), .int (-1 : Int32), .int (nI 0), .ref klines, .ref kmet, .int (nI 0), .ref ksunk, .ref ktrying, .int (nI 0), .int (-1 : Int32), .int (-1 : Int32), .ref ktext, .int (nI 0), .int (nI 0), .ref kline, .ref kwritten, .int (nI 0), .int (nI 0), .ref knode, .int (nI 0), .int (nI 0), .int (nI 0), .int (nI 0)]))] H := hP
    have hD : va_D A [(t, .inr (11, [.ref reader, .int (nI 0), .int (nI 0), .ref sea, .ref spareSea, .ref seaText, .ref book, .ref sentence, .ref spareSentence, .ref route, .ref meeting, .ref sighting, .ref draws, .ref history, .ref images, .ref chartBytes, .int (nI 0), .int (-1 : Int32)])), (sea, .inr (7, [.int (nI 4), .int (nI 4), .int (nI 10), .int (nI 1), .int (nI 3), .int (nI 0), .int (nI 0), .int (nI 0), .int (nI 0), .int (nI 0), .ref thickness, .ref lumpNames, .ref lumpCells, .ref boatNames, .ref boatCells, .ref loads, .ref spoons, .ref spoonsLeft, .ref depths])), (thickness, .inl (ky 0, 36, .inl thicknessG)), (out, .inl (ky 1, 1, .inr (.inl outF))), (o, .inr (12, [.int (nI 1), .ref ktape, .int (nI 0), .int (nI 0), .int (nI 0), .int (nI 0), .int (nI 0), .int (nI 0), .int (nI 0), .int (nI 0), .int (nI 0), .int (nI 0), .long 0, .int (nI 0), .ref know, .ref kread, .ref kkept, .ref ksnaps, .ref kaside, .ref kname, .ref kreadName, .ref kkeptName, .ref kisKept, .ref konces, .int (nI 0), .int (nI 0), .ref kpoured, .ref kfar, .ref ksides, .int (nI 0), .int (-1 : Int32), .int (nI 0), .ref klines, .ref kmet, .int (nI 0), .ref ksunk, .ref ktrying, .int (nI 0), .int (-1 : Int32), .int (-1 : Int32), .ref ktext, .int (nI 0), .int (nI 0), .ref kline, .ref kwritten, .int (nI 0), .int (nI 0), .ref knode, .int (nI 0), .int (nI 0), .int (nI 0), .int (nI 0)]))] := hD
    subst p38
    refine lv_istore (lv' := [(6, .int (nI 0)), (5, .int (nI 1)), (4, .int (nI 0)), (3, .ref out), (2, .ref o), (1, .ref t), (0, .ref b)]) hx hb dL_law_1064 hl (by decide) rfl (fun ls hl => ?_)
    refine lv_aload_n hx hb dL_law_1066 rfl (lv_at hl 4 rfl) ?_
    refine vp_callSi (W.runV (As := []) (rest := []) ⟨hx, hb, hml, hown, hts⟩ (c_m_thrown1 l dC dI ky o ktape (nI 0) (nI 0) (nI 0) (nI 0) (nI 0) (nI 0) (nI 0) (nI 0) (nI 0) (nI 0) 0 (nI 0) know kread kkept ksnaps kaside kname kreadName kkeptName kisKept konces (nI 0) (nI 0) kpoured kfar ksides (nI 0) (-1 : Int32) (nI 0) klines kmet (nI 0) ksunk ktrying (nI 0) (-1 : Int32) (-1 : Int32) ktext (nI 0) (nI 0) kline kwritten (nI 0) (nI 0) knode (nI 0) (nI 0) (nI 0) (nI 0)) (cwV 0 hts gl_X12_thrown rfl rfl rfl (by decide +kernel) ⟨(Nat.le_of_ble_eq_true rfl), (Nat.le_of_ble_eq_true rfl)⟩) (pre_PV hK hP [4] rfl (ci := 12) (q0 := 4) rfl rfl) rfl rfl hl.1 rfl (lv_room (Nat.le_of_ble_eq_true rfl)) dL_law_1067 ⟨(Nat.le_of_ble_eq_true rfl), (Nat.le_of_ble_eq_true rfl)⟩) (fun r39 p40 => ?_)
    subst p40
    refine lv_iload hx hb dL_law_1070 (lv_at hl 1 rfl) ?_
    refine lv_icmp_eq (tgt := 1077) hx hb dL_law_1072 (by decide) (fun c41 => ?_) (fun c41 => absurd (by decide) c41)
    refine lv_iload hx hb dL_law_1077 (lv_at hl 1 rfl) ?_
    refine lv_if_ne (tgt := 1094) hx hb dL_law_1079 (by decide) (fun c42 => ?_) (fun c42 => absurd c42 (by decide))
    refine lv_goto (tgt := 1434) hx hb dL_law_1094 (by decide) ?_
    refine lv_iinc (v := nI 6) (lv' := [(4, .int (nI 6)), (6, .int (nI 0)), (5, .int (nI 1)), (3, .ref out), (2, .ref o), (1, .ref t), (0, .ref b)]) hx hb dL_law_1434 hl (k := 2) rfl (by decide) (by decide) rfl (fun ls hl => ?_)
    refine lv_goto (tgt := 23) hx hb dL_law_1437 (by decide) ?_
    refine lv_iload hx hb dL_law_23 (lv_at hl 0 rfl) ?_
    refine lv_aload_n hx hb dL_law_25 rfl (lv_at hl 6 rfl) ?_
    refine va_slen hx hb hX hbl hbA hS dL_law_26 ?_
    refine r_ti (nI 6) rfl ?_
    refine lv_bipush (v := nI 6) hx hb dL_law_27 (by decide) ?_
    refine lv_isub hx hb dL_law_29 ?_
    refine r_ti (nI 0) (by decide) ?_
    refine lv_icmp_gt (tgt := 1440) hx hb dL_law_30 (by decide) (fun c43 => ?_) (fun c43 => absurd (by decide) c43)
    refine W.widen (k := 173) (n := 6153) (Nat.le_of_ble_eq_true rfl) (Nat.le_of_ble_eq_true rfl) ?_
    exact kx H locs ls hS
