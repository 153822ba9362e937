theorem dX12_image_0 : decode cX12_image 0 = .ok (.aload_n 0, 1) := by decide +kernel
theorem dX12_image_1 : decode cX12_image 1 = .ok (.iconst 0, 1) := by decide +kernel
theorem dX12_image_2 : decode cX12_image 2 = .ok (.putfield 1, 3) := by decide +kernel
theorem dX12_image_5 : decode cX12_image 5 = .ok (.iload_n 1, 1) := by decide +kernel
theorem dX12_image_6 : decode cX12_image 6 = .ok (.iconst 0, 1) := by decide +kernel
theorem dX12_image_7 : decode cX12_image 7 = .ok (.iconst 1, 1) := by decide +kernel
theorem dX12_image_8 : decode cX12_image 8 = .ok (.invokestatic 75, 3) := by decide +kernel
theorem dX12_image_11 : decode cX12_image 11 = .ok (.ifCond .ne 5, 3) := by decide +kernel
theorem dX12_image_14 : decode cX12_image 14 = .ok (.iconst 0, 1) := by decide +kernel
theorem dX12_image_15 : decode cX12_image 15 = .ok (.ireturn, 1) := by decide +kernel
theorem dX12_image_16 : decode cX12_image 16 = .ok (.iconst 0, 1) := by decide +kernel
theorem dX12_image_17 : decode cX12_image 17 = .ok (.istore_n 2, 1) := by decide +kernel
theorem dX12_image_18 : decode cX12_image 18 = .ok (.iload_n 2, 1) := by decide +kernel
theorem dX12_image_19 : decode cX12_image 19 = .ok (.sipush 373, 3) := by decide +kernel
theorem dX12_image_22 : decode cX12_image 22 = .ok (.if_icmp .ge 27, 3) := by decide +kernel
theorem dX12_image_25 : decode cX12_image 25 = .ok (.aload_n 0, 1) := by decide +kernel
theorem dX12_image_26 : decode cX12_image 26 = .ok (.getfield 104, 3) := by decide +kernel
theorem dX12_image_29 : decode cX12_image 29 = .ok (.sipush 373, 3) := by decide +kernel
theorem dX12_image_32 : decode cX12_image 32 = .ok (.iload_n 1, 1) := by decide +kernel
theorem dX12_image_33 : decode cX12_image 33 = .ok (.imul, 1) := by decide +kernel
theorem dX12_image_34 : decode cX12_image 34 = .ok (.iload_n 2, 1) := by decide +kernel
theorem dX12_image_35 : decode cX12_image 35 = .ok (.iadd, 1) := by decide +kernel
theorem dX12_image_36 : decode cX12_image 36 = .ok (.aload_n 0, 1) := by decide +kernel
theorem dX12_image_37 : decode cX12_image 37 = .ok (.getfield 98, 3) := by decide +kernel
theorem dX12_image_40 : decode cX12_image 40 = .ok (.iload_n 2, 1) := by decide +kernel
theorem dX12_image_41 : decode cX12_image 41 = .ok (.iaload, 1) := by decide +kernel
theorem dX12_image_42 : decode cX12_image 42 = .ok (.iastore, 1) := by decide +kernel
theorem dX12_image_43 : decode cX12_image 43 = .ok (.iinc 2 1, 3) := by decide +kernel
theorem dX12_image_46 : decode cX12_image 46 = .ok (.goto (-28), 3) := by decide +kernel
theorem dX12_image_49 : decode cX12_image 49 = .ok (.iconst 0, 1) := by decide +kernel
theorem dX12_image_50 : decode cX12_image 50 = .ok (.istore_n 2, 1) := by decide +kernel
theorem dX12_image_51 : decode cX12_image 51 = .ok (.iload_n 2, 1) := by decide +kernel
theorem dX12_image_52 : decode cX12_image 52 = .ok (.bipush 12, 2) := by decide +kernel
theorem dX12_image_54 : decode cX12_image 54 = .ok (.if_icmp .ge 26, 3) := by decide +kernel
theorem dX12_image_57 : decode cX12_image 57 = .ok (.aload_n 0, 1) := by decide +kernel
theorem dX12_image_58 : decode cX12_image 58 = .ok (.getfield 120, 3) := by decide +kernel
theorem dX12_image_61 : decode cX12_image 61 = .ok (.bipush 12, 2) := by decide +kernel
theorem dX12_image_63 : decode cX12_image 63 = .ok (.iload_n 1, 1) := by decide +kernel
theorem dX12_image_64 : decode cX12_image 64 = .ok (.imul, 1) := by decide +kernel
theorem dX12_image_65 : decode cX12_image 65 = .ok (.iload_n 2, 1) := by decide +kernel
theorem dX12_image_66 : decode cX12_image 66 = .ok (.iadd, 1) := by decide +kernel
theorem dX12_image_67 : decode cX12_image 67 = .ok (.aload_n 0, 1) := by decide +kernel
theorem dX12_image_68 : decode cX12_image 68 = .ok (.getfield 113, 3) := by decide +kernel
theorem dX12_image_71 : decode cX12_image 71 = .ok (.iload_n 2, 1) := by decide +kernel
theorem dX12_image_72 : decode cX12_image 72 = .ok (.laload, 1) := by decide +kernel
theorem dX12_image_73 : decode cX12_image 73 = .ok (.lastore, 1) := by decide +kernel
theorem dX12_image_74 : decode cX12_image 74 = .ok (.iinc 2 1, 3) := by decide +kernel
theorem dX12_image_77 : decode cX12_image 77 = .ok (.goto (-26), 3) := by decide +kernel
theorem dX12_image_80 : decode cX12_image 80 = .ok (.aload_n 0, 1) := by decide +kernel
theorem dX12_image_81 : decode cX12_image 81 = .ok (.getfield 123, 3) := by decide +kernel
theorem dX12_image_84 : decode cX12_image 84 = .ok (.iload_n 1, 1) := by decide +kernel
theorem dX12_image_85 : decode cX12_image 85 = .ok (.iconst 1, 1) := by decide +kernel
theorem dX12_image_86 : decode cX12_image 86 = .ok (.bastore, 1) := by decide +kernel
theorem dX12_image_87 : decode cX12_image 87 = .ok (.iconst 1, 1) := by decide +kernel
theorem dX12_image_88 : decode cX12_image 88 = .ok (.ireturn, 1) := by decide +kernel
set_option maxRecDepth 100000 in
theorem ggX12_image_X12_isIn : GoodIn wsX12_image wsX12_isIn := goodIn_r _ [10] rfl (by decide +kernel)
set_option maxRecDepth 100000 in
theorem gX12_image_X12_isIn : GoodIn wsX12_image (va_wsS RX12 75 yX12_isIn wsX12_isIn) := goodIn_app (goodIn_of _ (by decide +kernel)) ggX12_image_X12_isIn
theorem NB_ext {f g : Nat → Int32} (he : ∀ j, j < 373 → g j = f j) (h : NB f) : NB g := by
  intro j hj
  rw [he j hj]
  exact h j hj
theorem SB_ext {f g : Nat → Int32} (he : ∀ j, j < 373 → g j = f j) (h : SB f) : SB g := by
  intro k hk
  rw [he _ (by omega), he _ (by omega), he _ (by omega)]
  exact h k hk
/-- an image that is kept is one that could be now -/
def KBf (f z : Nat → Int32) (k : Nat) : Prop := z k ≠ 0 → NB (fun j => f (373 * k + j)) ∧ SB (fun j => f (373 * k + j))
theorem KB_new {f g zg : Nat → Int32} {k : Nat} (hn : NB f) (hs : SB f) (he : ∀ j, j < 373 → g (373 * k + j) = f j) : KBf g zg k := fun _ => ⟨NB_ext he hn, SB_ext he hs⟩
theorem KB_old {f g z zg : Nat → Int32} {k : Nat} (h : KBf f z k) (hz : zg k = z k) (he : ∀ j, j < 373 → g (373 * k + j) = f (373 * k + j)) : KBf g zg k := fun e => by
  rw [hz] at e
  exact ⟨NB_ext (f := fun j => f (373 * k + j)) he (h e).1, SB_ext (f := fun j => f (373 * k + j)) he (h e).2⟩
theorem nar1 : vp_nar .boolean (nI 1) = nI 1 := by decide
set_option maxRecDepth 20000 in
theorem lf_x_imageNo_1 (ktaped : Nat) (ksize : Nat) (klimit : Nat) (kto : Nat) (kfrom : Nat) (ksnapMany : Nat) (ksideMany : Nat) (kmetMany : Nat) (ksunkMany : Nat) (ktexts : Nat) (klineMany : Nat) (knodes : Nat) (konesMany : Nat) (kwithin : Nat) (ktop : Nat) (x : Int32) (iv_ko_0 : ktaped ≤ 940) (iv_ko_1 : ksize ≤ 940) (iv_ko_2 : klimit ≤ 900) (iv_ko_3 : kto ≤ ksize) (iv_ko_4 : kfrom ≤ 940) (iv_ko_5 : ksnapMany ≤ 8) (iv_ko_6 : ksideMany ≤ 36) (iv_ko_7 : kmetMany ≤ 3) (iv_ko_8 : ksunkMany ≤ 36) (iv_ko_9 : ktexts ≤ 64) (iv_ko_10 : klineMany ≤ 40) (iv_ko_11 : knodes ≤ 60) (iv_ko_12 : konesMany ≤ 20) (iv_ko_13 : kwithin ≤ 8) (iv_ko_14 : ktop ≤ 59) (hno : ¬ (0 ≤ x.toInt ∧ x.toInt ≤ 1)) (t3 : (nI 0).toInt ≤ x.toInt) (t4 : x.toInt ≤ (nI 1).toInt) : False := by
  have b_x := ia_b x
  try have k_0 := ia_n 0 (by first | decide | omega)
  try have k_1 := ia_n 1 (by first | decide | omega)
  try simp only [ia_lt, ia_le, ia_eq, ia_m1, ia_0, ia_1, ne_eq, true_and, and_true, false_and, and_false, or_false, false_or, or_true, true_or, not_true_eq_false, not_false_eq_true] at *
  all_goals omega
set_option maxRecDepth 20000 in
theorem lf_x_imageNo_2   : (nI 0) = nI 0 := by
  try have k_0 := ia_n 0 (by first | decide | omega)
  try simp only [ia_lt, ia_le, ia_eq, ia_m1, ia_0, ia_1, ne_eq, true_and, and_true, false_and, and_false, or_false, false_or, or_true, true_or, not_true_eq_false, not_false_eq_true] at *
  all_goals omega
set_option maxHeartbeats 4000000 in
set_option maxRecDepth 100000 in
theorem c_x_imageNo (l : Launch) (dC : Nat → ClassId) (dI : Nat → Nat → Nat) (ky : Nat → ClassId) (sz : Nat) (o : Nat) (kthrown : Int32) (ktape : Nat) (ktaped : Nat) (ksize : Nat) (klimit : Nat) (kto : Nat) (kfrom : Nat) (kkind : Int32) (knumber : Int32) (ksign : Int32) (kfault : Int32) (kplace : Int32) (kword : Int64) (ktold : Int32) (know : Nat) (kread : Nat) (kkept : Nat) (ksnaps : Nat) (kaside : Nat) (kname : Nat) (kreadName : Nat) (kkeptName : Nat) (kisKept : Nat) (konces : Nat) (ksnapMany : Nat) (khasCells : Int32) (kpoured : Nat) (kfar : Nat) (ksides : Nat) (ksideMany : Nat) (kwayDays : Int32) (khasWay : Int32) (klines : Nat) (kmet : Nat) (kmetMany : Nat) (ksunk : Nat) (ktrying : Nat) (ksunkMany : Nat) (ksending : Int32) (kfleets : Int32) (ktext : Nat) (ktexts : Nat) (kseed : Int32) (kline : Nat) (kwritten : Nat) (klineMany : Nat) (khasWritten : Int32) (knode : Nat) (knodes : Nat) (konesMany : Nat) (kwithin : Nat) (ktop : Nat) (x : Int32) (iv_ko_0 : ktaped ≤ 940) (iv_ko_1 : ksize ≤ 940) (iv_ko_2 : klimit ≤ 900) (iv_ko_3 : kto ≤ ksize) (iv_ko_4 : kfrom ≤ 940) (iv_ko_5 : ksnapMany ≤ 8) (iv_ko_6 : ksideMany ≤ 36) (iv_ko_7 : kmetMany ≤ 3) (iv_ko_8 : ksunkMany ≤ 36) (iv_ko_9 : ktexts ≤ 64) (iv_ko_10 : klineMany ≤ 40) (iv_ko_11 : knodes ≤ 60) (iv_ko_12 : konesMany ≤ 20) (iv_ko_13 : kwithin ≤ 8) (iv_ko_14 : ktop ≤ 59) (hno : ¬ (0 ≤ x.toInt ∧ x.toInt ≤ 1)) : Met l yX12_image wsX12_image ({ frames := 1, cells := 0, slots := 0, locals := 22 }) (PcU dC dI ky [.ref o, .int x] [(o, .inr (12, [.int kthrown, .ref ktape, .int (nI ktaped), .int (nI ksize), .int (nI klimit), .int (nI kto), .int (nI kfrom), .int kkind, .int knumber, .int ksign, .int kfault, .int kplace, .long kword, .int ktold, .ref know, .ref kread, .ref kkept, .ref ksnaps, .ref kaside, .ref kname, .ref kreadName, .ref kkeptName, .ref kisKept, .ref konces, .int (nI ksnapMany), .int khasCells, .ref kpoured, .ref kfar, .ref ksides, .int (nI ksideMany), .int kwayDays, .int khasWay, .ref klines, .ref kmet, .int (nI kmetMany), .ref ksunk, .ref ktrying, .int (nI ksunkMany), .int ksending, .int kfleets, .ref ktext, .int (nI ktexts), .int kseed, .ref kline, .ref kwritten, .int (nI klineMany), .int khasWritten, .ref knode, .int (nI knodes), .int (nI konesMany), .int (nI kwithin), .int (nI ktop)]))] sz) (va_Qi (fun (r : Int32) (kthrownG : Int32) => r = nI 0) (BU dC dI ky (fun (kthrownG : Int32) => [(o, .inr (12, [.int kthrownG, .ref ktape, .int (nI ktaped), .int (nI ksize), .int (nI klimit), .int (nI kto), .int (nI kfrom), .int kkind, .int knumber, .int ksign, .int kfault, .int kplace, .long kword, .int ktold, .ref know, .ref kread, .ref kkept, .ref ksnaps, .ref kaside, .ref kname, .ref kreadName, .ref kkeptName, .ref kisKept, .ref konces, .int (nI ksnapMany), .int khasCells, .ref kpoured, .ref kfar, .ref ksides, .int (nI ksideMany), .int kwayDays, .int khasWay, .ref klines, .ref kmet, .int (nI kmetMany), .ref ksunk, .ref ktrying, .int (nI ksunkMany), .int ksending, .int kfleets, .ref ktext, .int (nI ktexts), .int kseed, .ref kline, .ref kwritten, .int (nI klineMany), .int khasWritten, .ref knode, .int (nI knodes), .int (nI konesMany), .int (nI kwithin), .int (nI ktop)]))]) (va_A [(o, .inr (12, [.int kthrown, .ref ktape, .int (nI ktaped), .int (nI ksize), .int (nI klimit), .int (nI kto), .int (nI kfrom), .int kkind, .int knumber, .int ksign, .int kfault, .int kplace, .long kword, .int ktold, .ref know, .ref kread, .ref kkept, .ref ksnaps, .ref kaside, .ref kname, .ref kreadName, .ref kkeptName, .ref kisKept, .ref konces, .int (nI ksnapMany), .int khasCells, .ref kpoured, .ref kfar, .ref ksides, .int (nI ksideMany), .int kwayDays, .int khasWay, .ref klines, .ref kmet, .int (nI kmetMany), .ref ksunk, .ref ktrying, .int (nI ksunkMany), .int ksending, .int kfleets, .ref ktext, .int (nI ktexts), .int kseed, .ref kline, .ref kwritten, .int (nI klineMany), .int khasWritten, .ref knode, .int (nI knodes), .int (nI konesMany), .int (nI kwithin), .int (nI ktop)]))] sz)) (va_A [(o, .inr (12, [.int kthrown, .ref ktape, .int (nI ktaped), .int (nI ksize), .int (nI klimit), .int (nI kto), .int (nI kfrom), .int kkind, .int knumber, .int ksign, .int kfault, .int kplace, .long kword, .int ktold, .ref know, .ref kread, .ref kkept, .ref ksnaps, .ref kaside, .ref kname, .ref kreadName, .ref kkeptName, .ref kisKept, .ref konces, .int (nI ksnapMany), .int khasCells, .ref kpoured, .ref kfar, .ref ksides, .int (nI ksideMany), .int kwayDays, .int khasWay, .ref klines, .ref kmet, .int (nI kmetMany), .ref ksunk, .ref ktrying, .int (nI ksunkMany), .int ksending, .int kfleets, .ref ktext, .int (nI ktexts), .int kseed, .ref kline, .ref kwritten, .int (nI klineMany), .int khasWritten, .ref knode, .int (nI knodes), .int (nI konesMany), .int (nI kwithin), .int (nI ktop)]))] sz)) 0 0 (va_A [(o, .inr (12, [.int kthrown, .ref ktape, .int (nI ktaped), .int (nI ksize), .int (nI klimit), .int (nI kto), .int (nI kfrom), .int kkind, .int knumber, .int ksign, .int kfault, .int kplace, .long kword, .int ktold, .ref know, .ref kread, .ref kkept, .ref ksnaps, .ref kaside, .ref kname, .ref kreadName, .ref kkeptName, .ref kisKept, .ref konces, .int (nI ksnapMany), .int khasCells, .ref kpoured, .ref kfar, .ref ksides, .int (nI ksideMany), .int kwayDays, .int khasWay, .ref klines, .ref kmet, .int (nI kmetMany), .ref ksunk, .ref ktrying, .int (nI ksunkMany), .int ksending, .int kfleets, .ref ktext, .int (nI ktexts), .int kseed, .ref kline, .ref kwritten, .int (nI klineMany), .int khasWritten, .ref knode, .int (nI knodes), .int (nI konesMany), .int (nI kwithin), .int (nI ktop)]))] sz) := by
  refine Met.ofW (cc := cX12_image) (maxL := 3) (ret := (some .boolean)) (by decide) rfl ?_
  intro p e s m args below meth c s₁ B hml hv
  obtain ⟨rfl, hsz, hP, hK, hD0⟩ := hv
  have hx := B.exec
  have hb := B.bytes
  have hr := B.returns
  have hts := atoms_spec (ws := wsX12_image) B.pre
  have hown : s.vm.findClass RX12 = some m.cls := findClass_of_methodNamed B.named
  have hlocks := B.notSynchronized
  have hin12 : ∀ w ∈ u_ws RX12 TX12 52, w ∈ wsX12_image := by decide +kernel
  subst hsz
  have hD := hD0.self (sz := s.heap.size)
  generalize hAe : va_A [(o, .inr (12, [.int kthrown, .ref ktape, .int (nI ktaped), .int (nI ksize), .int (nI klimit), .int (nI kto), .int (nI kfrom), .int kkind, .int knumber, .int ksign, .int kfault, .int kplace, .long kword, .int ktold, .ref know, .ref kread, .ref kkept, .ref ksnaps, .ref kaside, .ref kname, .ref kreadName, .ref kkeptName, .ref kisKept, .ref konces, .int (nI ksnapMany), .int khasCells, .ref kpoured, .ref kfar, .ref ksides, .int (nI ksideMany), .int kwayDays, .int khasWay, .ref klines, .ref kmet, .int (nI kmetMany), .ref ksunk, .ref ktrying, .int (nI ksunkMany), .int ksending, .int kfleets, .ref ktext, .int (nI ktexts), .int kseed, .ref kline, .ref kwritten, .int (nI klineMany), .int khasWritten, .ref knode, .int (nI knodes), .int (nI konesMany), .int (nI kwithin), .int (nI ktop)]))] s.heap.size = A at hD ⊢
  have hA : ∀ q : Nat, s.heap.size ≤ q → A q := fun q h => by rw [← hAe]; exact Or.inr h
  have hS : va_S A s.heap s.heap [] := va_S.rf
  have hl := lv_entry ([.ref o, .int x]) (n := 3) (Nat.le_of_ble_eq_true rfl)
  rw [lg_entry_eq]
  generalize (lg_sl ([.ref o, .int x]) ++ List.replicate (3 - (lg_sl ([.ref o, .int x])).length) Slot.unset).toArray = ls at hl ⊢
  have hl : lv_has ls 3 [(0, .ref o), (1, .int x)] := hl
  refine q_name (fun Q hQ => ?_)
  generalize ([.ref o, .int x] : List Value).toArray = args at hts hQ ⊢
  refine lv_aload_n hx hb dX12_image_0 rfl (lv_at hl 0 rfl) ?_
  refine lv_iconst (v := nI 0) hx hb dX12_image_1 (by decide) ?_
  refine va_put (D := (dC, dI)) (ci := 12) (v := .int (nI 0)) (ty := .int) (C := RX12) (T := TX12) (N := 52) hx hb hts hin12 tyX12 tyX12_ok nmX12 hown hK hP hD hS 0 rfl rfl 0 (by decide) (hts (.fieldLink RX12 1 "PorridgeSeaModel" "thrown" "I") (List.mem_of_getElem? (i := 1) rfl)) (fun _ h9 => h9) rfl (by decide +kernel) rfl rfl (Nat.le_of_ble_eq_true rfl) dX12_image_2 (fun H locs hP hD hS => ?_)
  have hP : va_P (dC, dI) vwCl [(o, .inr (12, [.int (nI 0), .ref ktape, .int (nI ktaped), .int (nI ksize), .int (nI klimit), .int (nI kto), .int (nI kfrom), .int kkind, .int knumber, .int ksign, .int kfault, .int kplace, .long kword, .int ktold, .ref know, .ref kread, .ref kkept, .ref ksnaps, .ref kaside, .ref kname, .ref kreadName, .ref kkeptName, .ref kisKept, .ref konces, .int (nI ksnapMany), .int khasCells, .ref kpoured, .ref kfar, .ref ksides, .int (nI ksideMany), .int kwayDays, .int khasWay, .ref klines, .ref kmet, .int (nI kmetMany), .ref ksunk, .ref ktrying, .int (nI ksunkMany), .int ksending, .int kfleets, .ref ktext, .int (nI ktexts), .int kseed, .ref kline, .ref kwritten, .int (nI klineMany), .int khasWritten, .ref knode, .int (nI knodes), .int (nI konesMany), .int (nI kwithin), .int (nI ktop)]))] H := hP
  have hD : va_D A [(o, .inr (12, [.int (nI 0), .ref ktape, .int (nI ktaped), .int (nI ksize), .int (nI klimit), .int (nI kto), .int (nI kfrom), .int kkind, .int knumber, .int ksign, .int kfault, .int kplace, .long kword, .int ktold, .ref know, .ref kread, .ref kkept, .ref ksnaps, .ref kaside, .ref kname, .ref kreadName, .ref kkeptName, .ref kisKept, .ref konces, .int (nI ksnapMany), .int khasCells, .ref kpoured, .ref kfar, .ref ksides, .int (nI ksideMany), .int kwayDays, .int khasWay, .ref klines, .ref kmet, .int (nI kmetMany), .ref ksunk, .ref ktrying, .int (nI ksunkMany), .int ksending, .int kfleets, .ref ktext, .int (nI ktexts), .int kseed, .ref kline, .ref kwritten, .int (nI klineMany), .int khasWritten, .ref knode, .int (nI knodes), .int (nI konesMany), .int (nI kwithin), .int (nI ktop)]))] := hD
  refine lv_iload_n hx hb dX12_image_5 rfl (lv_at hl 1 rfl) ?_
  refine lv_iconst (v := nI 0) hx hb dX12_image_6 (by decide) ?_
  refine lv_iconst (v := nI 1) hx hb dX12_image_7 (by decide) ?_
  refine vp_callSi (W.runS (As := [.int x, .int (nI 0), .int (nI 1)]) (rest := []) ⟨hx, hb, hml, hown, hts⟩ (c_x_isIn l dC dI ky x (nI 0) (nI 1)) (va_cwS 3 hts gX12_image_X12_isIn rfl rfl rfl (by decide +kernel) ⟨(Nat.le_of_ble_eq_true rfl), (Nat.le_of_ble_eq_true rfl)⟩) (pre_PS hK hP [] rfl) rfl rfl hl.1 rfl (lv_room (Nat.le_of_ble_eq_true rfl)) dX12_image_8 ⟨(Nat.le_of_ble_eq_true rfl), (Nat.le_of_ble_eq_true rfl)⟩) (fun r1 p2 => ?_)
  rcases p2 with ⟨rfl, t3, t4⟩ | ⟨rfl, t5⟩
  · refine lv_if_ne (tgt := 16) hx hb dX12_image_11 (by decide) (fun c6 => ?_) (fun c6 => absurd c6 (by decide))
    exact ((lf_x_imageNo_1 ktaped ksize klimit kto kfrom ksnapMany ksideMany kmetMany ksunkMany ktexts klineMany knodes konesMany kwithin ktop x iv_ko_0 iv_ko_1 iv_ko_2 iv_ko_3 iv_ko_4 iv_ko_5 iv_ko_6 iv_ko_7 iv_ko_8 iv_ko_9 iv_ko_10 iv_ko_11 iv_ko_12 iv_ko_13 iv_ko_14 hno t3 t4)).elim
  · refine lv_if_ne (tgt := 16) hx hb dX12_image_11 (by decide) (fun c7 => absurd c7 (by decide)) (fun c7 => ?_)
    refine lv_iconst (v := nI 0) hx hb dX12_image_14 (by decide) ?_
    rw [hQ]
    exact W.zret (v := nI 0) hx hb hr (by decide) (fun t9 ht9 hW9 => ⟨⟨nI 0, (nI 0), rfl, (lf_x_imageNo_2), by rw [ht9]; exact hP, va_K.moved hW9.alike hK, hD⟩, hS.F ht9⟩) hS.2.2 dX12_image_15
set_option maxRecDepth 20000 in
theorem lf_x_image0_1  (t3 : (nI 0).toInt ≤ (nI 0).toInt) (t4 : (nI 0).toInt ≤ (nI 1).toInt) : (nI 1) = nI 1 := by
  try have k_0 := ia_n 0 (by first | decide | omega)
  try have k_1 := ia_n 1 (by first | decide | omega)
  try simp only [ia_lt, ia_le, ia_eq, ia_m1, ia_0, ia_1, ne_eq, true_and, and_true, false_and, and_false, or_false, false_or, or_true, true_or, not_true_eq_false, not_false_eq_true] at *
  all_goals omega
set_option maxRecDepth 20000 in
theorem lf_x_image0_2 (knowF : Nat → Int32) (kkeptF : Nat → Int32) (kisKeptF : Nat → Int32) (k13 : Nat) (f14 : Nat → Int32) (n17 : Nat) (g35 : Nat → Int32) (ab_now : NB knowF) (sb_now : SB knowF) (kb0 : KBf kkeptF kisKeptF 0) (kb1 : KBf kkeptF kisKeptF 1) (t3 : (nI 0).toInt ≤ (nI 0).toInt) (t4 : (nI 0).toInt ≤ (nI 1).toInt) (j15 : k13 ≤ 373) (hpre : ∀ j9, j9 < k13 → f14 (0 + j9) = knowF j9) (hout : ∀ j9, 373 ≤ j9 → f14 j9 = kkeptF j9) (hm19 : 373 - k13 < n17 + 1) (c20 : 373 ≤ k13) (e36 : g35 = upd kisKeptF 0 (vp_nar .boolean (nI 1))) : KBf f14 g35 0 := by
  exact KB_new ab_now sb_now (fun j h => (congrArg _ (by omega)).trans (hpre j (by omega)))
set_option maxRecDepth 20000 in
theorem lf_x_image0_3 (knowF : Nat → Int32) (kkeptF : Nat → Int32) (kisKeptF : Nat → Int32) (k13 : Nat) (f14 : Nat → Int32) (n17 : Nat) (g35 : Nat → Int32) (ab_now : NB knowF) (sb_now : SB knowF) (kb0 : KBf kkeptF kisKeptF 0) (kb1 : KBf kkeptF kisKeptF 1) (t3 : (nI 0).toInt ≤ (nI 0).toInt) (t4 : (nI 0).toInt ≤ (nI 1).toInt) (j15 : k13 ≤ 373) (hpre : ∀ j9, j9 < k13 → f14 (0 + j9) = knowF j9) (hout : ∀ j9, 373 ≤ j9 → f14 j9 = kkeptF j9) (hm19 : 373 - k13 < n17 + 1) (c20 : 373 ≤ k13) (e36 : g35 = upd kisKeptF 0 (vp_nar .boolean (nI 1))) : KBf f14 g35 1 := by
  exact KB_old kb1 (by rw [e36, upd_ne (by omega)]) (fun j h => hout _ (by omega))
set_option maxRecDepth 20000 in
theorem lf_x_image0_4 (knowF : Nat → Int32) (kkeptF : Nat → Int32) (kisKeptF : Nat → Int32) (k13 : Nat) (f14 : Nat → Int32) (n17 : Nat) (g35 : Nat → Int32) (ab_now : NB knowF) (sb_now : SB knowF) (kb0 : KBf kkeptF kisKeptF 0) (kb1 : KBf kkeptF kisKeptF 1) (t3 : (nI 0).toInt ≤ (nI 0).toInt) (t4 : (nI 0).toInt ≤ (nI 1).toInt) (j15 : k13 ≤ 373) (hpre : ∀ j9, j9 < k13 → f14 (0 + j9) = knowF j9) (hout : ∀ j9, 373 ≤ j9 → f14 j9 = kkeptF j9) (hm19 : 373 - k13 < n17 + 1) (c20 : 373 ≤ k13) (e36 : g35 = upd kisKeptF 0 (vp_nar .boolean (nI 1))) : g35 0 ≠ 0 := by
  rw [e36, upd_eq, nar1]; decide
set_option maxRecDepth 20000 in
theorem lf_x_image0_5 (knowF : Nat → Int32) (kkeptF : Nat → Int32) (kisKeptF : Nat → Int32) (k13 : Nat) (f14 : Nat → Int32) (n17 : Nat) (g35 : Nat → Int32) (ab_now : NB knowF) (sb_now : SB knowF) (kb0 : KBf kkeptF kisKeptF 0) (kb1 : KBf kkeptF kisKeptF 1) (t3 : (nI 0).toInt ≤ (nI 0).toInt) (t4 : (nI 0).toInt ≤ (nI 1).toInt) (j15 : k13 ≤ 373) (hpre : ∀ j9, j9 < k13 → f14 (0 + j9) = knowF j9) (hout : ∀ j9, 373 ≤ j9 → f14 j9 = kkeptF j9) (hm19 : 373 - k13 < n17 + 1) (c20 : 373 ≤ k13) (e36 : g35 = upd kisKeptF 0 (vp_nar .boolean (nI 1))) : g35 1 = kisKeptF 1 := by
  rw [e36, upd_ne (by omega)]
set_option maxRecDepth 20000 in
theorem lf_x_image0_6 (knameF : Nat → Int64) (k27 : Nat) (n31 : Nat) (y37 : Int64) (t3 : (nI 0).toInt ≤ (nI 0).toInt) (t4 : (nI 0).toInt ≤ (nI 1).toInt) (j29 : k27 ≤ 12) (hm33 : 12 - k27 < n31 + 1) (c34 : k27 < 12) (e38 : y37 = knameF k27) : k27 < 12 := by
  have b_y37 := Int64.toInt_lt y37
  try have k_0 := ia_n 0 (by first | decide | omega)
  try have k_1 := ia_n 1 (by first | decide | omega)
  try simp only [ia_lt, ia_le, ia_eq, ia_m1, ia_0, ia_1, ne_eq, true_and, and_true, false_and, and_false, or_false, false_or, or_true, true_or, not_true_eq_false, not_false_eq_true] at *
  all_goals omega
set_option maxRecDepth 20000 in
theorem lf_x_image0_7 (knameF : Nat → Int64) (k27 : Nat) (n31 : Nat) (y37 : Int64) (t3 : (nI 0).toInt ≤ (nI 0).toInt) (t4 : (nI 0).toInt ≤ (nI 1).toInt) (j29 : k27 ≤ 12) (hm33 : 12 - k27 < n31 + 1) (c34 : k27 < 12) (e38 : y37 = knameF k27) : (0 + k27) < 24 := by
  have b_y37 := Int64.toInt_lt y37
  try have k_0 := ia_n 0 (by first | decide | omega)
  try have k_1 := ia_n 1 (by first | decide | omega)
  try simp only [ia_lt, ia_le, ia_eq, ia_m1, ia_0, ia_1, ne_eq, true_and, and_true, false_and, and_false, or_false, false_or, or_true, true_or, not_true_eq_false, not_false_eq_true] at *
  all_goals omega
set_option maxRecDepth 20000 in
theorem lf_x_image0_8 (knameF : Nat → Int64) (k27 : Nat) (n31 : Nat) (y37 : Int64) (t3 : (nI 0).toInt ≤ (nI 0).toInt) (t4 : (nI 0).toInt ≤ (nI 1).toInt) (j29 : k27 ≤ 12) (hm33 : 12 - k27 < n31 + 1) (c34 : k27 < 12) (e38 : y37 = knameF k27) : (k27 + 1) ≤ 12 := by
  have b_y37 := Int64.toInt_lt y37
  try have k_0 := ia_n 0 (by first | decide | omega)
  try have k_1 := ia_n 1 (by first | decide | omega)
  try simp only [ia_lt, ia_le, ia_eq, ia_m1, ia_0, ia_1, ne_eq, true_and, and_true, false_and, and_false, or_false, false_or, or_true, true_or, not_true_eq_false, not_false_eq_true] at *
  all_goals omega
set_option maxRecDepth 20000 in
theorem lf_x_image0_9 (knameF : Nat → Int64) (k27 : Nat) (n31 : Nat) (y37 : Int64) (t3 : (nI 0).toInt ≤ (nI 0).toInt) (t4 : (nI 0).toInt ≤ (nI 1).toInt) (j29 : k27 ≤ 12) (hm33 : 12 - k27 < n31 + 1) (c34 : k27 < 12) (e38 : y37 = knameF k27) : 12 - (k27 + 1) < n31 := by
  have b_y37 := Int64.toInt_lt y37
  try have k_0 := ia_n 0 (by first | decide | omega)
  try have k_1 := ia_n 1 (by first | decide | omega)
  try simp only [ia_lt, ia_le, ia_eq, ia_m1, ia_0, ia_1, ne_eq, true_and, and_true, false_and, and_false, or_false, false_or, or_true, true_or, not_true_eq_false, not_false_eq_true] at *
  all_goals omega
set_option maxRecDepth 20000 in
theorem lf_x_image0_10  (t3 : (nI 0).toInt ≤ (nI 0).toInt) (t4 : (nI 0).toInt ≤ (nI 1).toInt) : 0 ≤ 12 := by
  try have k_0 := ia_n 0 (by first | decide | omega)
  try have k_1 := ia_n 1 (by first | decide | omega)
  try simp only [ia_lt, ia_le, ia_eq, ia_m1, ia_0, ia_1, ne_eq, true_and, and_true, false_and, and_false, or_false, false_or, or_true, true_or, not_true_eq_false, not_false_eq_true] at *
  all_goals omega
set_option maxRecDepth 20000 in
theorem lf_x_image0_11 (knowF : Nat → Int32) (kkeptF : Nat → Int32) (kisKeptF : Nat → Int32) (k13 : Nat) (f14 : Nat → Int32) (n17 : Nat) (y41 : Int32) (ab_now : NB knowF) (sb_now : SB knowF) (kb0 : KBf kkeptF kisKeptF 0) (kb1 : KBf kkeptF kisKeptF 1) (t3 : (nI 0).toInt ≤ (nI 0).toInt) (t4 : (nI 0).toInt ≤ (nI 1).toInt) (j15 : k13 ≤ 373) (hpre : ∀ j9, j9 < k13 → f14 (0 + j9) = knowF j9) (hout : ∀ j9, 373 ≤ j9 → f14 j9 = kkeptF j9) (hm19 : 373 - k13 < n17 + 1) (c20 : k13 < 373) (e42 : y41 = knowF k13) : k13 < 373 := by
  have b_y41 := ia_b y41
  try have k_0 := ia_n 0 (by first | decide | omega)
  try have k_1 := ia_n 1 (by first | decide | omega)
  try simp only [ia_lt, ia_le, ia_eq, ia_m1, ia_0, ia_1, ne_eq, true_and, and_true, false_and, and_false, or_false, false_or, or_true, true_or, not_true_eq_false, not_false_eq_true] at *
  all_goals omega
set_option maxRecDepth 20000 in
theorem lf_x_image0_12 (knowF : Nat → Int32) (kkeptF : Nat → Int32) (kisKeptF : Nat → Int32) (k13 : Nat) (f14 : Nat → Int32) (n17 : Nat) (y41 : Int32) (ab_now : NB knowF) (sb_now : SB knowF) (kb0 : KBf kkeptF kisKeptF 0) (kb1 : KBf kkeptF kisKeptF 1) (t3 : (nI 0).toInt ≤ (nI 0).toInt) (t4 : (nI 0).toInt ≤ (nI 1).toInt) (j15 : k13 ≤ 373) (hpre : ∀ j9, j9 < k13 → f14 (0 + j9) = knowF j9) (hout : ∀ j9, 373 ≤ j9 → f14 j9 = kkeptF j9) (hm19 : 373 - k13 < n17 + 1) (c20 : k13 < 373) (e42 : y41 = knowF k13) : (0 + k13) < 746 := by
  have b_y41 := ia_b y41
  try have k_0 := ia_n 0 (by first | decide | omega)
  try have k_1 := ia_n 1 (by first | decide | omega)
  try simp only [ia_lt, ia_le, ia_eq, ia_m1, ia_0, ia_1, ne_eq, true_and, and_true, false_and, and_false, or_false, false_or, or_true, true_or, not_true_eq_false, not_false_eq_true] at *
  all_goals omega
set_option maxRecDepth 20000 in
theorem lf_x_image0_13 (knowF : Nat → Int32) (kkeptF : Nat → Int32) (kisKeptF : Nat → Int32) (k13 : Nat) (f14 : Nat → Int32) (n17 : Nat) (y41 : Int32) (g43 : Nat → Int32) (ab_now : NB knowF) (sb_now : SB knowF) (kb0 : KBf kkeptF kisKeptF 0) (kb1 : KBf kkeptF kisKeptF 1) (t3 : (nI 0).toInt ≤ (nI 0).toInt) (t4 : (nI 0).toInt ≤ (nI 1).toInt) (j15 : k13 ≤ 373) (hpre : ∀ j9, j9 < k13 → f14 (0 + j9) = knowF j9) (hout : ∀ j9, 373 ≤ j9 → f14 j9 = kkeptF j9) (hm19 : 373 - k13 < n17 + 1) (c20 : k13 < 373) (e42 : y41 = knowF k13) (e44 : g43 = upd f14 (0 + k13) y41) : (k13 + 1) ≤ 373 := by
  have b_y41 := ia_b y41
  try have k_0 := ia_n 0 (by first | decide | omega)
  try have k_1 := ia_n 1 (by first | decide | omega)
  try simp only [ia_lt, ia_le, ia_eq, ia_m1, ia_0, ia_1, ne_eq, true_and, and_true, false_and, and_false, or_false, false_or, or_true, true_or, not_true_eq_false, not_false_eq_true] at *
  all_goals omega
set_option maxRecDepth 20000 in
theorem lf_x_image0_14 (knowF : Nat → Int32) (kkeptF : Nat → Int32) (kisKeptF : Nat → Int32) (k13 : Nat) (f14 : Nat → Int32) (n17 : Nat) (y41 : Int32) (g43 : Nat → Int32) (ab_now : NB knowF) (sb_now : SB knowF) (kb0 : KBf kkeptF kisKeptF 0) (kb1 : KBf kkeptF kisKeptF 1) (t3 : (nI 0).toInt ≤ (nI 0).toInt) (t4 : (nI 0).toInt ≤ (nI 1).toInt) (j15 : k13 ≤ 373) (hpre : ∀ j9, j9 < k13 → f14 (0 + j9) = knowF j9) (hout : ∀ j9, 373 ≤ j9 → f14 j9 = kkeptF j9) (hm19 : 373 - k13 < n17 + 1) (c20 : k13 < 373) (e42 : y41 = knowF k13) (e44 : g43 = upd f14 (0 + k13) y41) : ∀ j9, j9 < (k13 + 1) → g43 (0 + j9) = knowF j9 := by
  intro j9 hj9
  by_cases h9 : j9 = k13
  · rw [h9, e44, upd_eq]; exact e42
  · rw [e44, upd_ne (by omega)]; exact hpre j9 (by omega)
set_option maxRecDepth 20000 in
theorem lf_x_image0_15 (knowF : Nat → Int32) (kkeptF : Nat → Int32) (kisKeptF : Nat → Int32) (k13 : Nat) (f14 : Nat → Int32) (n17 : Nat) (y41 : Int32) (g43 : Nat → Int32) (ab_now : NB knowF) (sb_now : SB knowF) (kb0 : KBf kkeptF kisKeptF 0) (kb1 : KBf kkeptF kisKeptF 1) (t3 : (nI 0).toInt ≤ (nI 0).toInt) (t4 : (nI 0).toInt ≤ (nI 1).toInt) (j15 : k13 ≤ 373) (hpre : ∀ j9, j9 < k13 → f14 (0 + j9) = knowF j9) (hout : ∀ j9, 373 ≤ j9 → f14 j9 = kkeptF j9) (hm19 : 373 - k13 < n17 + 1) (c20 : k13 < 373) (e42 : y41 = knowF k13) (e44 : g43 = upd f14 (0 + k13) y41) : ∀ j9, 373 ≤ j9 → g43 j9 = kkeptF j9 := by
  intro j9 hj9
  rw [e44, upd_ne (by omega)]; exact hout j9 hj9
set_option maxRecDepth 20000 in
theorem lf_x_image0_16 (knowF : Nat → Int32) (kkeptF : Nat → Int32) (kisKeptF : Nat → Int32) (k13 : Nat) (f14 : Nat → Int32) (n17 : Nat) (y41 : Int32) (g43 : Nat → Int32) (ab_now : NB knowF) (sb_now : SB knowF) (kb0 : KBf kkeptF kisKeptF 0) (kb1 : KBf kkeptF kisKeptF 1) (t3 : (nI 0).toInt ≤ (nI 0).toInt) (t4 : (nI 0).toInt ≤ (nI 1).toInt) (j15 : k13 ≤ 373) (hpre : ∀ j9, j9 < k13 → f14 (0 + j9) = knowF j9) (hout : ∀ j9, 373 ≤ j9 → f14 j9 = kkeptF j9) (hm19 : 373 - k13 < n17 + 1) (c20 : k13 < 373) (e42 : y41 = knowF k13) (e44 : g43 = upd f14 (0 + k13) y41) : 373 - (k13 + 1) < n17 := by
  have b_y41 := ia_b y41
  try have k_0 := ia_n 0 (by first | decide | omega)
  try have k_1 := ia_n 1 (by first | decide | omega)
  try simp only [ia_lt, ia_le, ia_eq, ia_m1, ia_0, ia_1, ne_eq, true_and, and_true, false_and, and_false, or_false, false_or, or_true, true_or, not_true_eq_false, not_false_eq_true] at *
  all_goals omega
set_option maxRecDepth 20000 in
theorem lf_x_image0_17  (t3 : (nI 0).toInt ≤ (nI 0).toInt) (t4 : (nI 0).toInt ≤ (nI 1).toInt) : 0 ≤ 373 := by
  try have k_0 := ia_n 0 (by first | decide | omega)
  try have k_1 := ia_n 1 (by first | decide | omega)
  try simp only [ia_lt, ia_le, ia_eq, ia_m1, ia_0, ia_1, ne_eq, true_and, and_true, false_and, and_false, or_false, false_or, or_true, true_or, not_true_eq_false, not_false_eq_true] at *
  all_goals omega
set_option maxRecDepth 20000 in
theorem lf_x_image0_18 (knowF : Nat → Int32) (kkeptF : Nat → Int32) (kisKeptF : Nat → Int32) (ab_now : NB knowF) (sb_now : SB knowF) (kb0 : KBf kkeptF kisKeptF 0) (kb1 : KBf kkeptF kisKeptF 1) (t3 : (nI 0).toInt ≤ (nI 0).toInt) (t4 : (nI 0).toInt ≤ (nI 1).toInt) : ∀ j9, j9 < 0 → kkeptF (0 + j9) = knowF j9 := by
  intro j9 hj9
  omega
set_option maxRecDepth 20000 in
theorem lf_x_image0_19 (kkeptF : Nat → Int32) (kisKeptF : Nat → Int32) (kb0 : KBf kkeptF kisKeptF 0) (kb1 : KBf kkeptF kisKeptF 1) (t3 : (nI 0).toInt ≤ (nI 0).toInt) (t4 : (nI 0).toInt ≤ (nI 1).toInt) : ∀ j9, 373 ≤ j9 → kkeptF j9 = kkeptF j9 := by
  intro j9 hj9
  rfl
set_option maxRecDepth 20000 in
theorem lf_x_image0_20 (ktaped : Nat) (ksize : Nat) (klimit : Nat) (kto : Nat) (kfrom : Nat) (ksnapMany : Nat) (ksideMany : Nat) (kmetMany : Nat) (ksunkMany : Nat) (ktexts : Nat) (klineMany : Nat) (knodes : Nat) (konesMany : Nat) (kwithin : Nat) (ktop : Nat) (knowF : Nat → Int32) (kkeptF : Nat → Int32) (kisKeptF : Nat → Int32) (iv_ko_0 : ktaped ≤ 940) (iv_ko_1 : ksize ≤ 940) (iv_ko_2 : klimit ≤ 900) (iv_ko_3 : kto ≤ ksize) (iv_ko_4 : kfrom ≤ 940) (iv_ko_5 : ksnapMany ≤ 8) (iv_ko_6 : ksideMany ≤ 36) (iv_ko_7 : kmetMany ≤ 3) (iv_ko_8 : ksunkMany ≤ 36) (iv_ko_9 : ktexts ≤ 64) (iv_ko_10 : klineMany ≤ 40) (iv_ko_11 : knodes ≤ 60) (iv_ko_12 : konesMany ≤ 20) (iv_ko_13 : kwithin ≤ 8) (iv_ko_14 : ktop ≤ 59) (ab_now : NB knowF) (sb_now : SB knowF) (kb0 : KBf kkeptF kisKeptF 0) (kb1 : KBf kkeptF kisKeptF 1) (t5 : ¬ ((nI 0).toInt ≤ (nI 0).toInt ∧ (nI 0).toInt ≤ (nI 1).toInt)) : False := by
  try have k_0 := ia_n 0 (by first | decide | omega)
  try have k_1 := ia_n 1 (by first | decide | omega)
  try simp only [ia_lt, ia_le, ia_eq, ia_m1, ia_0, ia_1, ne_eq, true_and, and_true, false_and, and_false, or_false, false_or, or_true, true_or, not_true_eq_false, not_false_eq_true] at *
  all_goals omega
set_option maxHeartbeats 4000000 in
set_option maxRecDepth 100000 in
theorem c_x_image0 (l : Launch) (dC : Nat → ClassId) (dI : Nat → Nat → Nat) (ky : Nat → ClassId) (sz : Nat) (o : Nat) (kthrown : Int32) (ktape : Nat) (ktaped : Nat) (ksize : Nat) (klimit : Nat) (kto : Nat) (kfrom : Nat) (kkind : Int32) (knumber : Int32) (ksign : Int32) (kfault : Int32) (kplace : Int32) (kword : Int64) (ktold : Int32) (know : Nat) (kread : Nat) (kkept : Nat) (ksnaps : Nat) (kaside : Nat) (kname : Nat) (kreadName : Nat) (kkeptName : Nat) (kisKept : Nat) (konces : Nat) (ksnapMany : Nat) (khasCells : Int32) (kpoured : Nat) (kfar : Nat) (ksides : Nat) (ksideMany : Nat) (kwayDays : Int32) (khasWay : Int32) (klines : Nat) (kmet : Nat) (kmetMany : Nat) (ksunk : Nat) (ktrying : Nat) (ksunkMany : Nat) (ksending : Int32) (kfleets : Int32) (ktext : Nat) (ktexts : Nat) (kseed : Int32) (kline : Nat) (kwritten : Nat) (klineMany : Nat) (khasWritten : Int32) (knode : Nat) (knodes : Nat) (konesMany : Nat) (kwithin : Nat) (ktop : Nat) (knowF : Nat → Int32) (knameF : Nat → Int64) (kkeptF : Nat → Int32) (kkeptNameF : Nat → Int64) (kisKeptF : Nat → Int32) (iv_ko_0 : ktaped ≤ 940) (iv_ko_1 : ksize ≤ 940) (iv_ko_2 : klimit ≤ 900) (iv_ko_3 : kto ≤ ksize) (iv_ko_4 : kfrom ≤ 940) (iv_ko_5 : ksnapMany ≤ 8) (iv_ko_6 : ksideMany ≤ 36) (iv_ko_7 : kmetMany ≤ 3) (iv_ko_8 : ksunkMany ≤ 36) (iv_ko_9 : ktexts ≤ 64) (iv_ko_10 : klineMany ≤ 40) (iv_ko_11 : knodes ≤ 60) (iv_ko_12 : konesMany ≤ 20) (iv_ko_13 : kwithin ≤ 8) (iv_ko_14 : ktop ≤ 59) (ab_now : NB knowF) (sb_now : SB knowF) (kb0 : KBf kkeptF kisKeptF 0) (kb1 : KBf kkeptF kisKeptF 1) : Met l yX12_image wsX12_image ({ frames := 1, cells := 0, slots := 0, locals := 22 }) (PcU dC dI ky [.ref o, .int (nI 0)] [(o, .inr (12, [.int kthrown, .ref ktape, .int (nI ktaped), .int (nI ksize), .int (nI klimit), .int (nI kto), .int (nI kfrom), .int kkind, .int knumber, .int ksign, .int kfault, .int kplace, .long kword, .int ktold, .ref know, .ref kread, .ref kkept, .ref ksnaps, .ref kaside, .ref kname, .ref kreadName, .ref kkeptName, .ref kisKept, .ref konces, .int (nI ksnapMany), .int khasCells, .ref kpoured, .ref kfar, .ref ksides, .int (nI ksideMany), .int kwayDays, .int khasWay, .ref klines, .ref kmet, .int (nI kmetMany), .ref ksunk, .ref ktrying, .int (nI ksunkMany), .int ksending, .int kfleets, .ref ktext, .int (nI ktexts), .int kseed, .ref kline, .ref kwritten, .int (nI klineMany), .int khasWritten, .ref knode, .int (nI knodes), .int (nI konesMany), .int (nI kwithin), .int (nI ktop)])), (know, .inl (ky 0, 373, .inl knowF)), (kname, .inl (ky 1, 12, .inr (.inl knameF))), (kkept, .inl (ky 0, 746, .inl kkeptF)), (kkeptName, .inl (ky 1, 24, .inr (.inl kkeptNameF))), (kisKept, .inl (ky 3, 2, .inl kisKeptF))] sz) (va_Qi (fun (r : Int32) (u : Int32 × (Nat → Int32) × (Nat → Int64) × (Nat → Int32)) => match u with | (kthrownG, kkeptG, kkeptNameG, kisKeptG) => (r = nI 1) ∧ (KBf kkeptG kisKeptG 0) ∧ (KBf kkeptG kisKeptG 1) ∧ (kisKeptG 0 ≠ 0) ∧ (kisKeptG 1 = kisKeptF 1)) (BU dC dI ky (fun (u : Int32 × (Nat → Int32) × (Nat → Int64) × (Nat → Int32)) => match u with | (kthrownG, kkeptG, kkeptNameG, kisKeptG) => [(o, .inr (12, [.int kthrownG, .ref ktape, .int (nI ktaped), .int (nI ksize), .int (nI klimit), .int (nI kto), .int (nI kfrom), .int kkind, .int knumber, .int ksign, .int kfault, .int kplace, .long kword, .int ktold, .ref know, .ref kread, .ref kkept, .ref ksnaps, .ref kaside, .ref kname, .ref kreadName, .ref kkeptName, .ref kisKept, .ref konces, .int (nI ksnapMany), .int khasCells, .ref kpoured, .ref kfar, .ref ksides, .int (nI ksideMany), .int kwayDays, .int khasWay, .ref klines, .ref kmet, .int (nI kmetMany), .ref ksunk, .ref ktrying, .int (nI ksunkMany), .int ksending, .int kfleets, .ref ktext, .int (nI ktexts), .int kseed, .ref kline, .ref kwritten, .int (nI klineMany), .int khasWritten, .ref knode, .int (nI knodes), .int (nI konesMany), .int (nI kwithin), .int (nI ktop)])), (know, .inl (ky 0, 373, .inl knowF)), (kname, .inl (ky 1, 12, .inr (.inl knameF))), (kkept, .inl (ky 0, 746, .inl kkeptG)), (kkeptName, .inl (ky 1, 24, .inr (.inl kkeptNameG))), (kisKept, .inl (ky 3, 2, .inl kisKeptG))]) (va_A [(o, .inr (12, [.int kthrown, .ref ktape, .int (nI ktaped), .int (nI ksize), .int (nI klimit), .int (nI kto), .int (nI kfrom), .int kkind, .int knumber, .int ksign, .int kfault, .int kplace, .long kword, .int ktold, .ref know, .ref kread, .ref kkept, .ref ksnaps, .ref kaside, .ref kname, .ref kreadName, .ref kkeptName, .ref kisKept, .ref konces, .int (nI ksnapMany), .int khasCells, .ref kpoured, .ref kfar, .ref ksides, .int (nI ksideMany), .int kwayDays, .int khasWay, .ref klines, .ref kmet, .int (nI kmetMany), .ref ksunk, .ref ktrying, .int (nI ksunkMany), .int ksending, .int kfleets, .ref ktext, .int (nI ktexts), .int kseed, .ref kline, .ref kwritten, .int (nI klineMany), .int khasWritten, .ref knode, .int (nI knodes), .int (nI konesMany), .int (nI kwithin), .int (nI ktop)])), (know, .inl (ky 0, 373, .inl knowF)), (kname, .inl (ky 1, 12, .inr (.inl knameF))), (kkept, .inl (ky 0, 746, .inl kkeptF)), (kkeptName, .inl (ky 1, 24, .inr (.inl kkeptNameF))), (kisKept, .inl (ky 3, 2, .inl kisKeptF))] sz)) (va_A [(o, .inr (12, [.int kthrown, .ref ktape, .int (nI ktaped), .int (nI ksize), .int (nI klimit), .int (nI kto), .int (nI kfrom), .int kkind, .int knumber, .int ksign, .int kfault, .int kplace, .long kword, .int ktold, .ref know, .ref kread, .ref kkept, .ref ksnaps, .ref kaside, .ref kname, .ref kreadName, .ref kkeptName, .ref kisKept, .ref konces, .int (nI ksnapMany), .int khasCells, .ref kpoured, .ref kfar, .ref ksides, .int (nI ksideMany), .int kwayDays, .int khasWay, .ref klines, .ref kmet, .int (nI kmetMany), .ref ksunk, .ref ktrying, .int (nI ksunkMany), .int ksending, .int kfleets, .ref ktext, .int (nI ktexts), .int kseed, .ref kline, .ref kwritten, .int (nI klineMany), .int khasWritten, .ref knode, .int (nI knodes), .int (nI konesMany), .int (nI kwithin), .int (nI ktop)])), (know, .inl (ky 0, 373, .inl knowF)), (kname, .inl (ky 1, 12, .inr (.inl knameF))), (kkept, .inl (ky 0, 746, .inl kkeptF)), (kkeptName, .inl (ky 1, 24, .inr (.inl kkeptNameF))), (kisKept, .inl (ky 3, 2, .inl kisKeptF))] sz)) 0 0 (va_A [(o, .inr (12, [.int kthrown, .ref ktape, .int (nI ktaped), .int (nI ksize), .int (nI klimit), .int (nI kto), .int (nI kfrom), .int kkind, .int knumber, .int ksign, .int kfault, .int kplace, .long kword, .int ktold, .ref know, .ref kread, .ref kkept, .ref ksnaps, .ref kaside, .ref kname, .ref kreadName, .ref kkeptName, .ref kisKept, .ref konces, .int (nI ksnapMany), .int khasCells, .ref kpoured, .ref kfar, .ref ksides, .int (nI ksideMany), .int kwayDays, .int khasWay, .ref klines, .ref kmet, .int (nI kmetMany), .ref ksunk, .ref ktrying, .int (nI ksunkMany), .int ksending, .int kfleets, .ref ktext, .int (nI ktexts), .int kseed, .ref kline, .ref kwritten, .int (nI klineMany), .int khasWritten, .ref knode, .int (nI knodes), .int (nI konesMany), .int (nI kwithin), .int (nI ktop)])), (know, .inl (ky 0, 373, .inl knowF)), (kname, .inl (ky 1, 12, .inr (.inl knameF))), (kkept, .inl (ky 0, 746, .inl kkeptF)), (kkeptName, .inl (ky 1, 24, .inr (.inl kkeptNameF))), (kisKept, .inl (ky 3, 2, .inl kisKeptF))] sz) := by
  refine Met.ofW (cc := cX12_image) (maxL := 3) (ret := (some .boolean)) (by decide) rfl ?_
  intro p e s m args below meth c s₁ B hml hv
  obtain ⟨rfl, hsz, hP, hK, hD0⟩ := hv
  have hx := B.exec
  have hb := B.bytes
  have hr := B.returns
  have hts := atoms_spec (ws := wsX12_image) B.pre
  have hown : s.vm.findClass RX12 = some m.cls := findClass_of_methodNamed B.named
  have hlocks := B.notSynchronized
  have hin12 : ∀ w ∈ u_ws RX12 TX12 52, w ∈ wsX12_image := by decide +kernel
  subst hsz
  have hD := hD0.self (sz := s.heap.size)
  generalize hAe : va_A [(o, .inr (12, [.int kthrown, .ref ktape, .int (nI ktaped), .int (nI ksize), .int (nI klimit), .int (nI kto), .int (nI kfrom), .int kkind, .int knumber, .int ksign, .int kfault, .int kplace, .long kword, .int ktold, .ref know, .ref kread, .ref kkept, .ref ksnaps, .ref kaside, .ref kname, .ref kreadName, .ref kkeptName, .ref kisKept, .ref konces, .int (nI ksnapMany), .int khasCells, .ref kpoured, .ref kfar, .ref ksides, .int (nI ksideMany), .int kwayDays, .int khasWay, .ref klines, .ref kmet, .int (nI kmetMany), .ref ksunk, .ref ktrying, .int (nI ksunkMany), .int ksending, .int kfleets, .ref ktext, .int (nI ktexts), .int kseed, .ref kline, .ref kwritten, .int (nI klineMany), .int khasWritten, .ref knode, .int (nI knodes), .int (nI konesMany), .int (nI kwithin), .int (nI ktop)])), (know, .inl (ky 0, 373, .inl knowF)), (kname, .inl (ky 1, 12, .inr (.inl knameF))), (kkept, .inl (ky 0, 746, .inl kkeptF)), (kkeptName, .inl (ky 1, 24, .inr (.inl kkeptNameF))), (kisKept, .inl (ky 3, 2, .inl kisKeptF))] s.heap.size = A at hD ⊢
  have hA : ∀ q : Nat, s.heap.size ≤ q → A q := fun q h => by rw [← hAe]; exact Or.inr h
  have hS : va_S A s.heap s.heap [] := va_S.rf
  have hl := lv_entry ([.ref o, .int (nI 0)]) (n := 3) (Nat.le_of_ble_eq_true rfl)
  rw [lg_entry_eq]
  generalize (lg_sl ([.ref o, .int (nI 0)]) ++ List.replicate (3 - (lg_sl ([.ref o, .int (nI 0)])).length) Slot.unset).toArray = ls at hl ⊢
  have hl : lv_has ls 3 [(0, .ref o), (1, .int (nI 0))] := hl
  refine q_name (fun Q hQ => ?_)
  generalize ([.ref o, .int (nI 0)] : List Value).toArray = args at hts hQ ⊢
  refine lv_aload_n hx hb dX12_image_0 rfl (lv_at hl 0 rfl) ?_
  refine lv_iconst (v := nI 0) hx hb dX12_image_1 (by decide) ?_
  refine va_put (D := (dC, dI)) (ci := 12) (v := .int (nI 0)) (ty := .int) (C := RX12) (T := TX12) (N := 52) hx hb hts hin12 tyX12 tyX12_ok nmX12 hown hK hP hD hS 0 rfl rfl 0 (by decide) (hts (.fieldLink RX12 1 "PorridgeSeaModel" "thrown" "I") (List.mem_of_getElem? (i := 1) rfl)) (fun _ h9 => h9) rfl (by decide +kernel) rfl rfl (Nat.le_of_ble_eq_true rfl) dX12_image_2 (fun H locs hP hD hS => ?_)
  have hP : va_P (dC, dI) vwCl [(o, .inr (12, [.int (nI 0), .ref ktape, .int (nI ktaped), .int (nI ksize), .int (nI klimit), .int (nI kto), .int (nI kfrom), .int kkind, .int knumber, .int ksign, .int kfault, .int kplace, .long kword, .int ktold, .ref know, .ref kread, .ref kkept, .ref ksnaps, .ref kaside, .ref kname, .ref kreadName, .ref kkeptName, .ref kisKept, .ref konces, .int (nI ksnapMany), .int khasCells, .ref kpoured, .ref kfar, .ref ksides, .int (nI ksideMany), .int kwayDays, .int khasWay, .ref klines, .ref kmet, .int (nI kmetMany), .ref ksunk, .ref ktrying, .int (nI ksunkMany), .int ksending, .int kfleets, .ref ktext, .int (nI ktexts), .int kseed, .ref kline, .ref kwritten, .int (nI klineMany), .int khasWritten, .ref knode, .int (nI knodes), .int (nI konesMany), .int (nI kwithin), .int (nI ktop)])), (know, .inl (ky 0, 373, .inl knowF)), (kname, .inl (ky 1, 12, .inr (.inl knameF))), (kkept, .inl (ky 0, 746, .inl kkeptF)), (kkeptName, .inl (ky 1, 24, .inr (.inl kkeptNameF))), (kisKept, .inl (ky 3, 2, .inl kisKeptF))] H := hP
  have hD : va_D A [(o, .inr (12, [.int (nI 0), .ref ktape, .int (nI ktaped), .int (nI ksize), .int (nI klimit), .int (nI kto), .int (nI kfrom), .int kkind, .int knumber, .int ksign, .int kfault, .int kplace, .long kword, .int ktold, .ref know, .ref kread, .ref kkept, .ref ksnaps, .ref kaside, .ref kname, .ref kreadName, .ref kkeptName, .ref kisKept, .ref konces, .int (nI ksnapMany), .int khasCells, .ref kpoured, .ref kfar, .ref ksides, .int (nI ksideMany), .int kwayDays, .int khasWay, .ref klines, .ref kmet, .int (nI kmetMany), .ref ksunk, .ref ktrying, .int (nI ksunkMany), .int ksending, .int kfleets, .ref ktext, .int (nI ktexts), .int kseed, .ref kline, .ref kwritten, .int (nI klineMany), .int khasWritten, .ref knode, .int (nI knodes), .int (nI konesMany), .int (nI kwithin), .int (nI ktop)])), (know, .inl (ky 0, 373, .inl knowF)), (kname, .inl (ky 1, 12, .inr (.inl knameF))), (kkept, .inl (ky 0, 746, .inl kkeptF)), (kkeptName, .inl (ky 1, 24, .inr (.inl kkeptNameF))), (kisKept, .inl (ky 3, 2, .inl kisKeptF))] := hD
  refine lv_iload_n hx hb dX12_image_5 rfl (lv_at hl 1 rfl) ?_
  refine lv_iconst (v := nI 0) hx hb dX12_image_6 (by decide) ?_
  refine lv_iconst (v := nI 1) hx hb dX12_image_7 (by decide) ?_
  refine vp_callSi (W.runS (As := [.int (nI 0), .int (nI 0), .int (nI 1)]) (rest := []) ⟨hx, hb, hml, hown, hts⟩ (c_x_isIn l dC dI ky (nI 0) (nI 0) (nI 1)) (va_cwS 3 hts gX12_image_X12_isIn rfl rfl rfl (by decide +kernel) ⟨(Nat.le_of_ble_eq_true rfl), (Nat.le_of_ble_eq_true rfl)⟩) (pre_PS hK hP [] rfl) rfl rfl hl.1 rfl (lv_room (Nat.le_of_ble_eq_true rfl)) dX12_image_8 ⟨(Nat.le_of_ble_eq_true rfl), (Nat.le_of_ble_eq_true rfl)⟩) (fun r1 p2 => ?_)
  rcases p2 with ⟨rfl, t3, t4⟩ | ⟨rfl, t5⟩
  · refine lv_if_ne (tgt := 16) hx hb dX12_image_11 (by decide) (fun c6 => ?_) (fun c6 => absurd c6 (by decide))
    refine lv_iconst (v := nI 0) hx hb dX12_image_16 (by decide) ?_
    refine lv_istore_n (lv' := [(2, .int (nI 0)), (0, .ref o), (1, .int (nI 0))]) hx hb dX12_image_17 rfl hl (by decide) rfl (fun ls hl => ?_)
    have hL16 : ∀ (n17 : Nat) (k13 : Nat) (f14 : Nat → Int32), (k13 ≤ 373) → (∀ j9, j9 < k13 → f14 (0 + j9) = knowF j9) → (∀ j9, 373 ≤ j9 → f14 j9 = kkeptF j9) → 373 - k13 < n17 → ∀ (H : Heap) (locs : List Loc) (ls : Array Slot), va_P (dC, dI) vwCl [(o, .inr (12, [.int (nI 0), .ref ktape, .int (nI ktaped), .int (nI ksize), .int (nI klimit), .int (nI kto), .int (nI kfrom), .int kkind, .int knumber, .int ksign, .int kfault, .int kplace, .long kword, .int ktold, .ref know, .ref kread, .ref kkept, .ref ksnaps, .ref kaside, .ref kname, .ref kreadName, .ref kkeptName, .ref kisKept, .ref konces, .int (nI ksnapMany), .int khasCells, .ref kpoured, .ref kfar, .ref ksides, .int (nI ksideMany), .int kwayDays, .int khasWay, .ref klines, .ref kmet, .int (nI kmetMany), .ref ksunk, .ref ktrying, .int (nI ksunkMany), .int ksending, .int kfleets, .ref ktext, .int (nI ktexts), .int kseed, .ref kline, .ref kwritten, .int (nI klineMany), .int khasWritten, .ref knode, .int (nI knodes), .int (nI konesMany), .int (nI kwithin), .int (nI ktop)])), (know, .inl (ky 0, 373, .inl knowF)), (kname, .inl (ky 1, 12, .inr (.inl knameF))), (kkept, .inl (ky 0, 746, .inl f14)), (kkeptName, .inl (ky 1, 24, .inr (.inl kkeptNameF))), (kisKept, .inl (ky 3, 2, .inl kisKeptF))] H → va_D A [(o, .inr (12, [.int (nI 0), .ref ktape, .int (nI ktaped), .int (nI ksize), .int (nI klimit), .int (nI kto), .int (nI kfrom), .int kkind, .int knumber, .int ksign, .int kfault, .int kplace, .long kword, .int ktold, .ref know, .ref kread, .ref kkept, .ref ksnaps, .ref kaside, .ref kname, .ref kreadName, .ref kkeptName, .ref kisKept, .ref konces, .int (nI ksnapMany), .int khasCells, .ref kpoured, .ref kfar, .ref ksides, .int (nI ksideMany), .int kwayDays, .int khasWay, .ref klines, .ref kmet, .int (nI kmetMany), .ref ksunk, .ref ktrying, .int (nI ksunkMany), .int ksending, .int kfleets, .ref ktext, .int (nI ktexts), .int kseed, .ref kline, .ref kwritten, .int (nI klineMany), .int khasWritten, .ref knode, .int (nI knodes), .int (nI konesMany), .int (nI kwithin), .int (nI ktop)])), (know, .inl (ky 0, 373, .inl knowF)), (kname, .inl (ky 1, 12, .inr (.inl knameF))), (kkept, .inl (ky 0, 746, .inl f14)), (kkeptName, .inl (ky 1, 24, .inr (.inl kkeptNameF))), (kisKept, .inl (ky 3, 2, .inl kisKeptF))] → va_S A s.heap H locs → lv_has ls 3 [(2, .int (nI k13)), (0, .ref o), (1, .int (nI 0))] → W p l e (headSpec wsX12_image ({ frames := 1, cells := 0, slots := 0, locals := 22 })).room s m args below meth c H locs 0 0 Q (F0 m 18 ls []) := by
      intro n17
      induction n17 with
      | zero => intro k13 f14 _ _ _ h9; exact absurd h9 (Nat.not_lt_zero _)
      | succ n17 ih18 =>
        intro k13 f14 j15 hpre hout hm19 H locs ls hP hD hS hl
        refine lv_iload_n hx hb dX12_image_18 rfl (lv_at hl 0 rfl) ?_
        refine lv_sipush (v := nI 373) hx hb dX12_image_19 (by decide) ?_
        refine n_icmp_ge (x := k13) (y := 373) (tgt := 49) hx hb (by omega) (by omega) dX12_image_22 (by decide) (fun c20 => ?_) (fun c20 => ?_)
        · refine lv_iconst (v := nI 0) hx hb dX12_image_49 (by decide) ?_
          refine lv_istore_n (lv' := [(2, .int (nI 0)), (0, .ref o), (1, .int (nI 0))]) hx hb dX12_image_50 rfl hl (by decide) rfl (fun ls hl => ?_)
          have hL30 : ∀ (n31 : Nat) (k27 : Nat) (f28 : Nat → Int64), (k27 ≤ 12) → 12 - k27 < n31 → ∀ (H : Heap) (locs : List Loc) (ls : Array Slot), va_P (dC, dI) vwCl [(o, .inr (12, [.int (nI 0), .ref ktape, .int (nI ktaped), .int (nI ksize), .int (nI klimit), .int (nI kto), .int (nI kfrom), .int kkind, .int knumber, .int ksign, .int kfault, .int kplace, .long kword, .int ktold, .ref know, .ref kread, .ref kkept, .ref ksnaps, .ref kaside, .ref kname, .ref kreadName, .ref kkeptName, .ref kisKept, .ref konces, .int (nI ksnapMany), .int khasCells, .ref kpoured, .ref kfar, .ref ksides, .int (nI ksideMany), .int kwayDays, .int khasWay, .ref klines, .ref kmet, .int (nI kmetMany), .ref ksunk, .ref ktrying, .int (nI ksunkMany), .int ksending, .int kfleets, .ref ktext, .int (nI ktexts), .int kseed, .ref kline, .ref kwritten, .int (nI klineMany), .int khasWritten, .ref knode, .int (nI knodes), .int (nI konesMany), .int (nI kwithin), .int (nI ktop)])), (know, .inl (ky 0, 373, .inl knowF)), (kname, .inl (ky 1, 12, .inr (.inl knameF))), (kkept, .inl (ky 0, 746, .inl f14)), (kkeptName, .inl (ky 1, 24, .inr (.inl f28))), (kisKept, .inl (ky 3, 2, .inl kisKeptF))] H → va_D A [(o, .inr (12, [.int (nI 0), .ref ktape, .int (nI ktaped), .int (nI ksize), .int (nI klimit), .int (nI kto), .int (nI kfrom), .int kkind, .int knumber, .int ksign, .int kfault, .int kplace, .long kword, .int ktold, .ref know, .ref kread, .ref kkept, .ref ksnaps, .ref kaside, .ref kname, .ref kreadName, .ref kkeptName, .ref kisKept, .ref konces, .int (nI ksnapMany), .int khasCells, .ref kpoured, .ref kfar, .ref ksides, .int (nI ksideMany), .int kwayDays, .int khasWay, .ref klines, .ref kmet, .int (nI kmetMany), .ref ksunk, .ref ktrying, .int (nI ksunkMany), .int ksending, .int kfleets, .ref ktext, .int (nI ktexts), .int kseed, .ref kline, .ref kwritten, .int (nI klineMany), .int khasWritten, .ref knode, .int (nI knodes), .int (nI konesMany), .int (nI kwithin), .int (nI ktop)])), (know, .inl (ky 0, 373, .inl knowF)), (kname, .inl (ky 1, 12, .inr (.inl knameF))), (kkept, .inl (ky 0, 746, .inl f14)), (kkeptName, .inl (ky 1, 24, .inr (.inl f28))), (kisKept, .inl (ky 3, 2, .inl kisKeptF))] → va_S A s.heap H locs → lv_has ls 3 [(2, .int (nI k27)), (0, .ref o), (1, .int (nI 0))] → W p l e (headSpec wsX12_image ({ frames := 1, cells := 0, slots := 0, locals := 22 })).room s m args below meth c H locs 0 0 Q (F0 m 51 ls []) := by
            intro n31
            induction n31 with
            | zero => intro k27 f28 _ h9; exact absurd h9 (Nat.not_lt_zero _)
            | succ n31 ih32 =>
              intro k27 f28 j29 hm33 H locs ls hP hD hS hl
              refine lv_iload_n hx hb dX12_image_51 rfl (lv_at hl 0 rfl) ?_
              refine lv_bipush (v := nI 12) hx hb dX12_image_52 (by decide) ?_
              refine n_icmp_ge (x := k27) (y := 12) (tgt := 80) hx hb (by omega) (by omega) dX12_image_54 (by decide) (fun c34 => ?_) (fun c34 => ?_)
              · refine lv_aload_n hx hb dX12_image_80 rfl (lv_at hl 1 rfl) ?_
                refine va_get (D := (dC, dI)) (ci := 12) (v := .ref kisKept) (C := RX12) (T := TX12) (N := 52) hx hb hts hin12 hown hK hP 0 rfl rfl 22 (by decide) (hts (.fieldLink RX12 123 "PorridgeSeaModel" "isKept" "[Z") (List.mem_of_getElem? (i := 6) rfl)) (fun _ h9 => h9) rfl dX12_image_81 ?_
                refine lv_iload_n hx hb dX12_image_84 rfl (lv_at hl 2 rfl) ?_
                refine lv_iconst (v := nI 1) hx hb dX12_image_85 (by decide) ?_
                refine r_zast (x := (nI 1)) hx hb hK hP hD hS 5 rfl 0 (by decide) (by decide) dX12_image_86 (fun H locs hP hD hS => ?_)
                obtain ⟨g35, e36⟩ : ∃ z9, z9 = upd kisKeptF 0 (vp_nar .boolean (nI 1)) := ⟨_, rfl⟩
                rw [← e36] at hP hD
                have hP : va_P (dC, dI) vwCl [(o, .inr (12, [.int (nI 0), .ref ktape, .int (nI ktaped), .int (nI ksize), .int (nI klimit), .int (nI kto), .int (nI kfrom), .int kkind, .int knumber, .int ksign, .int kfault, .int kplace, .long kword, .int ktold, .ref know, .ref kread, .ref kkept, .ref ksnaps, .ref kaside, .ref kname, .ref kreadName, .ref kkeptName, .ref kisKept, .ref konces, .int (nI ksnapMany), .int khasCells, .ref kpoured, .ref kfar, .ref ksides, .int (nI ksideMany), .int kwayDays, .int khasWay, .ref klines, .ref kmet, .int (nI kmetMany), .ref ksunk, .ref ktrying, .int (nI ksunkMany), .int ksending, .int kfleets, .ref ktext, .int (nI ktexts), .int kseed, .ref kline, .ref kwritten, .int (nI klineMany), .int khasWritten, .ref knode, .int (nI knodes), .int (nI konesMany), .int (nI kwithin), .int (nI ktop)])), (know, .inl (ky 0, 373, .inl knowF)), (kname, .inl (ky 1, 12, .inr (.inl knameF))), (kkept, .inl (ky 0, 746, .inl f14)), (kkeptName, .inl (ky 1, 24, .inr (.inl f28))), (kisKept, .inl (ky 3, 2, .inl g35))] H := hP
                have hD : va_D A [(o, .inr (12, [.int (nI 0), .ref ktape, .int (nI ktaped), .int (nI ksize), .int (nI klimit), .int (nI kto), .int (nI kfrom), .int kkind, .int knumber, .int ksign, .int kfault, .int kplace, .long kword, .int ktold, .ref know, .ref kread, .ref kkept, .ref ksnaps, .ref kaside, .ref kname, .ref kreadName, .ref kkeptName, .ref kisKept, .ref konces, .int (nI ksnapMany), .int khasCells, .ref kpoured, .ref kfar, .ref ksides, .int (nI ksideMany), .int kwayDays, .int khasWay, .ref klines, .ref kmet, .int (nI kmetMany), .ref ksunk, .ref ktrying, .int (nI ksunkMany), .int ksending, .int kfleets, .ref ktext, .int (nI ktexts), .int kseed, .ref kline, .ref kwritten, .int (nI klineMany), .int khasWritten, .ref knode, .int (nI knodes), .int (nI konesMany), .int (nI kwithin), .int (nI ktop)])), (know, .inl (ky 0, 373, .inl knowF)), (kname, .inl (ky 1, 12, .inr (.inl knameF))), (kkept, .inl (ky 0, 746, .inl f14)), (kkeptName, .inl (ky 1, 24, .inr (.inl f28))), (kisKept, .inl (ky 3, 2, .inl g35))] := hD
                refine lv_iconst (v := nI 1) hx hb dX12_image_87 (by decide) ?_
                rw [hQ]
                exact W.zret (v := nI 1) hx hb hr (by decide) (fun t9 ht9 hW9 => ⟨⟨nI 1, (nI 0, f14, f28, g35), rfl, ⟨(lf_x_image0_1 t3 t4), (lf_x_image0_2 knowF kkeptF kisKeptF k13 f14 n17 g35 ab_now sb_now kb0 kb1 t3 t4 j15 hpre hout hm19 c20 e36), (lf_x_image0_3 knowF kkeptF kisKeptF k13 f14 n17 g35 ab_now sb_now kb0 kb1 t3 t4 j15 hpre hout hm19 c20 e36), (lf_x_image0_4 knowF kkeptF kisKeptF k13 f14 n17 g35 ab_now sb_now kb0 kb1 t3 t4 j15 hpre hout hm19 c20 e36), (lf_x_image0_5 knowF kkeptF kisKeptF k13 f14 n17 g35 ab_now sb_now kb0 kb1 t3 t4 j15 hpre hout hm19 c20 e36)⟩, by rw [ht9]; exact hP, va_K.moved hW9.alike hK, hD⟩, hS.F ht9⟩) hS.2.2 dX12_image_88
              · refine lv_aload_n hx hb dX12_image_57 rfl (lv_at hl 1 rfl) ?_
                refine va_get (D := (dC, dI)) (ci := 12) (v := .ref kkeptName) (C := RX12) (T := TX12) (N := 52) hx hb hts hin12 hown hK hP 0 rfl rfl 21 (by decide) (hts (.fieldLink RX12 120 "PorridgeSeaModel" "keptName" "[J") (List.mem_of_getElem? (i := 4) rfl)) (fun _ h9 => h9) rfl dX12_image_58 ?_
                refine lv_bipush (v := nI 12) hx hb dX12_image_61 (by decide) ?_
                refine lv_iload_n hx hb dX12_image_63 rfl (lv_at hl 2 rfl) ?_
                refine lv_imul hx hb dX12_image_64 ?_
                refine r_ti (nI 0) (by decide) ?_
                refine lv_iload_n hx hb dX12_image_65 rfl (lv_at hl 0 rfl) ?_
                refine lv_iadd hx hb dX12_image_66 ?_
                refine r_ti (nI (0 + k27)) (nI_add _ _) ?_
                refine lv_aload_n hx hb dX12_image_67 rfl (lv_at hl 1 rfl) ?_
                refine va_get (D := (dC, dI)) (ci := 12) (v := .ref kname) (C := RX12) (T := TX12) (N := 52) hx hb hts hin12 hown hK hP 0 rfl rfl 19 (by decide) (hts (.fieldLink RX12 113 "PorridgeSeaModel" "name" "[J") (List.mem_of_getElem? (i := 5) rfl)) (fun _ h9 => h9) rfl dX12_image_68 ?_
                refine lv_iload_n hx hb dX12_image_71 rfl (lv_at hl 0 rfl) ?_
                obtain ⟨y37, e38⟩ : ∃ z9, z9 = knameF k27 := ⟨_, rfl⟩
                refine r_lald hx hb hK hP 2 rfl k27 (lf_x_image0_6 knameF k27 n31 y37 t3 t4 j29 hm33 c34 e38) (by decide) y37 e38.symm dX12_image_72 ?_
                refine r_last (x := y37) hx hb hK hP hD hS 4 rfl (0 + k27) (lf_x_image0_7 knameF k27 n31 y37 t3 t4 j29 hm33 c34 e38) (by decide) dX12_image_73 (fun H locs hP hD hS => ?_)
                obtain ⟨g39, e40⟩ : ∃ z9, z9 = vp_updL f28 (0 + k27) y37 := ⟨_, rfl⟩
                rw [← e40] at hP hD
                have hP : va_P (dC, dI) vwCl [(o, .inr (12, [.int (nI 0), .ref ktape, .int (nI ktaped), .int (nI ksize), .int (nI klimit), .int (nI kto), .int (nI kfrom), .int kkind, .int knumber, .int ksign, .int kfault, .int kplace, .long kword, .int ktold, .ref know, .ref kread, .ref kkept, .ref ksnaps, .ref kaside, .ref kname, .ref kreadName, .ref kkeptName, .ref kisKept, .ref konces, .int (nI ksnapMany), .int khasCells, .ref kpoured, .ref kfar, .ref ksides, .int (nI ksideMany), .int kwayDays, .int khasWay, .ref klines, .ref kmet, .int (nI kmetMany), .ref ksunk, .ref ktrying, .int (nI ksunkMany), .int ksending, .int kfleets, .ref ktext, .int (nI ktexts), .int kseed, .ref kline, .ref kwritten, .int (nI klineMany), .int khasWritten, .ref knode, .int (nI knodes), .int (nI konesMany), .int (nI kwithin), .int (nI ktop)])), (know, .inl (ky 0, 373, .inl knowF)), (kname, .inl (ky 1, 12, .inr (.inl knameF))), (kkept, .inl (ky 0, 746, .inl f14)), (kkeptName, .inl (ky 1, 24, .inr (.inl g39))), (kisKept, .inl (ky 3, 2, .inl kisKeptF))] H := hP
                have hD : va_D A [(o, .inr (12, [.int (nI 0), .ref ktape, .int (nI ktaped), .int (nI ksize), .int (nI klimit), .int (nI kto), .int (nI kfrom), .int kkind, .int knumber, .int ksign, .int kfault, .int kplace, .long kword, .int ktold, .ref know, .ref kread, .ref kkept, .ref ksnaps, .ref kaside, .ref kname, .ref kreadName, .ref kkeptName, .ref kisKept, .ref konces, .int (nI ksnapMany), .int khasCells, .ref kpoured, .ref kfar, .ref ksides, .int (nI ksideMany), .int kwayDays, .int khasWay, .ref klines, .ref kmet, .int (nI kmetMany), .ref ksunk, .ref ktrying, .int (nI ksunkMany), .int ksending, .int kfleets, .ref ktext, .int (nI ktexts), .int kseed, .ref kline, .ref kwritten, .int (nI klineMany), .int khasWritten, .ref knode, .int (nI knodes), .int (nI konesMany), .int (nI kwithin), .int (nI ktop)])), (know, .inl (ky 0, 373, .inl knowF)), (kname, .inl (ky 1, 12, .inr (.inl knameF))), (kkept, .inl (ky 0, 746, .inl f14)), (kkeptName, .inl (ky 1, 24, .inr (.inl g39))), (kisKept, .inl (ky 3, 2, .inl kisKeptF))] := hD
                refine lv_iinc (v := nI (k27 + 1)) (lv' := [(2, .int (nI (k27 + 1))), (0, .ref o), (1, .int (nI 0))]) hx hb dX12_image_74 hl (k := 0) rfl (show nI k27 + nI 1 = nI (k27 + 1) from nI_add _ _) (by decide) rfl (fun ls hl => ?_)
                refine lv_goto (tgt := 51) hx hb dX12_image_77 (by decide) ?_
                exact ih32 (k27 + 1) g39 (lf_x_image0_8 knameF k27 n31 y37 t3 t4 j29 hm33 c34 e38) (lf_x_image0_9 knameF k27 n31 y37 t3 t4 j29 hm33 c34 e38) _ _ _ hP hD hS (lv_sub hl [0, 1, 2] rfl)
          exact hL30 ((12 - 0) + 1) 0 kkeptNameF (lf_x_image0_10 t3 t4) (Nat.lt_succ_self _) _ _ _ hP hD hS (lv_sub hl [0, 1, 2] rfl)
        · refine lv_aload_n hx hb dX12_image_25 rfl (lv_at hl 1 rfl) ?_
          refine va_get (D := (dC, dI)) (ci := 12) (v := .ref kkept) (C := RX12) (T := TX12) (N := 52) hx hb hts hin12 hown hK hP 0 rfl rfl 16 (by decide) (hts (.fieldLink RX12 104 "PorridgeSeaModel" "kept" "[I") (List.mem_of_getElem? (i := 2) rfl)) (fun _ h9 => h9) rfl dX12_image_26 ?_
          refine lv_sipush (v := nI 373) hx hb dX12_image_29 (by decide) ?_
          refine lv_iload_n hx hb dX12_image_32 rfl (lv_at hl 2 rfl) ?_
          refine lv_imul hx hb dX12_image_33 ?_
          refine r_ti (nI 0) (by decide) ?_
          refine lv_iload_n hx hb dX12_image_34 rfl (lv_at hl 0 rfl) ?_
          refine lv_iadd hx hb dX12_image_35 ?_
          refine r_ti (nI (0 + k13)) (nI_add _ _) ?_
          refine lv_aload_n hx hb dX12_image_36 rfl (lv_at hl 1 rfl) ?_
          refine va_get (D := (dC, dI)) (ci := 12) (v := .ref know) (C := RX12) (T := TX12) (N := 52) hx hb hts hin12 hown hK hP 0 rfl rfl 14 (by decide) (hts (.fieldLink RX12 98 "PorridgeSeaModel" "now" "[I") (List.mem_of_getElem? (i := 3) rfl)) (fun _ h9 => h9) rfl dX12_image_37 ?_
          refine lv_iload_n hx hb dX12_image_40 rfl (lv_at hl 0 rfl) ?_
          obtain ⟨y41, e42⟩ : ∃ z9, z9 = knowF k13 := ⟨_, rfl⟩
          refine r_iald hx hb hK hP 1 rfl k13 (lf_x_image0_11 knowF kkeptF kisKeptF k13 f14 n17 y41 ab_now sb_now kb0 kb1 t3 t4 j15 hpre hout hm19 c20 e42) (by decide) y41 e42.symm dX12_image_41 ?_
          refine r_iast (x := y41) hx hb hK hP hD hS 3 rfl (0 + k13) (lf_x_image0_12 knowF kkeptF kisKeptF k13 f14 n17 y41 ab_now sb_now kb0 kb1 t3 t4 j15 hpre hout hm19 c20 e42) (by decide) dX12_image_42 (fun H locs hP hD hS => ?_)
          obtain ⟨g43, e44⟩ : ∃ z9, z9 = upd f14 (0 + k13) y41 := ⟨_, rfl⟩
          rw [← e44] at hP hD
          have hP : va_P (dC, dI) vwCl [(o, .inr (12, [.int (nI 0), .ref ktape, .int (nI ktaped), .int (nI ksize), .int (nI klimit), .int (nI kto), .int (nI kfrom), .int kkind, .int knumber, .int ksign, .int kfault, .int kplace, .long kword, .int ktold, .ref know, .ref kread, .ref kkept, .ref ksnaps, .ref kaside, .ref kname, .ref kreadName, .ref kkeptName, .ref kisKept, .ref konces, .int (nI ksnapMany), .int khasCells, .ref kpoured, .ref kfar, .ref ksides, .int (nI ksideMany), .int kwayDays, .int khasWay, .ref klines, .ref kmet, .int (nI kmetMany), .ref ksunk, .ref ktrying, .int (nI ksunkMany), .int ksending, .int kfleets, .ref ktext, .int (nI ktexts), .int kseed, .ref kline, .ref kwritten, .int (nI klineMany), .int khasWritten, .ref knode, .int (nI knodes), .int (nI konesMany), .int (nI kwithin), .int (nI ktop)])), (know, .inl (ky 0, 373, .inl knowF)), (kname, .inl (ky 1, 12, .inr (.inl knameF))), (kkept, .inl (ky 0, 746, .inl g43)), (kkeptName, .inl (ky 1, 24, .inr (.inl kkeptNameF))), (kisKept, .inl (ky 3, 2, .inl kisKeptF))] H := hP
          have hD : va_D A [(o, .inr (12, [.int (nI 0), .ref ktape, .int (nI ktaped), .int (nI ksize), .int (nI klimit), .int (nI kto), .int (nI kfrom), .int kkind, .int knumber, .int ksign, .int kfault, .int kplace, .long kword, .int ktold, .ref know, .ref kread, .ref kkept, .ref ksnaps, .ref kaside, .ref kname, .ref kreadName, .ref kkeptName, .ref kisKept, .ref konces, .int (nI ksnapMany), .int khasCells, .ref kpoured, .ref kfar, .ref ksides, .int (nI ksideMany), .int kwayDays, .int khasWay, .ref klines, .ref kmet, .int (nI kmetMany), .ref ksunk, .ref ktrying, .int (nI ksunkMany), .int ksending, .int kfleets, .ref ktext, .int (nI ktexts), .int kseed, .ref kline, .ref kwritten, .int (nI klineMany), .int khasWritten, .ref knode, .int (nI knodes), .int (nI konesMany), .int (nI kwithin), .int (nI ktop)])), (know, .inl (ky 0, 373, .inl knowF)), (kname, .inl (ky 1, 12, .inr (.inl knameF))), (kkept, .inl (ky 0, 746, .inl g43)), (kkeptName, .inl (ky 1, 24, .inr (.inl kkeptNameF))), (kisKept, .inl (ky 3, 2, .inl kisKeptF))] := hD
          refine lv_iinc (v := nI (k13 + 1)) (lv' := [(2, .int (nI (k13 + 1))), (0, .ref o), (1, .int (nI 0))]) hx hb dX12_image_43 hl (k := 0) rfl (show nI k13 + nI 1 = nI (k13 + 1) from nI_add _ _) (by decide) rfl (fun ls hl => ?_)
          refine lv_goto (tgt := 18) hx hb dX12_image_46 (by decide) ?_
          exact ih18 (k13 + 1) g43 (lf_x_image0_13 knowF kkeptF kisKeptF k13 f14 n17 y41 g43 ab_now sb_now kb0 kb1 t3 t4 j15 hpre hout hm19 c20 e42 e44) (lf_x_image0_14 knowF kkeptF kisKeptF k13 f14 n17 y41 g43 ab_now sb_now kb0 kb1 t3 t4 j15 hpre hout hm19 c20 e42 e44) (lf_x_image0_15 knowF kkeptF kisKeptF k13 f14 n17 y41 g43 ab_now sb_now kb0 kb1 t3 t4 j15 hpre hout hm19 c20 e42 e44) (lf_x_image0_16 knowF kkeptF kisKeptF k13 f14 n17 y41 g43 ab_now sb_now kb0 kb1 t3 t4 j15 hpre hout hm19 c20 e42 e44) _ _ _ hP hD hS (lv_sub hl [0, 1, 2] rfl)
    exact hL16 ((373 - 0) + 1) 0 kkeptF (lf_x_image0_17 t3 t4) (lf_x_image0_18 knowF kkeptF kisKeptF ab_now sb_now kb0 kb1 t3 t4) (lf_x_image0_19 kkeptF kisKeptF kb0 kb1 t3 t4) (Nat.lt_succ_self _) _ _ _ hP hD hS (lv_sub hl [0, 1, 2] rfl)
  · refine lv_if_ne (tgt := 16) hx hb dX12_image_11 (by decide) (fun c45 => absurd c45 (by decide)) (fun c45 => ?_)
    exact ((lf_x_image0_20 ktaped ksize klimit kto kfrom ksnapMany ksideMany kmetMany ksunkMany ktexts klineMany knodes konesMany kwithin ktop knowF kkeptF kisKeptF iv_ko_0 iv_ko_1 iv_ko_2 iv_ko_3 iv_ko_4 iv_ko_5 iv_ko_6 iv_ko_7 iv_ko_8 iv_ko_9 iv_ko_10 iv_ko_11 iv_ko_12 iv_ko_13 iv_ko_14 ab_now sb_now kb0 kb1 t5)).elim
set_option maxRecDepth 20000 in
theorem lf_x_image1_1  (t3 : (nI 0).toInt ≤ (nI 1).toInt) (t4 : (nI 1).toInt ≤ (nI 1).toInt) : (nI 1) = nI 1 := by
  try have k_0 := ia_n 0 (by first | decide | omega)
  try have k_1 := ia_n 1 (by first | decide | omega)
  try simp only [ia_lt, ia_le, ia_eq, ia_m1, ia_0, ia_1, ne_eq, true_and, and_true, false_and, and_false, or_false, false_or, or_true, true_or, not_true_eq_false, not_false_eq_true] at *
  all_goals omega
set_option maxRecDepth 20000 in
theorem lf_x_image1_2 (knowF : Nat → Int32) (kkeptF : Nat → Int32) (kisKeptF : Nat → Int32) (k13 : Nat) (f14 : Nat → Int32) (n17 : Nat) (g35 : Nat → Int32) (ab_now : NB knowF) (sb_now : SB knowF) (kb0 : KBf kkeptF kisKeptF 0) (kb1 : KBf kkeptF kisKeptF 1) (t3 : (nI 0).toInt ≤ (nI 1).toInt) (t4 : (nI 1).toInt ≤ (nI 1).toInt) (j15 : k13 ≤ 373) (hpre : ∀ j9, j9 < k13 → f14 (373 + j9) = knowF j9) (hout : ∀ j9, j9 < 373 → f14 j9 = kkeptF j9) (hm19 : 373 - k13 < n17 + 1) (c20 : 373 ≤ k13) (e36 : g35 = upd kisKeptF 1 (vp_nar .boolean (nI 1))) : KBf f14 g35 1 := by
  exact KB_new ab_now sb_now (fun j h => hpre j (by omega))
set_option maxRecDepth 20000 in
theorem lf_x_image1_3 (knowF : Nat → Int32) (kkeptF : Nat → Int32) (kisKeptF : Nat → Int32) (k13 : Nat) (f14 : Nat → Int32) (n17 : Nat) (g35 : Nat → Int32) (ab_now : NB knowF) (sb_now : SB knowF) (kb0 : KBf kkeptF kisKeptF 0) (kb1 : KBf kkeptF kisKeptF 1) (t3 : (nI 0).toInt ≤ (nI 1).toInt) (t4 : (nI 1).toInt ≤ (nI 1).toInt) (j15 : k13 ≤ 373) (hpre : ∀ j9, j9 < k13 → f14 (373 + j9) = knowF j9) (hout : ∀ j9, j9 < 373 → f14 j9 = kkeptF j9) (hm19 : 373 - k13 < n17 + 1) (c20 : 373 ≤ k13) (e36 : g35 = upd kisKeptF 1 (vp_nar .boolean (nI 1))) : KBf f14 g35 0 := by
  exact KB_old kb0 (by rw [e36, upd_ne (by omega)]) (fun j h => hout _ (by omega))
set_option maxRecDepth 20000 in
theorem lf_x_image1_4 (knowF : Nat → Int32) (kkeptF : Nat → Int32) (kisKeptF : Nat → Int32) (k13 : Nat) (f14 : Nat → Int32) (n17 : Nat) (g35 : Nat → Int32) (ab_now : NB knowF) (sb_now : SB knowF) (kb0 : KBf kkeptF kisKeptF 0) (kb1 : KBf kkeptF kisKeptF 1) (t3 : (nI 0).toInt ≤ (nI 1).toInt) (t4 : (nI 1).toInt ≤ (nI 1).toInt) (j15 : k13 ≤ 373) (hpre : ∀ j9, j9 < k13 → f14 (373 + j9) = knowF j9) (hout : ∀ j9, j9 < 373 → f14 j9 = kkeptF j9) (hm19 : 373 - k13 < n17 + 1) (c20 : 373 ≤ k13) (e36 : g35 = upd kisKeptF 1 (vp_nar .boolean (nI 1))) : g35 1 ≠ 0 := by
  rw [e36, upd_eq, nar1]; decide
set_option maxRecDepth 20000 in
theorem lf_x_image1_5 (knowF : Nat → Int32) (kkeptF : Nat → Int32) (kisKeptF : Nat → Int32) (k13 : Nat) (f14 : Nat → Int32) (n17 : Nat) (g35 : Nat → Int32) (ab_now : NB knowF) (sb_now : SB knowF) (kb0 : KBf kkeptF kisKeptF 0) (kb1 : KBf kkeptF kisKeptF 1) (t3 : (nI 0).toInt ≤ (nI 1).toInt) (t4 : (nI 1).toInt ≤ (nI 1).toInt) (j15 : k13 ≤ 373) (hpre : ∀ j9, j9 < k13 → f14 (373 + j9) = knowF j9) (hout : ∀ j9, j9 < 373 → f14 j9 = kkeptF j9) (hm19 : 373 - k13 < n17 + 1) (c20 : 373 ≤ k13) (e36 : g35 = upd kisKeptF 1 (vp_nar .boolean (nI 1))) : g35 0 = kisKeptF 0 := by
  rw [e36, upd_ne (by omega)]
set_option maxRecDepth 20000 in
theorem lf_x_image1_6 (knameF : Nat → Int64) (k27 : Nat) (n31 : Nat) (y37 : Int64) (t3 : (nI 0).toInt ≤ (nI 1).toInt) (t4 : (nI 1).toInt ≤ (nI 1).toInt) (j29 : k27 ≤ 12) (hm33 : 12 - k27 < n31 + 1) (c34 : k27 < 12) (e38 : y37 = knameF k27) : k27 < 12 := by
  have b_y37 := Int64.toInt_lt y37
  try have k_0 := ia_n 0 (by first | decide | omega)
  try have k_1 := ia_n 1 (by first | decide | omega)
  try simp only [ia_lt, ia_le, ia_eq, ia_m1, ia_0, ia_1, ne_eq, true_and, and_true, false_and, and_false, or_false, false_or, or_true, true_or, not_true_eq_false, not_false_eq_true] at *
  all_goals omega
set_option maxRecDepth 20000 in
theorem lf_x_image1_7 (knameF : Nat → Int64) (k27 : Nat) (n31 : Nat) (y37 : Int64) (t3 : (nI 0).toInt ≤ (nI 1).toInt) (t4 : (nI 1).toInt ≤ (nI 1).toInt) (j29 : k27 ≤ 12) (hm33 : 12 - k27 < n31 + 1) (c34 : k27 < 12) (e38 : y37 = knameF k27) : (12 + k27) < 24 := by
  have b_y37 := Int64.toInt_lt y37
  try have k_0 := ia_n 0 (by first | decide | omega)
  try have k_1 := ia_n 1 (by first | decide | omega)
  try simp only [ia_lt, ia_le, ia_eq, ia_m1, ia_0, ia_1, ne_eq, true_and, and_true, false_and, and_false, or_false, false_or, or_true, true_or, not_true_eq_false, not_false_eq_true] at *
  all_goals omega
set_option maxRecDepth 20000 in
theorem lf_x_image1_8 (knameF : Nat → Int64) (k27 : Nat) (n31 : Nat) (y37 : Int64) (t3 : (nI 0).toInt ≤ (nI 1).toInt) (t4 : (nI 1).toInt ≤ (nI 1).toInt) (j29 : k27 ≤ 12) (hm33 : 12 - k27 < n31 + 1) (c34 : k27 < 12) (e38 : y37 = knameF k27) : (k27 + 1) ≤ 12 := by
  have b_y37 := Int64.toInt_lt y37
  try have k_0 := ia_n 0 (by first | decide | omega)
  try have k_1 := ia_n 1 (by first | decide | omega)
  try simp only [ia_lt, ia_le, ia_eq, ia_m1, ia_0, ia_1, ne_eq, true_and, and_true, false_and, and_false, or_false, false_or, or_true, true_or, not_true_eq_false, not_false_eq_true] at *
  all_goals omega
set_option maxRecDepth 20000 in
theorem lf_x_image1_9 (knameF : Nat → Int64) (k27 : Nat) (n31 : Nat) (y37 : Int64) (t3 : (nI 0).toInt ≤ (nI 1).toInt) (t4 : (nI 1).toInt ≤ (nI 1).toInt) (j29 : k27 ≤ 12) (hm33 : 12 - k27 < n31 + 1) (c34 : k27 < 12) (e38 : y37 = knameF k27) : 12 - (k27 + 1) < n31 := by
  have b_y37 := Int64.toInt_lt y37
  try have k_0 := ia_n 0 (by first | decide | omega)
  try have k_1 := ia_n 1 (by first | decide | omega)
  try simp only [ia_lt, ia_le, ia_eq, ia_m1, ia_0, ia_1, ne_eq, true_and, and_true, false_and, and_false, or_false, false_or, or_true, true_or, not_true_eq_false, not_false_eq_true] at *
  all_goals omega
set_option maxRecDepth 20000 in
theorem lf_x_image1_10  (t3 : (nI 0).toInt ≤ (nI 1).toInt) (t4 : (nI 1).toInt ≤ (nI 1).toInt) : 0 ≤ 12 := by
  try have k_0 := ia_n 0 (by first | decide | omega)
  try have k_1 := ia_n 1 (by first | decide | omega)
  try simp only [ia_lt, ia_le, ia_eq, ia_m1, ia_0, ia_1, ne_eq, true_and, and_true, false_and, and_false, or_false, false_or, or_true, true_or, not_true_eq_false, not_false_eq_true] at *
  all_goals omega
set_option maxRecDepth 20000 in
theorem lf_x_image1_11 (knowF : Nat → Int32) (kkeptF : Nat → Int32) (kisKeptF : Nat → Int32) (k13 : Nat) (f14 : Nat → Int32) (n17 : Nat) (y41 : Int32) (ab_now : NB knowF) (sb_now : SB knowF) (kb0 : KBf kkeptF kisKeptF 0) (kb1 : KBf kkeptF kisKeptF 1) (t3 : (nI 0).toInt ≤ (nI 1).toInt) (t4 : (nI 1).toInt ≤ (nI 1).toInt) (j15 : k13 ≤ 373) (hpre : ∀ j9, j9 < k13 → f14 (373 + j9) = knowF j9) (hout : ∀ j9, j9 < 373 → f14 j9 = kkeptF j9) (hm19 : 373 - k13 < n17 + 1) (c20 : k13 < 373) (e42 : y41 = knowF k13) : k13 < 373 := by
  have b_y41 := ia_b y41
  try have k_0 := ia_n 0 (by first | decide | omega)
  try have k_1 := ia_n 1 (by first | decide | omega)
  try simp only [ia_lt, ia_le, ia_eq, ia_m1, ia_0, ia_1, ne_eq, true_and, and_true, false_and, and_false, or_false, false_or, or_true, true_or, not_true_eq_false, not_false_eq_true] at *
  all_goals omega
set_option maxRecDepth 20000 in
theorem lf_x_image1_12 (knowF : Nat → Int32) (kkeptF : Nat → Int32) (kisKeptF : Nat → Int32) (k13 : Nat) (f14 : Nat → Int32) (n17 : Nat) (y41 : Int32) (ab_now : NB knowF) (sb_now : SB knowF) (kb0 : KBf kkeptF kisKeptF 0) (kb1 : KBf kkeptF kisKeptF 1) (t3 : (nI 0).toInt ≤ (nI 1).toInt) (t4 : (nI 1).toInt ≤ (nI 1).toInt) (j15 : k13 ≤ 373) (hpre : ∀ j9, j9 < k13 → f14 (373 + j9) = knowF j9) (hout : ∀ j9, j9 < 373 → f14 j9 = kkeptF j9) (hm19 : 373 - k13 < n17 + 1) (c20 : k13 < 373) (e42 : y41 = knowF k13) : (373 + k13) < 746 := by
  have b_y41 := ia_b y41
  try have k_0 := ia_n 0 (by first | decide | omega)
  try have k_1 := ia_n 1 (by first | decide | omega)
  try simp only [ia_lt, ia_le, ia_eq, ia_m1, ia_0, ia_1, ne_eq, true_and, and_true, false_and, and_false, or_false, false_or, or_true, true_or, not_true_eq_false, not_false_eq_true] at *
  all_goals omega
set_option maxRecDepth 20000 in
theorem lf_x_image1_13 (knowF : Nat → Int32) (kkeptF : Nat → Int32) (kisKeptF : Nat → Int32) (k13 : Nat) (f14 : Nat → Int32) (n17 : Nat) (y41 : Int32) (g43 : Nat → Int32) (ab_now : NB knowF) (sb_now : SB knowF) (kb0 : KBf kkeptF kisKeptF 0) (kb1 : KBf kkeptF kisKeptF 1) (t3 : (nI 0).toInt ≤ (nI 1).toInt) (t4 : (nI 1).toInt ≤ (nI 1).toInt) (j15 : k13 ≤ 373) (hpre : ∀ j9, j9 < k13 → f14 (373 + j9) = knowF j9) (hout : ∀ j9, j9 < 373 → f14 j9 = kkeptF j9) (hm19 : 373 - k13 < n17 + 1) (c20 : k13 < 373) (e42 : y41 = knowF k13) (e44 : g43 = upd f14 (373 + k13) y41) : (k13 + 1) ≤ 373 := by
  have b_y41 := ia_b y41
  try have k_0 := ia_n 0 (by first | decide | omega)
  try have k_1 := ia_n 1 (by first | decide | omega)
  try simp only [ia_lt, ia_le, ia_eq, ia_m1, ia_0, ia_1, ne_eq, true_and, and_true, false_and, and_false, or_false, false_or, or_true, true_or, not_true_eq_false, not_false_eq_true] at *
  all_goals omega
set_option maxRecDepth 20000 in
theorem lf_x_image1_14 (knowF : Nat → Int32) (kkeptF : Nat → Int32) (kisKeptF : Nat → Int32) (k13 : Nat) (f14 : Nat → Int32) (n17 : Nat) (y41 : Int32) (g43 : Nat → Int32) (ab_now : NB knowF) (sb_now : SB knowF) (kb0 : KBf kkeptF kisKeptF 0) (kb1 : KBf kkeptF kisKeptF 1) (t3 : (nI 0).toInt ≤ (nI 1).toInt) (t4 : (nI 1).toInt ≤ (nI 1).toInt) (j15 : k13 ≤ 373) (hpre : ∀ j9, j9 < k13 → f14 (373 + j9) = knowF j9) (hout : ∀ j9, j9 < 373 → f14 j9 = kkeptF j9) (hm19 : 373 - k13 < n17 + 1) (c20 : k13 < 373) (e42 : y41 = knowF k13) (e44 : g43 = upd f14 (373 + k13) y41) : ∀ j9, j9 < (k13 + 1) → g43 (373 + j9) = knowF j9 := by
  intro j9 hj9
  by_cases h9 : j9 = k13
  · rw [h9, e44, upd_eq]; exact e42
  · rw [e44, upd_ne (by omega)]; exact hpre j9 (by omega)
set_option maxRecDepth 20000 in
theorem lf_x_image1_15 (knowF : Nat → Int32) (kkeptF : Nat → Int32) (kisKeptF : Nat → Int32) (k13 : Nat) (f14 : Nat → Int32) (n17 : Nat) (y41 : Int32) (g43 : Nat → Int32) (ab_now : NB knowF) (sb_now : SB knowF) (kb0 : KBf kkeptF kisKeptF 0) (kb1 : KBf kkeptF kisKeptF 1) (t3 : (nI 0).toInt ≤ (nI 1).toInt) (t4 : (nI 1).toInt ≤ (nI 1).toInt) (j15 : k13 ≤ 373) (hpre : ∀ j9, j9 < k13 → f14 (373 + j9) = knowF j9) (hout : ∀ j9, j9 < 373 → f14 j9 = kkeptF j9) (hm19 : 373 - k13 < n17 + 1) (c20 : k13 < 373) (e42 : y41 = knowF k13) (e44 : g43 = upd f14 (373 + k13) y41) : ∀ j9, j9 < 373 → g43 j9 = kkeptF j9 := by
  intro j9 hj9
  rw [e44, upd_ne (by omega)]; exact hout j9 hj9
set_option maxRecDepth 20000 in
theorem lf_x_image1_16 (knowF : Nat → Int32) (kkeptF : Nat → Int32) (kisKeptF : Nat → Int32) (k13 : Nat) (f14 : Nat → Int32) (n17 : Nat) (y41 : Int32) (g43 : Nat → Int32) (ab_now : NB knowF) (sb_now : SB knowF) (kb0 : KBf kkeptF kisKeptF 0) (kb1 : KBf kkeptF kisKeptF 1) (t3 : (nI 0).toInt ≤ (nI 1).toInt) (t4 : (nI 1).toInt ≤ (nI 1).toInt) (j15 : k13 ≤ 373) (hpre : ∀ j9, j9 < k13 → f14 (373 + j9) = knowF j9) (hout : ∀ j9, j9 < 373 → f14 j9 = kkeptF j9) (hm19 : 373 - k13 < n17 + 1) (c20 : k13 < 373) (e42 : y41 = knowF k13) (e44 : g43 = upd f14 (373 + k13) y41) : 373 - (k13 + 1) < n17 := by
  have b_y41 := ia_b y41
  try have k_0 := ia_n 0 (by first | decide | omega)
  try have k_1 := ia_n 1 (by first | decide | omega)
  try simp only [ia_lt, ia_le, ia_eq, ia_m1, ia_0, ia_1, ne_eq, true_and, and_true, false_and, and_false, or_false, false_or, or_true, true_or, not_true_eq_false, not_false_eq_true] at *
  all_goals omega
set_option maxRecDepth 20000 in
theorem lf_x_image1_17  (t3 : (nI 0).toInt ≤ (nI 1).toInt) (t4 : (nI 1).toInt ≤ (nI 1).toInt) : 0 ≤ 373 := by
  try have k_0 := ia_n 0 (by first | decide | omega)
  try have k_1 := ia_n 1 (by first | decide | omega)
  try simp only [ia_lt, ia_le, ia_eq, ia_m1, ia_0, ia_1, ne_eq, true_and, and_true, false_and, and_false, or_false, false_or, or_true, true_or, not_true_eq_false, not_false_eq_true] at *
  all_goals omega
set_option maxRecDepth 20000 in
theorem lf_x_image1_18 (knowF : Nat → Int32) (kkeptF : Nat → Int32) (kisKeptF : Nat → Int32) (ab_now : NB knowF) (sb_now : SB knowF) (kb0 : KBf kkeptF kisKeptF 0) (kb1 : KBf kkeptF kisKeptF 1) (t3 : (nI 0).toInt ≤ (nI 1).toInt) (t4 : (nI 1).toInt ≤ (nI 1).toInt) : ∀ j9, j9 < 0 → kkeptF (373 + j9) = knowF j9 := by
  intro j9 hj9
  omega
set_option maxRecDepth 20000 in
theorem lf_x_image1_19 (kkeptF : Nat → Int32) (kisKeptF : Nat → Int32) (kb0 : KBf kkeptF kisKeptF 0) (kb1 : KBf kkeptF kisKeptF 1) (t3 : (nI 0).toInt ≤ (nI 1).toInt) (t4 : (nI 1).toInt ≤ (nI 1).toInt) : ∀ j9, j9 < 373 → kkeptF j9 = kkeptF j9 := by
  intro j9 hj9
  rfl
set_option maxRecDepth 20000 in
theorem lf_x_image1_20 (ktaped : Nat) (ksize : Nat) (klimit : Nat) (kto : Nat) (kfrom : Nat) (ksnapMany : Nat) (ksideMany : Nat) (kmetMany : Nat) (ksunkMany : Nat) (ktexts : Nat) (klineMany : Nat) (knodes : Nat) (konesMany : Nat) (kwithin : Nat) (ktop : Nat) (knowF : Nat → Int32) (kkeptF : Nat → Int32) (kisKeptF : Nat → Int32) (iv_ko_0 : ktaped ≤ 940) (iv_ko_1 : ksize ≤ 940) (iv_ko_2 : klimit ≤ 900) (iv_ko_3 : kto ≤ ksize) (iv_ko_4 : kfrom ≤ 940) (iv_ko_5 : ksnapMany ≤ 8) (iv_ko_6 : ksideMany ≤ 36) (iv_ko_7 : kmetMany ≤ 3) (iv_ko_8 : ksunkMany ≤ 36) (iv_ko_9 : ktexts ≤ 64) (iv_ko_10 : klineMany ≤ 40) (iv_ko_11 : knodes ≤ 60) (iv_ko_12 : konesMany ≤ 20) (iv_ko_13 : kwithin ≤ 8) (iv_ko_14 : ktop ≤ 59) (ab_now : NB knowF) (sb_now : SB knowF) (kb0 : KBf kkeptF kisKeptF 0) (kb1 : KBf kkeptF kisKeptF 1) (t5 : ¬ ((nI 0).toInt ≤ (nI 1).toInt ∧ (nI 1).toInt ≤ (nI 1).toInt)) : False := by
  try have k_0 := ia_n 0 (by first | decide | omega)
  try have k_1 := ia_n 1 (by first | decide | omega)
  try simp only [ia_lt, ia_le, ia_eq, ia_m1, ia_0, ia_1, ne_eq, true_and, and_true, false_and, and_false, or_false, false_or, or_true, true_or, not_true_eq_false, not_false_eq_true] at *
  all_goals omega
set_option maxHeartbeats 4000000 in
set_option maxRecDepth 100000 in
theorem c_x_image1 (l : Launch) (dC : Nat → ClassId) (dI : Nat → Nat → Nat) (ky : Nat → ClassId) (sz : Nat) (o : Nat) (kthrown : Int32) (ktape : Nat) (ktaped : Nat) (ksize : Nat) (klimit : Nat) (kto : Nat) (kfrom : Nat) (kkind : Int32) (knumber : Int32) (ksign : Int32) (kfault : Int32) (kplace : Int32) (kword : Int64) (ktold : Int32) (know : Nat) (kread : Nat) (kkept : Nat) (ksnaps : Nat) (kaside : Nat) (kname : Nat) (kreadName : Nat) (kkeptName : Nat) (kisKept : Nat) (konces : Nat) (ksnapMany : Nat) (khasCells : Int32) (kpoured : Nat) (kfar : Nat) (ksides : Nat) (ksideMany : Nat) (kwayDays : Int32) (khasWay : Int32) (klines : Nat) (kmet : Nat) (kmetMany : Nat) (ksunk : Nat) (ktrying : Nat) (ksunkMany : Nat) (ksending : Int32) (kfleets : Int32) (ktext : Nat) (ktexts : Nat) (kseed : Int32) (kline : Nat) (kwritten : Nat) (klineMany : Nat) (khasWritten : Int32) (knode : Nat) (knodes : Nat) (konesMany : Nat) (kwithin : Nat) (ktop : Nat) (knowF : Nat → Int32) (knameF : Nat → Int64) (kkeptF : Nat → Int32) (kkeptNameF : Nat → Int64) (kisKeptF : Nat → Int32) (iv_ko_0 : ktaped ≤ 940) (iv_ko_1 : ksize ≤ 940) (iv_ko_2 : klimit ≤ 900) (iv_ko_3 : kto ≤ ksize) (iv_ko_4 : kfrom ≤ 940) (iv_ko_5 : ksnapMany ≤ 8) (iv_ko_6 : ksideMany ≤ 36) (iv_ko_7 : kmetMany ≤ 3) (iv_ko_8 : ksunkMany ≤ 36) (iv_ko_9 : ktexts ≤ 64) (iv_ko_10 : klineMany ≤ 40) (iv_ko_11 : knodes ≤ 60) (iv_ko_12 : konesMany ≤ 20) (iv_ko_13 : kwithin ≤ 8) (iv_ko_14 : ktop ≤ 59) (ab_now : NB knowF) (sb_now : SB knowF) (kb0 : KBf kkeptF kisKeptF 0) (kb1 : KBf kkeptF kisKeptF 1) : Met l yX12_image wsX12_image ({ frames := 1, cells := 0, slots := 0, locals := 22 }) (PcU dC dI ky [.ref o, .int (nI 1)] [(o, .inr (12, [.int kthrown, .ref ktape, .int (nI ktaped), .int (nI ksize), .int (nI klimit), .int (nI kto), .int (nI kfrom), .int kkind, .int knumber, .int ksign, .int kfault, .int kplace, .long kword, .int ktold, .ref know, .ref kread, .ref kkept, .ref ksnaps, .ref kaside, .ref kname, .ref kreadName, .ref kkeptName, .ref kisKept, .ref konces, .int (nI ksnapMany), .int khasCells, .ref kpoured, .ref kfar, .ref ksides, .int (nI ksideMany), .int kwayDays, .int khasWay, .ref klines, .ref kmet, .int (nI kmetMany), .ref ksunk, .ref ktrying, .int (nI ksunkMany), .int ksending, .int kfleets, .ref ktext, .int (nI ktexts), .int kseed, .ref kline, .ref kwritten, .int (nI klineMany), .int khasWritten, .ref knode, .int (nI knodes), .int (nI konesMany), .int (nI kwithin), .int (nI ktop)])), (know, .inl (ky 0, 373, .inl knowF)), (kname, .inl (ky 1, 12, .inr (.inl knameF))), (kkept, .inl (ky 0, 746, .inl kkeptF)), (kkeptName, .inl (ky 1, 24, .inr (.inl kkeptNameF))), (kisKept, .inl (ky 3, 2, .inl kisKeptF))] sz) (va_Qi (fun (r : Int32) (u : Int32 × (Nat → Int32) × (Nat → Int64) × (Nat → Int32)) => match u with | (kthrownG, kkeptG, kkeptNameG, kisKeptG) => (r = nI 1) ∧ (KBf kkeptG kisKeptG 1) ∧ (KBf kkeptG kisKeptG 0) ∧ (kisKeptG 1 ≠ 0) ∧ (kisKeptG 0 = kisKeptF 0)) (BU dC dI ky (fun (u : Int32 × (Nat → Int32) × (Nat → Int64) × (Nat → Int32)) => match u with | (kthrownG, kkeptG, kkeptNameG, kisKeptG) => [(o, .inr (12, [.int kthrownG, .ref ktape, .int (nI ktaped), .int (nI ksize), .int (nI klimit), .int (nI kto), .int (nI kfrom), .int kkind, .int knumber, .int ksign, .int kfault, .int kplace, .long kword, .int ktold, .ref know, .ref kread, .ref kkept, .ref ksnaps, .ref kaside, .ref kname, .ref kreadName, .ref kkeptName, .ref kisKept, .ref konces, .int (nI ksnapMany), .int khasCells, .ref kpoured, .ref kfar, .ref ksides, .int (nI ksideMany), .int kwayDays, .int khasWay, .ref klines, .ref kmet, .int (nI kmetMany), .ref ksunk, .ref ktrying, .int (nI ksunkMany), .int ksending, .int kfleets, .ref ktext, .int (nI ktexts), .int kseed, .ref kline, .ref kwritten, .int (nI klineMany), .int khasWritten, .ref knode, .int (nI knodes), .int (nI konesMany), .int (nI kwithin), .int (nI ktop)])), (know, .inl (ky 0, 373, .inl knowF)), (kname, .inl (ky 1, 12, .inr (.inl knameF))), (kkept, .inl (ky 0, 746, .inl kkeptG)), (kkeptName, .inl (ky 1, 24, .inr (.inl kkeptNameG))), (kisKept, .inl (ky 3, 2, .inl kisKeptG))]) (va_A [(o, .inr (12, [.int kthrown, .ref ktape, .int (nI ktaped), .int (nI ksize), .int (nI klimit), .int (nI kto), .int (nI kfrom), .int kkind, .int knumber, .int ksign, .int kfault, .int kplace, .long kword, .int ktold, .ref know, .ref kread, .ref kkept, .ref ksnaps, .ref kaside, .ref kname, .ref kreadName, .ref kkeptName, .ref kisKept, .ref konces, .int (nI ksnapMany), .int khasCells, .ref kpoured, .ref kfar, .ref ksides, .int (nI ksideMany), .int kwayDays, .int khasWay, .ref klines, .ref kmet, .int (nI kmetMany), .ref ksunk, .ref ktrying, .int (nI ksunkMany), .int ksending, .int kfleets, .ref ktext, .int (nI ktexts), .int kseed, .ref kline, .ref kwritten, .int (nI klineMany), .int khasWritten, .ref knode, .int (nI knodes), .int (nI konesMany), .int (nI kwithin), .int (nI ktop)])), (know, .inl (ky 0, 373, .inl knowF)), (kname, .inl (ky 1, 12, .inr (.inl knameF))), (kkept, .inl (ky 0, 746, .inl kkeptF)), (kkeptName, .inl (ky 1, 24, .inr (.inl kkeptNameF))), (kisKept, .inl (ky 3, 2, .inl kisKeptF))] sz)) (va_A [(o, .inr (12, [.int kthrown, .ref ktape, .int (nI ktaped), .int (nI ksize), .int (nI klimit), .int (nI kto), .int (nI kfrom), .int kkind, .int knumber, .int ksign, .int kfault, .int kplace, .long kword, .int ktold, .ref know, .ref kread, .ref kkept, .ref ksnaps, .ref kaside, .ref kname, .ref kreadName, .ref kkeptName, .ref kisKept, .ref konces, .int (nI ksnapMany), .int khasCells, .ref kpoured, .ref kfar, .ref ksides, .int (nI ksideMany), .int kwayDays, .int khasWay, .ref klines, .ref kmet, .int (nI kmetMany), .ref ksunk, .ref ktrying, .int (nI ksunkMany), .int ksending, .int kfleets, .ref ktext, .int (nI ktexts), .int kseed, .ref kline, .ref kwritten, .int (nI klineMany), .int khasWritten, .ref knode, .int (nI knodes), .int (nI konesMany), .int (nI kwithin), .int (nI ktop)])), (know, .inl (ky 0, 373, .inl knowF)), (kname, .inl (ky 1, 12, .inr (.inl knameF))), (kkept, .inl (ky 0, 746, .inl kkeptF)), (kkeptName, .inl (ky 1, 24, .inr (.inl kkeptNameF))), (kisKept, .inl (ky 3, 2, .inl kisKeptF))] sz)) 0 0 (va_A [(o, .inr (12, [.int kthrown, .ref ktape, .int (nI ktaped), .int (nI ksize), .int (nI klimit), .int (nI kto), .int (nI kfrom), .int kkind, .int knumber, .int ksign, .int kfault, .int kplace, .long kword, .int ktold, .ref know, .ref kread, .ref kkept, .ref ksnaps, .ref kaside, .ref kname, .ref kreadName, .ref kkeptName, .ref kisKept, .ref konces, .int (nI ksnapMany), .int khasCells, .ref kpoured, .ref kfar, .ref ksides, .int (nI ksideMany), .int kwayDays, .int khasWay, .ref klines, .ref kmet, .int (nI kmetMany), .ref ksunk, .ref ktrying, .int (nI ksunkMany), .int ksending, .int kfleets, .ref ktext, .int (nI ktexts), .int kseed, .ref kline, .ref kwritten, .int (nI klineMany), .int khasWritten, .ref knode, .int (nI knodes), .int (nI konesMany), .int (nI kwithin), .int (nI ktop)])), (know, .inl (ky 0, 373, .inl knowF)), (kname, .inl (ky 1, 12, .inr (.inl knameF))), (kkept, .inl (ky 0, 746, .inl kkeptF)), (kkeptName, .inl (ky 1, 24, .inr (.inl kkeptNameF))), (kisKept, .inl (ky 3, 2, .inl kisKeptF))] sz) := by
  refine Met.ofW (cc := cX12_image) (maxL := 3) (ret := (some .boolean)) (by decide) rfl ?_
  intro p e s m args below meth c s₁ B hml hv
  obtain ⟨rfl, hsz, hP, hK, hD0⟩ := hv
  have hx := B.exec
  have hb := B.bytes
  have hr := B.returns
  have hts := atoms_spec (ws := wsX12_image) B.pre
  have hown : s.vm.findClass RX12 = some m.cls := findClass_of_methodNamed B.named
  have hlocks := B.notSynchronized
  have hin12 : ∀ w ∈ u_ws RX12 TX12 52, w ∈ wsX12_image := by decide +kernel
  subst hsz
  have hD := hD0.self (sz := s.heap.size)
  generalize hAe : va_A [(o, .inr (12, [.int kthrown, .ref ktape, .int (nI ktaped), .int (nI ksize), .int (nI klimit), .int (nI kto), .int (nI kfrom), .int kkind, .int knumber, .int ksign, .int kfault, .int kplace, .long kword, .int ktold, .ref know, .ref kread, .ref kkept, .ref ksnaps, .ref kaside, .ref kname, .ref kreadName, .ref kkeptName, .ref kisKept, .ref konces, .int (nI ksnapMany), .int khasCells, .ref kpoured, .ref kfar, .ref ksides, .int (nI ksideMany), .int kwayDays, .int khasWay, .ref klines, .ref kmet, .int (nI kmetMany), .ref ksunk, .ref ktrying, .int (nI ksunkMany), .int ksending, .int kfleets, .ref ktext, .int (nI ktexts), .int kseed, .ref kline, .ref kwritten, .int (nI klineMany), .int khasWritten, .ref knode, .int (nI knodes), .int (nI konesMany), .int (nI kwithin), .int (nI ktop)])), (know, .inl (ky 0, 373, .inl knowF)), (kname, .inl (ky 1, 12, .inr (.inl knameF))), (kkept, .inl (ky 0, 746, .inl kkeptF)), (kkeptName, .inl (ky 1, 24, .inr (.inl kkeptNameF))), (kisKept, .inl (ky 3, 2, .inl kisKeptF))] s.heap.size = A at hD ⊢
  have hA : ∀ q : Nat, s.heap.size ≤ q → A q := fun q h => by rw [← hAe]; exact Or.inr h
  have hS : va_S A s.heap s.heap [] := va_S.rf
  have hl := lv_entry ([.ref o, .int (nI 1)]) (n := 3) (Nat.le_of_ble_eq_true rfl)
  rw [lg_entry_eq]
  generalize (lg_sl ([.ref o, .int (nI 1)]) ++ List.replicate (3 - (lg_sl ([.ref o, .int (nI 1)])).length) Slot.unset).toArray = ls at hl ⊢
  have hl : lv_has ls 3 [(0, .ref o), (1, .int (nI 1))] := hl
  refine q_name (fun Q hQ => ?_)
  generalize ([.ref o, .int (nI 1)] : List Value).toArray = args at hts hQ ⊢
  refine lv_aload_n hx hb dX12_image_0 rfl (lv_at hl 0 rfl) ?_
  refine lv_iconst (v := nI 0) hx hb dX12_image_1 (by decide) ?_
  refine va_put (D := (dC, dI)) (ci := 12) (v := .int (nI 0)) (ty := .int) (C := RX12) (T := TX12) (N := 52) hx hb hts hin12 tyX12 tyX12_ok nmX12 hown hK hP hD hS 0 rfl rfl 0 (by decide) (hts (.fieldLink RX12 1 "PorridgeSeaModel" "thrown" "I") (List.mem_of_getElem? (i := 1) rfl)) (fun _ h9 => h9) rfl (by decide +kernel) rfl rfl (Nat.le_of_ble_eq_true rfl) dX12_image_2 (fun H locs hP hD hS => ?_)
  have hP : va_P (dC, dI) vwCl [(o, .inr (12, [.int (nI 0), .ref ktape, .int (nI ktaped), .int (nI ksize), .int (nI klimit), .int (nI kto), .int (nI kfrom), .int kkind, .int knumber, .int ksign, .int kfault, .int kplace, .long kword, .int ktold, .ref know, .ref kread, .ref kkept, .ref ksnaps, .ref kaside, .ref kname, .ref kreadName, .ref kkeptName, .ref kisKept, .ref konces, .int (nI ksnapMany), .int khasCells, .ref kpoured, .ref kfar, .ref ksides, .int (nI ksideMany), .int kwayDays, .int khasWay, .ref klines, .ref kmet, .int (nI kmetMany), .ref ksunk, .ref ktrying, .int (nI ksunkMany), .int ksending, .int kfleets, .ref ktext, .int (nI ktexts), .int kseed, .ref kline, .ref kwritten, .int (nI klineMany), .int khasWritten, .ref knode, .int (nI knodes), .int (nI konesMany), .int (nI kwithin), .int (nI ktop)])), (know, .inl (ky 0, 373, .inl knowF)), (kname, .inl (ky 1, 12, .inr (.inl knameF))), (kkept, .inl (ky 0, 746, .inl kkeptF)), (kkeptName, .inl (ky 1, 24, .inr (.inl kkeptNameF))), (kisKept, .inl (ky 3, 2, .inl kisKeptF))] H := hP
  have hD : va_D A [(o, .inr (12, [.int (nI 0), .ref ktape, .int (nI ktaped), .int (nI ksize), .int (nI klimit), .int (nI kto), .int (nI kfrom), .int kkind, .int knumber, .int ksign, .int kfault, .int kplace, .long kword, .int ktold, .ref know, .ref kread, .ref kkept, .ref ksnaps, .ref kaside, .ref kname, .ref kreadName, .ref kkeptName, .ref kisKept, .ref konces, .int (nI ksnapMany), .int khasCells, .ref kpoured, .ref kfar, .ref ksides, .int (nI ksideMany), .int kwayDays, .int khasWay, .ref klines, .ref kmet, .int (nI kmetMany), .ref ksunk, .ref ktrying, .int (nI ksunkMany), .int ksending, .int kfleets, .ref ktext, .int (nI ktexts), .int kseed, .ref kline, .ref kwritten, .int (nI klineMany), .int khasWritten, .ref knode, .int (nI knodes), .int (nI konesMany), .int (nI kwithin), .int (nI ktop)])), (know, .inl (ky 0, 373, .inl knowF)), (kname, .inl (ky 1, 12, .inr (.inl knameF))), (kkept, .inl (ky 0, 746, .inl kkeptF)), (kkeptName, .inl (ky 1, 24, .inr (.inl kkeptNameF))), (kisKept, .inl (ky 3, 2, .inl kisKeptF))] := hD
  refine lv_iload_n hx hb dX12_image_5 rfl (lv_at hl 1 rfl) ?_
  refine lv_iconst (v := nI 0) hx hb dX12_image_6 (by decide) ?_
  refine lv_iconst (v := nI 1) hx hb dX12_image_7 (by decide) ?_
  refine vp_callSi (W.runS (As := [.int (nI 1), .int (nI 0), .int (nI 1)]) (rest := []) ⟨hx, hb, hml, hown, hts⟩ (c_x_isIn l dC dI ky (nI 1) (nI 0) (nI 1)) (va_cwS 3 hts gX12_image_X12_isIn rfl rfl rfl (by decide +kernel) ⟨(Nat.le_of_ble_eq_true rfl), (Nat.le_of_ble_eq_true rfl)⟩) (pre_PS hK hP [] rfl) rfl rfl hl.1 rfl (lv_room (Nat.le_of_ble_eq_true rfl)) dX12_image_8 ⟨(Nat.le_of_ble_eq_true rfl), (Nat.le_of_ble_eq_true rfl)⟩) (fun r1 p2 => ?_)
  rcases p2 with ⟨rfl, t3, t4⟩ | ⟨rfl, t5⟩
  · refine lv_if_ne (tgt := 16) hx hb dX12_image_11 (by decide) (fun c6 => ?_) (fun c6 => absurd c6 (by decide))
    refine lv_iconst (v := nI 0) hx hb dX12_image_16 (by decide) ?_
    refine lv_istore_n (lv' := [(2, .int (nI 0)), (0, .ref o), (1, .int (nI 1))]) hx hb dX12_image_17 rfl hl (by decide) rfl (fun ls hl => ?_)
    have hL16 : ∀ (n17 : Nat) (k13 : Nat) (f14 : Nat → Int32), (k13 ≤ 373) → (∀ j9, j9 < k13 → f14 (373 + j9) = knowF j9) → (∀ j9, j9 < 373 → f14 j9 = kkeptF j9) → 373 - k13 < n17 → ∀ (H : Heap) (locs : List Loc) (ls : Array Slot), va_P (dC, dI) vwCl [(o, .inr (12, [.int (nI 0), .ref ktape, .int (nI ktaped), .int (nI ksize), .int (nI klimit), .int (nI kto), .int (nI kfrom), .int kkind, .int knumber, .int ksign, .int kfault, .int kplace, .long kword, .int ktold, .ref know, .ref kread, .ref kkept, .ref ksnaps, .ref kaside, .ref kname, .ref kreadName, .ref kkeptName, .ref kisKept, .ref konces, .int (nI ksnapMany), .int khasCells, .ref kpoured, .ref kfar, .ref ksides, .int (nI ksideMany), .int kwayDays, .int khasWay, .ref klines, .ref kmet, .int (nI kmetMany), .ref ksunk, .ref ktrying, .int (nI ksunkMany), .int ksending, .int kfleets, .ref ktext, .int (nI ktexts), .int kseed, .ref kline, .ref kwritten, .int (nI klineMany), .int khasWritten, .ref knode, .int (nI knodes), .int (nI konesMany), .int (nI kwithin), .int (nI ktop)])), (know, .inl (ky 0, 373, .inl knowF)), (kname, .inl (ky 1, 12, .inr (.inl knameF))), (kkept, .inl (ky 0, 746, .inl f14)), (kkeptName, .inl (ky 1, 24, .inr (.inl kkeptNameF))), (kisKept, .inl (ky 3, 2, .inl kisKeptF))] H → va_D A [(o, .inr (12, [.int (nI 0), .ref ktape, .int (nI ktaped), .int (nI ksize), .int (nI klimit), .int (nI kto), .int (nI kfrom), .int kkind, .int knumber, .int ksign, .int kfault, .int kplace, .long kword, .int ktold, .ref know, .ref kread, .ref kkept, .ref ksnaps, .ref kaside, .ref kname, .ref kreadName, .ref kkeptName, .ref kisKept, .ref konces, .int (nI ksnapMany), .int khasCells, .ref kpoured, .ref kfar, .ref ksides, .int (nI ksideMany), .int kwayDays, .int khasWay, .ref klines, .ref kmet, .int (nI kmetMany), .ref ksunk, .ref ktrying, .int (nI ksunkMany), .int ksending, .int kfleets, .ref ktext, .int (nI ktexts), .int kseed, .ref kline, .ref kwritten, .int (nI klineMany), .int khasWritten, .ref knode, .int (nI knodes), .int (nI konesMany), .int (nI kwithin), .int (nI ktop)])), (know, .inl (ky 0, 373, .inl knowF)), (kname, .inl (ky 1, 12, .inr (.inl knameF))), (kkept, .inl (ky 0, 746, .inl f14)), (kkeptName, .inl (ky 1, 24, .inr (.inl kkeptNameF))), (kisKept, .inl (ky 3, 2, .inl kisKeptF))] → va_S A s.heap H locs → lv_has ls 3 [(2, .int (nI k13)), (0, .ref o), (1, .int (nI 1))] → W p l e (headSpec wsX12_image ({ frames := 1, cells := 0, slots := 0, locals := 22 })).room s m args below meth c H locs 0 0 Q (F0 m 18 ls []) := by
      intro n17
      induction n17 with
      | zero => intro k13 f14 _ _ _ h9; exact absurd h9 (Nat.not_lt_zero _)
      | succ n17 ih18 =>
        intro k13 f14 j15 hpre hout hm19 H locs ls hP hD hS hl
        refine lv_iload_n hx hb dX12_image_18 rfl (lv_at hl 0 rfl) ?_
        refine lv_sipush (v := nI 373) hx hb dX12_image_19 (by decide) ?_
        refine n_icmp_ge (x := k13) (y := 373) (tgt := 49) hx hb (by omega) (by omega) dX12_image_22 (by decide) (fun c20 => ?_) (fun c20 => ?_)
        · refine lv_iconst (v := nI 0) hx hb dX12_image_49 (by decide) ?_
          refine lv_istore_n (lv' := [(2, .int (nI 0)), (0, .ref o), (1, .int (nI 1))]) hx hb dX12_image_50 rfl hl (by decide) rfl (fun ls hl => ?_)
          have hL30 : ∀ (n31 : Nat) (k27 : Nat) (f28 : Nat → Int64), (k27 ≤ 12) → 12 - k27 < n31 → ∀ (H : Heap) (locs : List Loc) (ls : Array Slot), va_P (dC, dI) vwCl [(o, .inr (12, [.int (nI 0), .ref ktape, .int (nI ktaped), .int (nI ksize), .int (nI klimit), .int (nI kto), .int (nI kfrom), .int kkind, .int knumber, .int ksign, .int kfault, .int kplace, .long kword, .int ktold, .ref know, .ref kread, .ref kkept, .ref ksnaps, .ref kaside, .ref kname, .ref kreadName, .ref kkeptName, .ref kisKept, .ref konces, .int (nI ksnapMany), .int khasCells, .ref kpoured, .ref kfar, .ref ksides, .int (nI ksideMany), .int kwayDays, .int khasWay, .ref klines, .ref kmet, .int (nI kmetMany), .ref ksunk, .ref ktrying, .int (nI ksunkMany), .int ksending, .int kfleets, .ref ktext, .int (nI ktexts), .int kseed, .ref kline, .ref kwritten, .int (nI klineMany), .int khasWritten, .ref knode, .int (nI knodes), .int (nI konesMany), .int (nI kwithin), .int (nI ktop)])), (know, .inl (ky 0, 373, .inl knowF)), (kname, .inl (ky 1, 12, .inr (.inl knameF))), (kkept, .inl (ky 0, 746, .inl f14)), (kkeptName, .inl (ky 1, 24, .inr (.inl f28))), (kisKept, .inl (ky 3, 2, .inl kisKeptF))] H → va_D A [(o, .inr (12, [.int (nI 0), .ref ktape, .int (nI ktaped), .int (nI ksize), .int (nI klimit), .int (nI kto), .int (nI kfrom), .int kkind, .int knumber, .int ksign, .int kfault, .int kplace, .long kword, .int ktold, .ref know, .ref kread, .ref kkept, .ref ksnaps, .ref kaside, .ref kname, .ref kreadName, .ref kkeptName, .ref kisKept, .ref konces, .int (nI ksnapMany), .int khasCells, .ref kpoured, .ref kfar, .ref ksides, .int (nI ksideMany), .int kwayDays, .int khasWay, .ref klines, .ref kmet, .int (nI kmetMany), .ref ksunk, .ref ktrying, .int (nI ksunkMany), .int ksending, .int kfleets, .ref ktext, .int (nI ktexts), .int kseed, .ref kline, .ref kwritten, .int (nI klineMany), .int khasWritten, .ref knode, .int (nI knodes), .int (nI konesMany), .int (nI kwithin), .int (nI ktop)])), (know, .inl (ky 0, 373, .inl knowF)), (kname, .inl (ky 1, 12, .inr (.inl knameF))), (kkept, .inl (ky 0, 746, .inl f14)), (kkeptName, .inl (ky 1, 24, .inr (.inl f28))), (kisKept, .inl (ky 3, 2, .inl kisKeptF))] → va_S A s.heap H locs → lv_has ls 3 [(2, .int (nI k27)), (0, .ref o), (1, .int (nI 1))] → W p l e (headSpec wsX12_image ({ frames := 1, cells := 0, slots := 0, locals := 22 })).room s m args below meth c H locs 0 0 Q (F0 m 51 ls []) := by
            intro n31
            induction n31 with
            | zero => intro k27 f28 _ h9; exact absurd h9 (Nat.not_lt_zero _)
            | succ n31 ih32 =>
              intro k27 f28 j29 hm33 H locs ls hP hD hS hl
              refine lv_iload_n hx hb dX12_image_51 rfl (lv_at hl 0 rfl) ?_
              refine lv_bipush (v := nI 12) hx hb dX12_image_52 (by decide) ?_
              refine n_icmp_ge (x := k27) (y := 12) (tgt := 80) hx hb (by omega) (by omega) dX12_image_54 (by decide) (fun c34 => ?_) (fun c34 => ?_)
              · refine lv_aload_n hx hb dX12_image_80 rfl (lv_at hl 1 rfl) ?_
                refine va_get (D := (dC, dI)) (ci := 12) (v := .ref kisKept) (C := RX12) (T := TX12) (N := 52) hx hb hts hin12 hown hK hP 0 rfl rfl 22 (by decide) (hts (.fieldLink RX12 123 "PorridgeSeaModel" "isKept" "[Z") (List.mem_of_getElem? (i := 6) rfl)) (fun _ h9 => h9) rfl dX12_image_81 ?_
                refine lv_iload_n hx hb dX12_image_84 rfl (lv_at hl 2 rfl) ?_
                refine lv_iconst (v := nI 1) hx hb dX12_image_85 (by decide) ?_
                refine r_zast (x := (nI 1)) hx hb hK hP hD hS 5 rfl 1 (by decide) (by decide) dX12_image_86 (fun H locs hP hD hS => ?_)
                obtain ⟨g35, e36⟩ : ∃ z9, z9 = upd kisKeptF 1 (vp_nar .boolean (nI 1)) := ⟨_, rfl⟩
                rw [← e36] at hP hD
                have hP : va_P (dC, dI) vwCl [(o, .inr (12, [.int (nI 0), .ref ktape, .int (nI ktaped), .int (nI ksize), .int (nI klimit), .int (nI kto), .int (nI kfrom), .int kkind, .int knumber, .int ksign, .int kfault, .int kplace, .long kword, .int ktold, .ref know, .ref kread, .ref kkept, .ref ksnaps, .ref kaside, .ref kname, .ref kreadName, .ref kkeptName, .ref kisKept, .ref konces, .int (nI ksnapMany), .int khasCells, .ref kpoured, .ref kfar, .ref ksides, .int (nI ksideMany), .int kwayDays, .int khasWay, .ref klines, .ref kmet, .int (nI kmetMany), .ref ksunk, .ref ktrying, .int (nI ksunkMany), .int ksending, .int kfleets, .ref ktext, .int (nI ktexts), .int kseed, .ref kline, .ref kwritten, .int (nI klineMany), .int khasWritten, .ref knode, .int (nI knodes), .int (nI konesMany), .int (nI kwithin), .int (nI ktop)])), (know, .inl (ky 0, 373, .inl knowF)), (kname, .inl (ky 1, 12, .inr (.inl knameF))), (kkept, .inl (ky 0, 746, .inl f14)), (kkeptName, .inl (ky 1, 24, .inr (.inl f28))), (kisKept, .inl (ky 3, 2, .inl g35))] H := hP
                have hD : va_D A [(o, .inr (12, [.int (nI 0), .ref ktape, .int (nI ktaped), .int (nI ksize), .int (nI klimit), .int (nI kto), .int (nI kfrom), .int kkind, .int knumber, .int ksign, .int kfault, .int kplace, .long kword, .int ktold, .ref know, .ref kread, .ref kkept, .ref ksnaps, .ref kaside, .ref kname, .ref kreadName, .ref kkeptName, .ref kisKept, .ref konces, .int (nI ksnapMany), .int khasCells, .ref kpoured, .ref kfar, .ref ksides, .int (nI ksideMany), .int kwayDays, .int khasWay, .ref klines, .ref kmet, .int (nI kmetMany), .ref ksunk, .ref ktrying, .int (nI ksunkMany), .int ksending, .int kfleets, .ref ktext, .int (nI ktexts), .int kseed, .ref kline, .ref kwritten, .int (nI klineMany), .int khasWritten, .ref knode, .int (nI knodes), .int (nI konesMany), .int (nI kwithin), .int (nI ktop)])), (know, .inl (ky 0, 373, .inl knowF)), (kname, .inl (ky 1, 12, .inr (.inl knameF))), (kkept, .inl (ky 0, 746, .inl f14)), (kkeptName, .inl (ky 1, 24, .inr (.inl f28))), (kisKept, .inl (ky 3, 2, .inl g35))] := hD
                refine lv_iconst (v := nI 1) hx hb dX12_image_87 (by decide) ?_
                rw [hQ]
                exact W.zret (v := nI 1) hx hb hr (by decide) (fun t9 ht9 hW9 => ⟨⟨nI 1, (nI 0, f14, f28, g35), rfl, ⟨(lf_x_image1_1 t3 t4), (lf_x_image1_2 knowF kkeptF kisKeptF k13 f14 n17 g35 ab_now sb_now kb0 kb1 t3 t4 j15 hpre hout hm19 c20 e36), (lf_x_image1_3 knowF kkeptF kisKeptF k13 f14 n17 g35 ab_now sb_now kb0 kb1 t3 t4 j15 hpre hout hm19 c20 e36), (lf_x_image1_4 knowF kkeptF kisKeptF k13 f14 n17 g35 ab_now sb_now kb0 kb1 t3 t4 j15 hpre hout hm19 c20 e36), (lf_x_image1_5 knowF kkeptF kisKeptF k13 f14 n17 g35 ab_now sb_now kb0 kb1 t3 t4 j15 hpre hout hm19 c20 e36)⟩, by rw [ht9]; exact hP, va_K.moved hW9.alike hK, hD⟩, hS.F ht9⟩) hS.2.2 dX12_image_88
              · refine lv_aload_n hx hb dX12_image_57 rfl (lv_at hl 1 rfl) ?_
                refine va_get (D := (dC, dI)) (ci := 12) (v := .ref kkeptName) (C := RX12) (T := TX12) (N := 52) hx hb hts hin12 hown hK hP 0 rfl rfl 21 (by decide) (hts (.fieldLink RX12 120 "PorridgeSeaModel" "keptName" "[J") (List.mem_of_getElem? (i := 4) rfl)) (fun _ h9 => h9) rfl dX12_image_58 ?_
                refine lv_bipush (v := nI 12) hx hb dX12_image_61 (by decide) ?_
                refine lv_iload_n hx hb dX12_image_63 rfl (lv_at hl 2 rfl) ?_
                refine lv_imul hx hb dX12_image_64 ?_
                refine r_ti (nI 12) (by decide) ?_
                refine lv_iload_n hx hb dX12_image_65 rfl (lv_at hl 0 rfl) ?_
                refine lv_iadd hx hb dX12_image_66 ?_
                refine r_ti (nI (12 + k27)) (nI_add _ _) ?_
                refine lv_aload_n hx hb dX12_image_67 rfl (lv_at hl 1 rfl) ?_
                refine va_get (D := (dC, dI)) (ci := 12) (v := .ref kname) (C := RX12) (T := TX12) (N := 52) hx hb hts hin12 hown hK hP 0 rfl rfl 19 (by decide) (hts (.fieldLink RX12 113 "PorridgeSeaModel" "name" "[J") (List.mem_of_getElem? (i := 5) rfl)) (fun _ h9 => h9) rfl dX12_image_68 ?_
                refine lv_iload_n hx hb dX12_image_71 rfl (lv_at hl 0 rfl) ?_
                obtain ⟨y37, e38⟩ : ∃ z9, z9 = knameF k27 := ⟨_, rfl⟩
                refine r_lald hx hb hK hP 2 rfl k27 (lf_x_image1_6 knameF k27 n31 y37 t3 t4 j29 hm33 c34 e38) (by decide) y37 e38.symm dX12_image_72 ?_
                refine r_last (x := y37) hx hb hK hP hD hS 4 rfl (12 + k27) (lf_x_image1_7 knameF k27 n31 y37 t3 t4 j29 hm33 c34 e38) (by decide) dX12_image_73 (fun H locs hP hD hS => ?_)
                obtain ⟨g39, e40⟩ : ∃ z9, z9 = vp_updL f28 (12 + k27) y37 := ⟨_, rfl⟩
                rw [← e40] at hP hD
                have hP : va_P (dC, dI) vwCl [(o, .inr (12, [.int (nI 0), .ref ktape, .int (nI ktaped), .int (nI ksize), .int (nI klimit), .int (nI kto), .int (nI kfrom), .int kkind, .int knumber, .int ksign, .int kfault, .int kplace, .long kword, .int ktold, .ref know, .ref kread, .ref kkept, .ref ksnaps, .ref kaside, .ref kname, .ref kreadName, .ref kkeptName, .ref kisKept, .ref konces, .int (nI ksnapMany), .int khasCells, .ref kpoured, .ref kfar, .ref ksides, .int (nI ksideMany), .int kwayDays, .int khasWay, .ref klines, .ref kmet, .int (nI kmetMany), .ref ksunk, .ref ktrying, .int (nI ksunkMany), .int ksending, .int kfleets, .ref ktext, .int (nI ktexts), .int kseed, .ref kline, .ref kwritten, .int (nI klineMany), .int khasWritten, .ref knode, .int (nI knodes), .int (nI konesMany), .int (nI kwithin), .int (nI ktop)])), (know, .inl (ky 0, 373, .inl knowF)), (kname, .inl (ky 1, 12, .inr (.inl knameF))), (kkept, .inl (ky 0, 746, .inl f14)), (kkeptName, .inl (ky 1, 24, .inr (.inl g39))), (kisKept, .inl (ky 3, 2, .inl kisKeptF))] H := hP
                have hD : va_D A [(o, .inr (12, [.int (nI 0), .ref ktape, .int (nI ktaped), .int (nI ksize), .int (nI klimit), .int (nI kto), .int (nI kfrom), .int kkind, .int knumber, .int ksign, .int kfault, .int kplace, .long kword, .int ktold, .ref know, .ref kread, .ref kkept, .ref ksnaps, .ref kaside, .ref kname, .ref kreadName, .ref kkeptName, .ref kisKept, .ref konces, .int (nI ksnapMany), .int khasCells, .ref kpoured, .ref kfar, .ref ksides, .int (nI ksideMany), .int kwayDays, .int khasWay, .ref klines, .ref kmet, .int (nI kmetMany), .ref ksunk, .ref ktrying, .int (nI ksunkMany), .int ksending, .int kfleets, .ref ktext, .int (nI ktexts), .int kseed, .ref kline, .ref kwritten, .int (nI klineMany), .int khasWritten, .ref knode, .int (nI knodes), .int (nI konesMany), .int (nI kwithin), .int (nI ktop)])), (know, .inl (ky 0, 373, .inl knowF)), (kname, .inl (ky 1, 12, .inr (.inl knameF))), (kkept, .inl (ky 0, 746, .inl f14)), (kkeptName, .inl (ky 1, 24, .inr (.inl g39))), (kisKept, .inl (ky 3, 2, .inl kisKeptF))] := hD
                refine lv_iinc (v := nI (k27 + 1)) (lv' := [(2, .int (nI (k27 + 1))), (0, .ref o), (1, .int (nI 1))]) hx hb dX12_image_74 hl (k := 0) rfl (show nI k27 + nI 1 = nI (k27 + 1) from nI_add _ _) (by decide) rfl (fun ls hl => ?_)
                refine lv_goto (tgt := 51) hx hb dX12_image_77 (by decide) ?_
                exact ih32 (k27 + 1) g39 (lf_x_image1_8 knameF k27 n31 y37 t3 t4 j29 hm33 c34 e38) (lf_x_image1_9 knameF k27 n31 y37 t3 t4 j29 hm33 c34 e38) _ _ _ hP hD hS (lv_sub hl [0, 1, 2] rfl)
          exact hL30 ((12 - 0) + 1) 0 kkeptNameF (lf_x_image1_10 t3 t4) (Nat.lt_succ_self _) _ _ _ hP hD hS (lv_sub hl [0, 1, 2] rfl)
        · refine lv_aload_n hx hb dX12_image_25 rfl (lv_at hl 1 rfl) ?_
          refine va_get (D := (dC, dI)) (ci := 12) (v := .ref kkept) (C := RX12) (T := TX12) (N := 52) hx hb hts hin12 hown hK hP 0 rfl rfl 16 (by decide) (hts (.fieldLink RX12 104 "PorridgeSeaModel" "kept" "[I") (List.mem_of_getElem? (i := 2) rfl)) (fun _ h9 => h9) rfl dX12_image_26 ?_
          refine lv_sipush (v := nI 373) hx hb dX12_image_29 (by decide) ?_
          refine lv_iload_n hx hb dX12_image_32 rfl (lv_at hl 2 rfl) ?_
          refine lv_imul hx hb dX12_image_33 ?_
          refine r_ti (nI 373) (by decide) ?_
          refine lv_iload_n hx hb dX12_image_34 rfl (lv_at hl 0 rfl) ?_
          refine lv_iadd hx hb dX12_image_35 ?_
          refine r_ti (nI (373 + k13)) (nI_add _ _) ?_
          refine lv_aload_n hx hb dX12_image_36 rfl (lv_at hl 1 rfl) ?_
          refine va_get (D := (dC, dI)) (ci := 12) (v := .ref know) (C := RX12) (T := TX12) (N := 52) hx hb hts hin12 hown hK hP 0 rfl rfl 14 (by decide) (hts (.fieldLink RX12 98 "PorridgeSeaModel" "now" "[I") (List.mem_of_getElem? (i := 3) rfl)) (fun _ h9 => h9) rfl dX12_image_37 ?_
          refine lv_iload_n hx hb dX12_image_40 rfl (lv_at hl 0 rfl) ?_
          obtain ⟨y41, e42⟩ : ∃ z9, z9 = knowF k13 := ⟨_, rfl⟩
          refine r_iald hx hb hK hP 1 rfl k13 (lf_x_image1_11 knowF kkeptF kisKeptF k13 f14 n17 y41 ab_now sb_now kb0 kb1 t3 t4 j15 hpre hout hm19 c20 e42) (by decide) y41 e42.symm dX12_image_41 ?_
          refine r_iast (x := y41) hx hb hK hP hD hS 3 rfl (373 + k13) (lf_x_image1_12 knowF kkeptF kisKeptF k13 f14 n17 y41 ab_now sb_now kb0 kb1 t3 t4 j15 hpre hout hm19 c20 e42) (by decide) dX12_image_42 (fun H locs hP hD hS => ?_)
          obtain ⟨g43, e44⟩ : ∃ z9, z9 = upd f14 (373 + k13) y41 := ⟨_, rfl⟩
          rw [← e44] at hP hD
          have hP : va_P (dC, dI) vwCl [(o, .inr (12, [.int (nI 0), .ref ktape, .int (nI ktaped), .int (nI ksize), .int (nI klimit), .int (nI kto), .int (nI kfrom), .int kkind, .int knumber, .int ksign, .int kfault, .int kplace, .long kword, .int ktold, .ref know, .ref kread, .ref kkept, .ref ksnaps, .ref kaside, .ref kname, .ref kreadName, .ref kkeptName, .ref kisKept, .ref konces, .int (nI ksnapMany), .int khasCells, .ref kpoured, .ref kfar, .ref ksides, .int (nI ksideMany), .int kwayDays, .int khasWay, .ref klines, .ref kmet, .int (nI kmetMany), .ref ksunk, .ref ktrying, .int (nI ksunkMany), .int ksending, .int kfleets, .ref ktext, .int (nI ktexts), .int kseed, .ref kline, .ref kwritten, .int (nI klineMany), .int khasWritten, .ref knode, .int (nI knodes), .int (nI konesMany), .int (nI kwithin), .int (nI ktop)])), (know, .inl (ky 0, 373, .inl knowF)), (kname, .inl (ky 1, 12, .inr (.inl knameF))), (kkept, .inl (ky 0, 746, .inl g43)), (kkeptName, .inl (ky 1, 24, .inr (.inl kkeptNameF))), (kisKept, .inl (ky 3, 2, .inl kisKeptF))] H := hP
          have hD : va_D A [(o, .inr (12, [.int (nI 0), .ref ktape, .int (nI ktaped), .int (nI ksize), .int (nI klimit), .int (nI kto), .int (nI kfrom), .int kkind, .int knumber, .int ksign, .int kfault, .int kplace, .long kword, .int ktold, .ref know, .ref kread, .ref kkept, .ref ksnaps, .ref kaside, .ref kname, .ref kreadName, .ref kkeptName, .ref kisKept, .ref konces, .int (nI ksnapMany), .int khasCells, .ref kpoured, .ref kfar, .ref ksides, .int (nI ksideMany), .int kwayDays, .int khasWay, .ref klines, .ref kmet, .int (nI kmetMany), .ref ksunk, .ref ktrying, .int (nI ksunkMany), .int ksending, .int kfleets, .ref ktext, .int (nI ktexts), .int kseed, .ref kline, .ref kwritten, .int (nI klineMany), .int khasWritten, .ref knode, .int (nI knodes), .int (nI konesMany), .int (nI kwithin), .int (nI ktop)])), (know, .inl (ky 0, 373, .inl knowF)), (kname, .inl (ky 1, 12, .inr (.inl knameF))), (kkept, .inl (ky 0, 746, .inl g43)), (kkeptName, .inl (ky 1, 24, .inr (.inl kkeptNameF))), (kisKept, .inl (ky 3, 2, .inl kisKeptF))] := hD
          refine lv_iinc (v := nI (k13 + 1)) (lv' := [(2, .int (nI (k13 + 1))), (0, .ref o), (1, .int (nI 1))]) hx hb dX12_image_43 hl (k := 0) rfl (show nI k13 + nI 1 = nI (k13 + 1) from nI_add _ _) (by decide) rfl (fun ls hl => ?_)
          refine lv_goto (tgt := 18) hx hb dX12_image_46 (by decide) ?_
          exact ih18 (k13 + 1) g43 (lf_x_image1_13 knowF kkeptF kisKeptF k13 f14 n17 y41 g43 ab_now sb_now kb0 kb1 t3 t4 j15 hpre hout hm19 c20 e42 e44) (lf_x_image1_14 knowF kkeptF kisKeptF k13 f14 n17 y41 g43 ab_now sb_now kb0 kb1 t3 t4 j15 hpre hout hm19 c20 e42 e44) (lf_x_image1_15 knowF kkeptF kisKeptF k13 f14 n17 y41 g43 ab_now sb_now kb0 kb1 t3 t4 j15 hpre hout hm19 c20 e42 e44) (lf_x_image1_16 knowF kkeptF kisKeptF k13 f14 n17 y41 g43 ab_now sb_now kb0 kb1 t3 t4 j15 hpre hout hm19 c20 e42 e44) _ _ _ hP hD hS (lv_sub hl [0, 1, 2] rfl)
    exact hL16 ((373 - 0) + 1) 0 kkeptF (lf_x_image1_17 t3 t4) (lf_x_image1_18 knowF kkeptF kisKeptF ab_now sb_now kb0 kb1 t3 t4) (lf_x_image1_19 kkeptF kisKeptF kb0 kb1 t3 t4) (Nat.lt_succ_self _) _ _ _ hP hD hS (lv_sub hl [0, 1, 2] rfl)
  · refine lv_if_ne (tgt := 16) hx hb dX12_image_11 (by decide) (fun c45 => absurd c45 (by decide)) (fun c45 => ?_)
    exact ((lf_x_image1_20 ktaped ksize klimit kto kfrom ksnapMany ksideMany kmetMany ksunkMany ktexts klineMany knodes konesMany kwithin ktop knowF kkeptF kisKeptF iv_ko_0 iv_ko_1 iv_ko_2 iv_ko_3 iv_ko_4 iv_ko_5 iv_ko_6 iv_ko_7 iv_ko_8 iv_ko_9 iv_ko_10 iv_ko_11 iv_ko_12 iv_ko_13 iv_ko_14 ab_now sb_now kb0 kb1 t5)).elim
