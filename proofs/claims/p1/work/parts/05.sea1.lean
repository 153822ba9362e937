theorem dX7_empty_0 : decode cX7_empty 0 = .ok (.aload_n 0, 1) := by decide +kernel
theorem dX7_empty_1 : decode cX7_empty 1 = .ok (.iconst 4, 1) := by decide +kernel
theorem dX7_empty_2 : decode cX7_empty 2 = .ok (.putfield 43, 3) := by decide +kernel
theorem dX7_empty_5 : decode cX7_empty 5 = .ok (.aload_n 0, 1) := by decide +kernel
theorem dX7_empty_6 : decode cX7_empty 6 = .ok (.iconst 4, 1) := by decide +kernel
theorem dX7_empty_7 : decode cX7_empty 7 = .ok (.putfield 47, 3) := by decide +kernel
theorem dX7_empty_10 : decode cX7_empty 10 = .ok (.aload_n 0, 1) := by decide +kernel
theorem dX7_empty_11 : decode cX7_empty 11 = .ok (.bipush 10, 2) := by decide +kernel
theorem dX7_empty_13 : decode cX7_empty 13 = .ok (.putfield 50, 3) := by decide +kernel
theorem dX7_empty_16 : decode cX7_empty 16 = .ok (.aload_n 0, 1) := by decide +kernel
theorem dX7_empty_17 : decode cX7_empty 17 = .ok (.iconst 1, 1) := by decide +kernel
theorem dX7_empty_18 : decode cX7_empty 18 = .ok (.putfield 53, 3) := by decide +kernel
theorem dX7_empty_21 : decode cX7_empty 21 = .ok (.aload_n 0, 1) := by decide +kernel
theorem dX7_empty_22 : decode cX7_empty 22 = .ok (.iconst 3, 1) := by decide +kernel
theorem dX7_empty_23 : decode cX7_empty 23 = .ok (.putfield 56, 3) := by decide +kernel
theorem dX7_empty_26 : decode cX7_empty 26 = .ok (.aload_n 0, 1) := by decide +kernel
theorem dX7_empty_27 : decode cX7_empty 27 = .ok (.iconst 0, 1) := by decide +kernel
theorem dX7_empty_28 : decode cX7_empty 28 = .ok (.putfield 59, 3) := by decide +kernel
theorem dX7_empty_31 : decode cX7_empty 31 = .ok (.aload_n 0, 1) := by decide +kernel
theorem dX7_empty_32 : decode cX7_empty 32 = .ok (.iconst 0, 1) := by decide +kernel
theorem dX7_empty_33 : decode cX7_empty 33 = .ok (.putfield 62, 3) := by decide +kernel
theorem dX7_empty_36 : decode cX7_empty 36 = .ok (.aload_n 0, 1) := by decide +kernel
theorem dX7_empty_37 : decode cX7_empty 37 = .ok (.iconst 0, 1) := by decide +kernel
theorem dX7_empty_38 : decode cX7_empty 38 = .ok (.putfield 65, 3) := by decide +kernel
theorem dX7_empty_41 : decode cX7_empty 41 = .ok (.aload_n 0, 1) := by decide +kernel
theorem dX7_empty_42 : decode cX7_empty 42 = .ok (.iconst 0, 1) := by decide +kernel
theorem dX7_empty_43 : decode cX7_empty 43 = .ok (.putfield 68, 3) := by decide +kernel
theorem dX7_empty_46 : decode cX7_empty 46 = .ok (.aload_n 0, 1) := by decide +kernel
theorem dX7_empty_47 : decode cX7_empty 47 = .ok (.iconst 0, 1) := by decide +kernel
theorem dX7_empty_48 : decode cX7_empty 48 = .ok (.putfield 71, 3) := by decide +kernel
theorem dX7_empty_51 : decode cX7_empty 51 = .ok (.iconst 0, 1) := by decide +kernel
theorem dX7_empty_52 : decode cX7_empty 52 = .ok (.istore_n 1, 1) := by decide +kernel
theorem dX7_empty_53 : decode cX7_empty 53 = .ok (.iload_n 1, 1) := by decide +kernel
theorem dX7_empty_54 : decode cX7_empty 54 = .ok (.bipush 36, 2) := by decide +kernel
theorem dX7_empty_56 : decode cX7_empty 56 = .ok (.if_icmp .ge 16, 3) := by decide +kernel
theorem dX7_empty_59 : decode cX7_empty 59 = .ok (.aload_n 0, 1) := by decide +kernel
theorem dX7_empty_60 : decode cX7_empty 60 = .ok (.getfield 9, 3) := by decide +kernel
theorem dX7_empty_63 : decode cX7_empty 63 = .ok (.iload_n 1, 1) := by decide +kernel
theorem dX7_empty_64 : decode cX7_empty 64 = .ok (.iconst 0, 1) := by decide +kernel
theorem dX7_empty_65 : decode cX7_empty 65 = .ok (.iastore, 1) := by decide +kernel
theorem dX7_empty_66 : decode cX7_empty 66 = .ok (.iinc 1 1, 3) := by decide +kernel
theorem dX7_empty_69 : decode cX7_empty 69 = .ok (.goto (-16), 3) := by decide +kernel
theorem dX7_empty_72 : decode cX7_empty 72 = .ok (.return_, 1) := by decide +kernel
theorem dX7_init_0 : decode cX7_init 0 = .ok (.aload_n 0, 1) := by decide +kernel
theorem dX7_init_1 : decode cX7_init 1 = .ok (.invokespecial 3, 3) := by decide +kernel
theorem dX7_init_4 : decode cX7_init 4 = .ok (.aload_n 0, 1) := by decide +kernel
theorem dX7_init_5 : decode cX7_init 5 = .ok (.bipush 36, 2) := by decide +kernel
theorem dX7_init_7 : decode cX7_init 7 = .ok (.newarray .int, 2) := by decide +kernel
theorem dX7_init_9 : decode cX7_init 9 = .ok (.putfield 9, 3) := by decide +kernel
theorem dX7_init_12 : decode cX7_init 12 = .ok (.aload_n 0, 1) := by decide +kernel
theorem dX7_init_13 : decode cX7_init 13 = .ok (.bipush 6, 2) := by decide +kernel
theorem dX7_init_15 : decode cX7_init 15 = .ok (.newarray .long, 2) := by decide +kernel
theorem dX7_init_17 : decode cX7_init 17 = .ok (.putfield 15, 3) := by decide +kernel
theorem dX7_init_20 : decode cX7_init 20 = .ok (.aload_n 0, 1) := by decide +kernel
theorem dX7_init_21 : decode cX7_init 21 = .ok (.bipush 6, 2) := by decide +kernel
theorem dX7_init_23 : decode cX7_init 23 = .ok (.newarray .int, 2) := by decide +kernel
theorem dX7_init_25 : decode cX7_init 25 = .ok (.putfield 19, 3) := by decide +kernel
theorem dX7_init_28 : decode cX7_init 28 = .ok (.aload_n 0, 1) := by decide +kernel
theorem dX7_init_29 : decode cX7_init 29 = .ok (.bipush 6, 2) := by decide +kernel
theorem dX7_init_31 : decode cX7_init 31 = .ok (.newarray .long, 2) := by decide +kernel
theorem dX7_init_33 : decode cX7_init 33 = .ok (.putfield 22, 3) := by decide +kernel
theorem dX7_init_36 : decode cX7_init 36 = .ok (.aload_n 0, 1) := by decide +kernel
theorem dX7_init_37 : decode cX7_init 37 = .ok (.bipush 6, 2) := by decide +kernel
theorem dX7_init_39 : decode cX7_init 39 = .ok (.newarray .int, 2) := by decide +kernel
theorem dX7_init_41 : decode cX7_init 41 = .ok (.putfield 25, 3) := by decide +kernel
theorem dX7_init_44 : decode cX7_init 44 = .ok (.aload_n 0, 1) := by decide +kernel
theorem dX7_init_45 : decode cX7_init 45 = .ok (.bipush 6, 2) := by decide +kernel
theorem dX7_init_47 : decode cX7_init 47 = .ok (.newarray .int, 2) := by decide +kernel
theorem dX7_init_49 : decode cX7_init 49 = .ok (.putfield 28, 3) := by decide +kernel
theorem dX7_init_52 : decode cX7_init 52 = .ok (.aload_n 0, 1) := by decide +kernel
theorem dX7_init_53 : decode cX7_init 53 = .ok (.bipush 6, 2) := by decide +kernel
theorem dX7_init_55 : decode cX7_init 55 = .ok (.newarray .int, 2) := by decide +kernel
theorem dX7_init_57 : decode cX7_init 57 = .ok (.putfield 31, 3) := by decide +kernel
theorem dX7_init_60 : decode cX7_init 60 = .ok (.aload_n 0, 1) := by decide +kernel
theorem dX7_init_61 : decode cX7_init 61 = .ok (.bipush 6, 2) := by decide +kernel
theorem dX7_init_63 : decode cX7_init 63 = .ok (.newarray .int, 2) := by decide +kernel
theorem dX7_init_65 : decode cX7_init 65 = .ok (.putfield 34, 3) := by decide +kernel
theorem dX7_init_68 : decode cX7_init 68 = .ok (.aload_n 0, 1) := by decide +kernel
theorem dX7_init_69 : decode cX7_init 69 = .ok (.bipush 6, 2) := by decide +kernel
theorem dX7_init_71 : decode cX7_init 71 = .ok (.newarray .int, 2) := by decide +kernel
theorem dX7_init_73 : decode cX7_init 73 = .ok (.putfield 37, 3) := by decide +kernel
theorem dX7_init_76 : decode cX7_init 76 = .ok (.aload_n 0, 1) := by decide +kernel
theorem dX7_init_77 : decode cX7_init 77 = .ok (.invokevirtual 40, 3) := by decide +kernel
theorem dX7_init_80 : decode cX7_init 80 = .ok (.return_, 1) := by decide +kernel
set_option maxRecDepth 20000 in
theorem ggX7_init_X7_empty : GoodIn wsX7_init wsX7_empty := goodIn_r _ [19, 20, 21, 22, 23, 24, 25, 26, 27, 28, 29, 5, 30, 31, 32, 33, 34, 35, 36, 37, 38, 39, 40, 41, 42, 43, 44, 45, 46, 47, 48] (by decide +kernel) (by decide +kernel)
set_option maxRecDepth 20000 in
theorem gX7_init_X7_empty : GoodIn wsX7_init (wsV RX7 40 RX7 yX7_empty wsX7_empty) := goodIn_app (goodIn_of _ (by decide +kernel)) ggX7_init_X7_empty
set_option maxRecDepth 20000 in
theorem lf_lpempty_1 (a : Nat) (wide : Int32) (high : Int32) (heat : Int32) (cools : Int32) (skinHeat : Int32) (today : Int32) (stirs : Int32) (steps : Int32) (lumps : Int32) (boats : Int32) (thickness : Nat) (lumpNames : Nat) (lumpCells : Nat) (boatNames : Nat) (boatCells : Nat) (loads : Nat) (spoons : Nat) (spoonsLeft : Nat) (depths : Nat) (thicknessF : Nat → Int32) (i : Nat) (fz : Nat → Int32) (g2 : Nat → Int32) (hi : i ≤ 36) (hz : ∀ j, j < i → fz j = nI 0) (c1 : i < 36) (e3 : g2 = upd fz i (nI 0)) : ∀ j, j < (i + 1) → g2 j = nI 0 := by
  subst_vars
  intro j hj
  unfold upd
  by_cases h : j = i
  · rw [if_pos h]
  · rw [if_neg h]; exact hz j (by omega)
set_option maxHeartbeats 4000000 in
set_option maxRecDepth 100000 in
theorem lp_empty {p : Program} {l : Launch} {e : Env} {R : Room} {s : State} {m : MethodId} {args : Array Value} {below : List Frame} {meth : Method} {c : Code} {Q : State → Prop} {dC : Nat → ClassId} {dI : Nat → Nat → Nat} {ky : Nat → ClassId} {H0 : Heap} {A : Nat → Prop} (hx : p.tables.exec = Jvm.exec) (hb : c.code = cX7_empty) (hml : c.maxLocals = 2) (hown : s.vm.findClass RX7 = some m.cls) (hts : ∀ w ∈ wsX7_empty, w.before args s = true) (hK : Kk dC dI ky s) (hA : ∀ q, H0.size ≤ q → A q) (hRf : 0 ≤ R.frames) (hRl : 0 ≤ R.locals) (hRc : 0 ≤ R.cells) (hRs : 0 ≤ R.slots) (a : Nat) (wide : Int32) (high : Int32) (heat : Int32) (cools : Int32) (skinHeat : Int32) (today : Int32) (stirs : Int32) (steps : Int32) (lumps : Int32) (boats : Int32) (thickness : Nat) (lumpNames : Nat) (lumpCells : Nat) (boatNames : Nat) (boatCells : Nat) (loads : Nat) (spoons : Nat) (spoonsLeft : Nat) (depths : Nat) (thicknessF : Nat → Int32)  (kx : ∀ (i : Nat) (fz : Nat → Int32), 36 = i → (∀ j, j < i → fz j = nI 0) → ∀ (H : Heap) (locs : List Loc) (ls : Array Slot), va_P (dC, dI) vwCl [(a, .inr (7, [.int (nI 4), .int (nI 4), .int (nI 10), .int (nI 1), .int (nI 3), .int (nI 0), .int (nI 0), .int (nI 0), .int (nI 0), .int (nI 0), .ref thickness, .ref lumpNames, .ref lumpCells, .ref boatNames, .ref boatCells, .ref loads, .ref spoons, .ref spoonsLeft, .ref depths])), (thickness, .inl (ky 0, 36, .inl fz))] H → va_D A [(a, .inr (7, [.int (nI 4), .int (nI 4), .int (nI 10), .int (nI 1), .int (nI 3), .int (nI 0), .int (nI 0), .int (nI 0), .int (nI 0), .int (nI 0), .ref thickness, .ref lumpNames, .ref lumpCells, .ref boatNames, .ref boatCells, .ref loads, .ref spoons, .ref spoonsLeft, .ref depths])), (thickness, .inl (ky 0, 36, .inl fz))] → va_S A H0 H locs → lv_has ls 2 [(1, .int (nI i)), (0, .ref a)] → W p l e R s m args below meth c H locs 0 0 Q (F0 m 72 ls [])) :
    ∀ (nN i : Nat) (fz : Nat → Int32), i ≤ 36 → 36 + 1 ≤ i + nN → (∀ j, j < i → fz j = nI 0) → ∀ (H : Heap) (locs : List Loc) (ls : Array Slot), va_P (dC, dI) vwCl [(a, .inr (7, [.int (nI 4), .int (nI 4), .int (nI 10), .int (nI 1), .int (nI 3), .int (nI 0), .int (nI 0), .int (nI 0), .int (nI 0), .int (nI 0), .ref thickness, .ref lumpNames, .ref lumpCells, .ref boatNames, .ref boatCells, .ref loads, .ref spoons, .ref spoonsLeft, .ref depths])), (thickness, .inl (ky 0, 36, .inl fz))] H → va_D A [(a, .inr (7, [.int (nI 4), .int (nI 4), .int (nI 10), .int (nI 1), .int (nI 3), .int (nI 0), .int (nI 0), .int (nI 0), .int (nI 0), .int (nI 0), .ref thickness, .ref lumpNames, .ref lumpCells, .ref boatNames, .ref boatCells, .ref loads, .ref spoons, .ref spoonsLeft, .ref depths])), (thickness, .inl (ky 0, 36, .inl fz))] → va_S A H0 H locs → lv_has ls 2 [(1, .int (nI i)), (0, .ref a)] → W p l e R s m args below meth c H locs 0 0 Q (F0 m 53 ls []) := by
  have hin7 : ∀ w ∈ u_ws RX7 TX7 19, w ∈ wsX7_empty := by decide +kernel
  intro nN
  induction nN with
  | zero => intro i fz hi hnN; exfalso; omega
  | succ nN ih =>
    intro i fz hi hnN hz H locs ls hP hD hS hl
    refine lv_iload_n hx hb dX7_empty_53 rfl (lv_at hl 0 rfl) ?_
    refine lv_bipush (v := nI 36) hx hb dX7_empty_54 (by decide) ?_
    refine n_icmp_ge (x := i) (y := 36) (tgt := 72) hx hb (by omega) (by omega) dX7_empty_56 (by decide) (fun c1 => ?_) (fun c1 => ?_)
    · exact kx i fz (by omega) hz H locs ls hP hD hS (lv_sub hl [0, 1] rfl)
    · refine lv_aload_n hx hb dX7_empty_59 rfl (lv_at hl 1 rfl) ?_
      refine va_get (D := (dC, dI)) (ci := 7) (v := .ref thickness) (C := RX7) (T := TX7) (N := 19) hx hb hts hin7 hown hK hP 0 rfl rfl 10 (by decide) (hts (.fieldLink RX7 9 "PorridgeSea$Sea" "thickness" "[I") (List.mem_of_getElem? (i := 11) rfl)) (fun _ h9 => h9) rfl dX7_empty_60 ?_
      refine lv_iload_n hx hb dX7_empty_63 rfl (lv_at hl 0 rfl) ?_
      refine lv_iconst (v := nI 0) hx hb dX7_empty_64 (by decide) ?_
      refine r_iast (x := (nI 0)) hx hb hK hP hD hS 1 rfl i (by omega) (by decide) dX7_empty_65 (fun H locs hP hD hS => ?_)
      obtain ⟨g2, e3⟩ : ∃ z9, z9 = upd fz i (nI 0) := ⟨_, rfl⟩
      rw [← e3] at hP hD
      have hP : va_P (dC, dI) vwCl [(a, .inr (7, [.int (nI 4), .int (nI 4), .int (nI 10), .int (nI 1), .int (nI 3), .int (nI 0), .int (nI 0), .int (nI 0), .int (nI 0), .int (nI 0), .ref thickness, .ref lumpNames, .ref lumpCells, .ref boatNames, .ref boatCells, .ref loads, .ref spoons, .ref spoonsLeft, .ref depths])), (thickness, .inl (ky 0, 36, .inl g2))] H := hP
      have hD : va_D A [(a, .inr (7, [.int (nI 4), .int (nI 4), .int (nI 10), .int (nI 1), .int (nI 3), .int (nI 0), .int (nI 0), .int (nI 0), .int (nI 0), .int (nI 0), .ref thickness, .ref lumpNames, .ref lumpCells, .ref boatNames, .ref boatCells, .ref loads, .ref spoons, .ref spoonsLeft, .ref depths])), (thickness, .inl (ky 0, 36, .inl g2))] := hD
      refine lv_iinc (v := nI (i + 1)) (lv' := [(1, .int (nI (i + 1))), (0, .ref a)]) hx hb dX7_empty_66 hl (k := 0) rfl (show nI i + nI 1 = nI (i + 1) from nI_add _ _) (by decide) rfl (fun ls hl => ?_)
      refine lv_goto (tgt := 53) hx hb dX7_empty_69 (by decide) ?_
      exact ih (i + 1) g2 (by omega) (by omega) (lf_lpempty_1 a wide high heat cools skinHeat today stirs steps lumps boats thickness lumpNames lumpCells boatNames boatCells loads spoons spoonsLeft depths thicknessF i fz g2 hi hz c1 e3) _ _ _ hP hD hS (lv_sub hl [0, 1] rfl)
set_option maxRecDepth 20000 in
theorem lf_empty_1 (a : Nat) (wide : Int32) (high : Int32) (heat : Int32) (cools : Int32) (skinHeat : Int32) (today : Int32) (stirs : Int32) (steps : Int32) (lumps : Int32) (boats : Int32) (thickness : Nat) (lumpNames : Nat) (lumpCells : Nat) (boatNames : Nat) (boatCells : Nat) (loads : Nat) (spoons : Nat) (spoonsLeft : Nat) (depths : Nat) (thicknessF : Nat → Int32) (fz : Nat → Int32) (hz : ∀ j, j < 36 → fz j = nI 0) : ∀ j, j < 36 → fz j = nI 0 := by
  assumption
set_option maxHeartbeats 4000000 in
set_option maxRecDepth 100000 in
theorem c_empty (l : Launch) (dC : Nat → ClassId) (dI : Nat → Nat → Nat) (ky : Nat → ClassId) (sz : Nat) (a : Nat) (wide : Int32) (high : Int32) (heat : Int32) (cools : Int32) (skinHeat : Int32) (today : Int32) (stirs : Int32) (steps : Int32) (lumps : Int32) (boats : Int32) (thickness : Nat) (lumpNames : Nat) (lumpCells : Nat) (boatNames : Nat) (boatCells : Nat) (loads : Nat) (spoons : Nat) (spoonsLeft : Nat) (depths : Nat) (thicknessF : Nat → Int32)  : Met l yX7_empty wsX7_empty ({ frames := 0, cells := 0, slots := 0, locals := 0 }) (PcU dC dI ky [.ref a] [(a, .inr (7, [.int wide, .int high, .int heat, .int cools, .int skinHeat, .int today, .int stirs, .int steps, .int lumps, .int boats, .ref thickness, .ref lumpNames, .ref lumpCells, .ref boatNames, .ref boatCells, .ref loads, .ref spoons, .ref spoonsLeft, .ref depths])), (thickness, .inl (ky 0, 36, .inl thicknessF))] sz) (va_Qv (fun (thicknessG : (Nat → Int32)) => ∀ j, j < 36 → thicknessG j = nI 0) (BU dC dI ky (fun (thicknessG : (Nat → Int32)) => [(a, .inr (7, [.int (nI 4), .int (nI 4), .int (nI 10), .int (nI 1), .int (nI 3), .int (nI 0), .int (nI 0), .int (nI 0), .int (nI 0), .int (nI 0), .ref thickness, .ref lumpNames, .ref lumpCells, .ref boatNames, .ref boatCells, .ref loads, .ref spoons, .ref spoonsLeft, .ref depths])), (thickness, .inl (ky 0, 36, .inl thicknessG))]) (va_A [(a, .inr (7, [.int wide, .int high, .int heat, .int cools, .int skinHeat, .int today, .int stirs, .int steps, .int lumps, .int boats, .ref thickness, .ref lumpNames, .ref lumpCells, .ref boatNames, .ref boatCells, .ref loads, .ref spoons, .ref spoonsLeft, .ref depths])), (thickness, .inl (ky 0, 36, .inl thicknessF))] sz)) (va_A [(a, .inr (7, [.int wide, .int high, .int heat, .int cools, .int skinHeat, .int today, .int stirs, .int steps, .int lumps, .int boats, .ref thickness, .ref lumpNames, .ref lumpCells, .ref boatNames, .ref boatCells, .ref loads, .ref spoons, .ref spoonsLeft, .ref depths])), (thickness, .inl (ky 0, 36, .inl thicknessF))] sz)) 0 0 (va_A [(a, .inr (7, [.int wide, .int high, .int heat, .int cools, .int skinHeat, .int today, .int stirs, .int steps, .int lumps, .int boats, .ref thickness, .ref lumpNames, .ref lumpCells, .ref boatNames, .ref boatCells, .ref loads, .ref spoons, .ref spoonsLeft, .ref depths])), (thickness, .inl (ky 0, 36, .inl thicknessF))] sz) := by
  refine Met.ofW (cc := cX7_empty) (maxL := 2) (ret := none) (by decide) rfl ?_
  intro p e s m args below meth c s₁ B hml hv
  obtain ⟨rfl, hsz, hP, hK, hD0⟩ := hv
  have hx := B.exec
  have hb := B.bytes
  have hr := B.returns
  have hts := atoms_spec (ws := wsX7_empty) B.pre
  have hown : s.vm.findClass RX7 = some m.cls := findClass_of_methodNamed B.named
  have hlocks := B.notSynchronized
  have hin7 : ∀ w ∈ u_ws RX7 TX7 19, w ∈ wsX7_empty := by decide +kernel
  subst hsz
  have hD := hD0.self (sz := s.heap.size)
  generalize hAe : va_A [(a, .inr (7, [.int wide, .int high, .int heat, .int cools, .int skinHeat, .int today, .int stirs, .int steps, .int lumps, .int boats, .ref thickness, .ref lumpNames, .ref lumpCells, .ref boatNames, .ref boatCells, .ref loads, .ref spoons, .ref spoonsLeft, .ref depths])), (thickness, .inl (ky 0, 36, .inl thicknessF))] s.heap.size = A at hD ⊢
  have hA : ∀ q : Nat, s.heap.size ≤ q → A q := fun q h => by rw [← hAe]; exact Or.inr h
  have hS : va_S A s.heap s.heap [] := va_S.rf
  have hP : va_P (dC, dI) vwCl [(a, .inr (7, [.int wide, .int high, .int heat, .int cools, .int skinHeat, .int today, .int stirs, .int steps, .int lumps, .int boats, .ref thickness, .ref lumpNames, .ref lumpCells, .ref boatNames, .ref boatCells, .ref loads, .ref spoons, .ref spoonsLeft, .ref depths])), (thickness, .inl (ky 0, 36, .inl thicknessF))] s.heap := hP
  have hl := lv_entry ([.ref a]) (n := 2) (Nat.le_of_ble_eq_true rfl)
  rw [lg_entry_eq]
  generalize (lg_sl ([.ref a]) ++ List.replicate (2 - (lg_sl ([.ref a])).length) Slot.unset).toArray = ls at hl ⊢
  have hl : lv_has ls 2 [(0, .ref a)] := hl
  have hH0 : True := trivial
  refine lv_aload_n hx hb dX7_empty_0 rfl (lv_at hl 0 rfl) ?_
  refine lv_iconst (v := nI 4) hx hb dX7_empty_1 (by decide) ?_
  refine va_put (D := (dC, dI)) (ci := 7) (v := .int (nI 4)) (ty := .int) (C := RX7) (T := TX7) (N := 19) hx hb hts hin7 tyX7 tyX7_ok nmX7 hown hK hP hD hS 0 rfl rfl 0 (by decide) (hts (.fieldLink RX7 43 "PorridgeSea$Sea" "wide" "I") (List.mem_of_getElem? (i := 1) rfl)) (fun _ h9 => h9) rfl (by decide +kernel) rfl rfl (Nat.le_of_ble_eq_true rfl) dX7_empty_2 (fun H locs hP hD hS => ?_)
  have hP : va_P (dC, dI) vwCl [(a, .inr (7, [.int (nI 4), .int high, .int heat, .int cools, .int skinHeat, .int today, .int stirs, .int steps, .int lumps, .int boats, .ref thickness, .ref lumpNames, .ref lumpCells, .ref boatNames, .ref boatCells, .ref loads, .ref spoons, .ref spoonsLeft, .ref depths])), (thickness, .inl (ky 0, 36, .inl thicknessF))] H := hP
  have hD : va_D A [(a, .inr (7, [.int (nI 4), .int high, .int heat, .int cools, .int skinHeat, .int today, .int stirs, .int steps, .int lumps, .int boats, .ref thickness, .ref lumpNames, .ref lumpCells, .ref boatNames, .ref boatCells, .ref loads, .ref spoons, .ref spoonsLeft, .ref depths])), (thickness, .inl (ky 0, 36, .inl thicknessF))] := hD
  refine lv_aload_n hx hb dX7_empty_5 rfl (lv_at hl 0 rfl) ?_
  refine lv_iconst (v := nI 4) hx hb dX7_empty_6 (by decide) ?_
  refine va_put (D := (dC, dI)) (ci := 7) (v := .int (nI 4)) (ty := .int) (C := RX7) (T := TX7) (N := 19) hx hb hts hin7 tyX7 tyX7_ok nmX7 hown hK hP hD hS 0 rfl rfl 1 (by decide) (hts (.fieldLink RX7 47 "PorridgeSea$Sea" "high" "I") (List.mem_of_getElem? (i := 2) rfl)) (fun _ h9 => h9) rfl (by decide +kernel) rfl rfl (Nat.le_of_ble_eq_true rfl) dX7_empty_7 (fun H locs hP hD hS => ?_)
  have hP : va_P (dC, dI) vwCl [(a, .inr (7, [.int (nI 4), .int (nI 4), .int heat, .int cools, .int skinHeat, .int today, .int stirs, .int steps, .int lumps, .int boats, .ref thickness, .ref lumpNames, .ref lumpCells, .ref boatNames, .ref boatCells, .ref loads, .ref spoons, .ref spoonsLeft, .ref depths])), (thickness, .inl (ky 0, 36, .inl thicknessF))] H := hP
  have hD : va_D A [(a, .inr (7, [.int (nI 4), .int (nI 4), .int heat, .int cools, .int skinHeat, .int today, .int stirs, .int steps, .int lumps, .int boats, .ref thickness, .ref lumpNames, .ref lumpCells, .ref boatNames, .ref boatCells, .ref loads, .ref spoons, .ref spoonsLeft, .ref depths])), (thickness, .inl (ky 0, 36, .inl thicknessF))] := hD
  refine lv_aload_n hx hb dX7_empty_10 rfl (lv_at hl 0 rfl) ?_
  refine lv_bipush (v := nI 10) hx hb dX7_empty_11 (by decide) ?_
  refine va_put (D := (dC, dI)) (ci := 7) (v := .int (nI 10)) (ty := .int) (C := RX7) (T := TX7) (N := 19) hx hb hts hin7 tyX7 tyX7_ok nmX7 hown hK hP hD hS 0 rfl rfl 2 (by decide) (hts (.fieldLink RX7 50 "PorridgeSea$Sea" "heat" "I") (List.mem_of_getElem? (i := 3) rfl)) (fun _ h9 => h9) rfl (by decide +kernel) rfl rfl (Nat.le_of_ble_eq_true rfl) dX7_empty_13 (fun H locs hP hD hS => ?_)
  have hP : va_P (dC, dI) vwCl [(a, .inr (7, [.int (nI 4), .int (nI 4), .int (nI 10), .int cools, .int skinHeat, .int today, .int stirs, .int steps, .int lumps, .int boats, .ref thickness, .ref lumpNames, .ref lumpCells, .ref boatNames, .ref boatCells, .ref loads, .ref spoons, .ref spoonsLeft, .ref depths])), (thickness, .inl (ky 0, 36, .inl thicknessF))] H := hP
  have hD : va_D A [(a, .inr (7, [.int (nI 4), .int (nI 4), .int (nI 10), .int cools, .int skinHeat, .int today, .int stirs, .int steps, .int lumps, .int boats, .ref thickness, .ref lumpNames, .ref lumpCells, .ref boatNames, .ref boatCells, .ref loads, .ref spoons, .ref spoonsLeft, .ref depths])), (thickness, .inl (ky 0, 36, .inl thicknessF))] := hD
  refine lv_aload_n hx hb dX7_empty_16 rfl (lv_at hl 0 rfl) ?_
  refine lv_iconst (v := nI 1) hx hb dX7_empty_17 (by decide) ?_
  refine va_put (D := (dC, dI)) (ci := 7) (v := .int (nI 1)) (ty := .int) (C := RX7) (T := TX7) (N := 19) hx hb hts hin7 tyX7 tyX7_ok nmX7 hown hK hP hD hS 0 rfl rfl 3 (by decide) (hts (.fieldLink RX7 53 "PorridgeSea$Sea" "cools" "I") (List.mem_of_getElem? (i := 4) rfl)) (fun _ h9 => h9) rfl (by decide +kernel) rfl rfl (Nat.le_of_ble_eq_true rfl) dX7_empty_18 (fun H locs hP hD hS => ?_)
  have hP : va_P (dC, dI) vwCl [(a, .inr (7, [.int (nI 4), .int (nI 4), .int (nI 10), .int (nI 1), .int skinHeat, .int today, .int stirs, .int steps, .int lumps, .int boats, .ref thickness, .ref lumpNames, .ref lumpCells, .ref boatNames, .ref boatCells, .ref loads, .ref spoons, .ref spoonsLeft, .ref depths])), (thickness, .inl (ky 0, 36, .inl thicknessF))] H := hP
  have hD : va_D A [(a, .inr (7, [.int (nI 4), .int (nI 4), .int (nI 10), .int (nI 1), .int skinHeat, .int today, .int stirs, .int steps, .int lumps, .int boats, .ref thickness, .ref lumpNames, .ref lumpCells, .ref boatNames, .ref boatCells, .ref loads, .ref spoons, .ref spoonsLeft, .ref depths])), (thickness, .inl (ky 0, 36, .inl thicknessF))] := hD
  refine lv_aload_n hx hb dX7_empty_21 rfl (lv_at hl 0 rfl) ?_
  refine lv_iconst (v := nI 3) hx hb dX7_empty_22 (by decide) ?_
  refine va_put (D := (dC, dI)) (ci := 7) (v := .int (nI 3)) (ty := .int) (C := RX7) (T := TX7) (N := 19) hx hb hts hin7 tyX7 tyX7_ok nmX7 hown hK hP hD hS 0 rfl rfl 4 (by decide) (hts (.fieldLink RX7 56 "PorridgeSea$Sea" "skinHeat" "I") (List.mem_of_getElem? (i := 5) rfl)) (fun _ h9 => h9) rfl (by decide +kernel) rfl rfl (Nat.le_of_ble_eq_true rfl) dX7_empty_23 (fun H locs hP hD hS => ?_)
  have hP : va_P (dC, dI) vwCl [(a, .inr (7, [.int (nI 4), .int (nI 4), .int (nI 10), .int (nI 1), .int (nI 3), .int today, .int stirs, .int steps, .int lumps, .int boats, .ref thickness, .ref lumpNames, .ref lumpCells, .ref boatNames, .ref boatCells, .ref loads, .ref spoons, .ref spoonsLeft, .ref depths])), (thickness, .inl (ky 0, 36, .inl thicknessF))] H := hP
  have hD : va_D A [(a, .inr (7, [.int (nI 4), .int (nI 4), .int (nI 10), .int (nI 1), .int (nI 3), .int today, .int stirs, .int steps, .int lumps, .int boats, .ref thickness, .ref lumpNames, .ref lumpCells, .ref boatNames, .ref boatCells, .ref loads, .ref spoons, .ref spoonsLeft, .ref depths])), (thickness, .inl (ky 0, 36, .inl thicknessF))] := hD
  refine lv_aload_n hx hb dX7_empty_26 rfl (lv_at hl 0 rfl) ?_
  refine lv_iconst (v := nI 0) hx hb dX7_empty_27 (by decide) ?_
  refine va_put (D := (dC, dI)) (ci := 7) (v := .int (nI 0)) (ty := .int) (C := RX7) (T := TX7) (N := 19) hx hb hts hin7 tyX7 tyX7_ok nmX7 hown hK hP hD hS 0 rfl rfl 5 (by decide) (hts (.fieldLink RX7 59 "PorridgeSea$Sea" "today" "I") (List.mem_of_getElem? (i := 6) rfl)) (fun _ h9 => h9) rfl (by decide +kernel) rfl rfl (Nat.le_of_ble_eq_true rfl) dX7_empty_28 (fun H locs hP hD hS => ?_)
  have hP : va_P (dC, dI) vwCl [(a, .inr (7, [.int (nI 4), .int (nI 4), .int (nI 10), .int (nI 1), .int (nI 3), .int (nI 0), .int stirs, .int steps, .int lumps, .int boats, .ref thickness, .ref lumpNames, .ref lumpCells, .ref boatNames, .ref boatCells, .ref loads, .ref spoons, .ref spoonsLeft, .ref depths])), (thickness, .inl (ky 0, 36, .inl thicknessF))] H := hP
  have hD : va_D A [(a, .inr (7, [.int (nI 4), .int (nI 4), .int (nI 10), .int (nI 1), .int (nI 3), .int (nI 0), .int stirs, .int steps, .int lumps, .int boats, .ref thickness, .ref lumpNames, .ref lumpCells, .ref boatNames, .ref boatCells, .ref loads, .ref spoons, .ref spoonsLeft, .ref depths])), (thickness, .inl (ky 0, 36, .inl thicknessF))] := hD
  refine lv_aload_n hx hb dX7_empty_31 rfl (lv_at hl 0 rfl) ?_
  refine lv_iconst (v := nI 0) hx hb dX7_empty_32 (by decide) ?_
  refine va_put (D := (dC, dI)) (ci := 7) (v := .int (nI 0)) (ty := .int) (C := RX7) (T := TX7) (N := 19) hx hb hts hin7 tyX7 tyX7_ok nmX7 hown hK hP hD hS 0 rfl rfl 6 (by decide) (hts (.fieldLink RX7 62 "PorridgeSea$Sea" "stirs" "I") (List.mem_of_getElem? (i := 7) rfl)) (fun _ h9 => h9) rfl (by decide +kernel) rfl rfl (Nat.le_of_ble_eq_true rfl) dX7_empty_33 (fun H locs hP hD hS => ?_)
  have hP : va_P (dC, dI) vwCl [(a, .inr (7, [.int (nI 4), .int (nI 4), .int (nI 10), .int (nI 1), .int (nI 3), .int (nI 0), .int (nI 0), .int steps, .int lumps, .int boats, .ref thickness, .ref lumpNames, .ref lumpCells, .ref boatNames, .ref boatCells, .ref loads, .ref spoons, .ref spoonsLeft, .ref depths])), (thickness, .inl (ky 0, 36, .inl thicknessF))] H := hP
  have hD : va_D A [(a, .inr (7, [.int (nI 4), .int (nI 4), .int (nI 10), .int (nI 1), .int (nI 3), .int (nI 0), .int (nI 0), .int steps, .int lumps, .int boats, .ref thickness, .ref lumpNames, .ref lumpCells, .ref boatNames, .ref boatCells, .ref loads, .ref spoons, .ref spoonsLeft, .ref depths])), (thickness, .inl (ky 0, 36, .inl thicknessF))] := hD
  refine lv_aload_n hx hb dX7_empty_36 rfl (lv_at hl 0 rfl) ?_
  refine lv_iconst (v := nI 0) hx hb dX7_empty_37 (by decide) ?_
  refine va_put (D := (dC, dI)) (ci := 7) (v := .int (nI 0)) (ty := .int) (C := RX7) (T := TX7) (N := 19) hx hb hts hin7 tyX7 tyX7_ok nmX7 hown hK hP hD hS 0 rfl rfl 7 (by decide) (hts (.fieldLink RX7 65 "PorridgeSea$Sea" "steps" "I") (List.mem_of_getElem? (i := 8) rfl)) (fun _ h9 => h9) rfl (by decide +kernel) rfl rfl (Nat.le_of_ble_eq_true rfl) dX7_empty_38 (fun H locs hP hD hS => ?_)
  have hP : va_P (dC, dI) vwCl [(a, .inr (7, [.int (nI 4), .int (nI 4), .int (nI 10), .int (nI 1), .int (nI 3), .int (nI 0), .int (nI 0), .int (nI 0), .int lumps, .int boats, .ref thickness, .ref lumpNames, .ref lumpCells, .ref boatNames, .ref boatCells, .ref loads, .ref spoons, .ref spoonsLeft, .ref depths])), (thickness, .inl (ky 0, 36, .inl thicknessF))] H := hP
  have hD : va_D A [(a, .inr (7, [.int (nI 4), .int (nI 4), .int (nI 10), .int (nI 1), .int (nI 3), .int (nI 0), .int (nI 0), .int (nI 0), .int lumps, .int boats, .ref thickness, .ref lumpNames, .ref lumpCells, .ref boatNames, .ref boatCells, .ref loads, .ref spoons, .ref spoonsLeft, .ref depths])), (thickness, .inl (ky 0, 36, .inl thicknessF))] := hD
  refine lv_aload_n hx hb dX7_empty_41 rfl (lv_at hl 0 rfl) ?_
  refine lv_iconst (v := nI 0) hx hb dX7_empty_42 (by decide) ?_
  refine va_put (D := (dC, dI)) (ci := 7) (v := .int (nI 0)) (ty := .int) (C := RX7) (T := TX7) (N := 19) hx hb hts hin7 tyX7 tyX7_ok nmX7 hown hK hP hD hS 0 rfl rfl 8 (by decide) (hts (.fieldLink RX7 68 "PorridgeSea$Sea" "lumps" "I") (List.mem_of_getElem? (i := 9) rfl)) (fun _ h9 => h9) rfl (by decide +kernel) rfl rfl (Nat.le_of_ble_eq_true rfl) dX7_empty_43 (fun H locs hP hD hS => ?_)
  have hP : va_P (dC, dI) vwCl [(a, .inr (7, [.int (nI 4), .int (nI 4), .int (nI 10), .int (nI 1), .int (nI 3), .int (nI 0), .int (nI 0), .int (nI 0), .int (nI 0), .int boats, .ref thickness, .ref lumpNames, .ref lumpCells, .ref boatNames, .ref boatCells, .ref loads, .ref spoons, .ref spoonsLeft, .ref depths])), (thickness, .inl (ky 0, 36, .inl thicknessF))] H := hP
  have hD : va_D A [(a, .inr (7, [.int (nI 4), .int (nI 4), .int (nI 10), .int (nI 1), .int (nI 3), .int (nI 0), .int (nI 0), .int (nI 0), .int (nI 0), .int boats, .ref thickness, .ref lumpNames, .ref lumpCells, .ref boatNames, .ref boatCells, .ref loads, .ref spoons, .ref spoonsLeft, .ref depths])), (thickness, .inl (ky 0, 36, .inl thicknessF))] := hD
  refine lv_aload_n hx hb dX7_empty_46 rfl (lv_at hl 0 rfl) ?_
  refine lv_iconst (v := nI 0) hx hb dX7_empty_47 (by decide) ?_
  refine va_put (D := (dC, dI)) (ci := 7) (v := .int (nI 0)) (ty := .int) (C := RX7) (T := TX7) (N := 19) hx hb hts hin7 tyX7 tyX7_ok nmX7 hown hK hP hD hS 0 rfl rfl 9 (by decide) (hts (.fieldLink RX7 71 "PorridgeSea$Sea" "boats" "I") (List.mem_of_getElem? (i := 10) rfl)) (fun _ h9 => h9) rfl (by decide +kernel) rfl rfl (Nat.le_of_ble_eq_true rfl) dX7_empty_48 (fun H locs hP hD hS => ?_)
  have hP : va_P (dC, dI) vwCl [(a, .inr (7, [.int (nI 4), .int (nI 4), .int (nI 10), .int (nI 1), .int (nI 3), .int (nI 0), .int (nI 0), .int (nI 0), .int (nI 0), .int (nI 0), .ref thickness, .ref lumpNames, .ref lumpCells, .ref boatNames, .ref boatCells, .ref loads, .ref spoons, .ref spoonsLeft, .ref depths])), (thickness, .inl (ky 0, 36, .inl thicknessF))] H := hP
  have hD : va_D A [(a, .inr (7, [.int (nI 4), .int (nI 4), .int (nI 10), .int (nI 1), .int (nI 3), .int (nI 0), .int (nI 0), .int (nI 0), .int (nI 0), .int (nI 0), .ref thickness, .ref lumpNames, .ref lumpCells, .ref boatNames, .ref boatCells, .ref loads, .ref spoons, .ref spoonsLeft, .ref depths])), (thickness, .inl (ky 0, 36, .inl thicknessF))] := hD
  refine lv_iconst (v := nI 0) hx hb dX7_empty_51 (by decide) ?_
  refine lv_istore_n (lv' := [(1, .int (nI 0)), (0, .ref a)]) hx hb dX7_empty_52 rfl hl (by decide) rfl (fun ls hl => ?_)
  refine lp_empty hx hb hml hown hts hK hA (Nat.le_of_ble_eq_true rfl) (Nat.le_of_ble_eq_true rfl) (Nat.le_of_ble_eq_true rfl) (Nat.le_of_ble_eq_true rfl) a wide high heat cools skinHeat today stirs steps lumps boats thickness lumpNames lumpCells boatNames boatCells loads spoons spoonsLeft depths thicknessF ?_ (36 + 1) 0 thicknessF (by omega) (by omega) (fun j h => absurd h (Nat.not_lt_zero j)) _ _ _ hP hD hS (lv_sub hl [0, 1] rfl)
  intro i fz hiN hz H locs ls hP hD hS hl
  subst hiN
  have hP9 := hP.sub (ws' := [(a, .inr (7, [.int (nI 4), .int (nI 4), .int (nI 10), .int (nI 1), .int (nI 3), .int (nI 0), .int (nI 0), .int (nI 0), .int (nI 0), .int (nI 0), .ref thickness, .ref lumpNames, .ref lumpCells, .ref boatNames, .ref boatCells, .ref loads, .ref spoons, .ref spoonsLeft, .ref depths])), (thickness, .inl (ky 0, 36, .inl fz))]) [0, 1] rfl
  have hD9 := hD.sub (ws' := [(a, .inr (7, [.int (nI 4), .int (nI 4), .int (nI 10), .int (nI 1), .int (nI 3), .int (nI 0), .int (nI 0), .int (nI 0), .int (nI 0), .int (nI 0), .ref thickness, .ref lumpNames, .ref lumpCells, .ref boatNames, .ref boatCells, .ref loads, .ref spoons, .ref spoonsLeft, .ref depths])), (thickness, .inl (ky 0, 36, .inl fz))]) [0, 1] (by decide) rfl
  refine W.widen (k := 0) (n := 0) (Nat.le_of_ble_eq_true rfl) (Nat.le_of_ble_eq_true rfl) ?_
  exact W.vret hx hb hr (fun t ht9 hW9 => ⟨⟨fz, rfl, (lf_empty_1 a wide high heat cools skinHeat today stirs steps lumps boats thickness lumpNames lumpCells boatNames boatCells loads spoons spoonsLeft depths thicknessF fz hz), by rw [ht9]; exact hP9, va_K.moved hW9.alike hK, hD9⟩, hS.F ht9⟩) hS.2.2 dX7_empty_72
set_option maxRecDepth 20000 in
theorem lf_Sea_init_1 (a : Nat) (q1 : Nat) (q2 : Nat) (q3 : Nat) (q4 : Nat) (q5 : Nat) (q6 : Nat) (q7 : Nat) (q8 : Nat) (q9 : Nat) (thicknessG_12 : Nat → Int32) (p13 : ∀ j, j < 36 → thicknessG_12 j = nI 0) : ∀ j, j < 36 → thicknessG_12 j = nI 0 := by
  assumption
set_option maxHeartbeats 4000000 in
set_option maxRecDepth 100000 in
theorem c_Sea_init (l : Launch) (dC : Nat → ClassId) (dI : Nat → Nat → Nat) (ky : Nat → ClassId) (sz : Nat) (a : Nat)  : Met l yX7_init wsX7_init ({ frames := 1, cells := 9, slots := 84, locals := 21 }) (PcU dC dI ky [.ref a] [(a, .inr (7, [.int (nI 0), .int (nI 0), .int (nI 0), .int (nI 0), .int (nI 0), .int (nI 0), .int (nI 0), .int (nI 0), .int (nI 0), .int (nI 0), .null, .null, .null, .null, .null, .null, .null, .null, .null]))] sz) (va_Qv (fun (u : Nat × Nat × Nat × Nat × Nat × Nat × Nat × Nat × Nat × (Nat → Int32)) => match u with | (thickness, lumpNames, lumpCells, boatNames, boatCells, loads, spoons, spoonsLeft, depths, thicknessG) => ∀ j, j < 36 → thicknessG j = nI 0) (BU dC dI ky (fun (u : Nat × Nat × Nat × Nat × Nat × Nat × Nat × Nat × Nat × (Nat → Int32)) => match u with | (thickness, lumpNames, lumpCells, boatNames, boatCells, loads, spoons, spoonsLeft, depths, thicknessG) => [(a, .inr (7, [.int (nI 4), .int (nI 4), .int (nI 10), .int (nI 1), .int (nI 3), .int (nI 0), .int (nI 0), .int (nI 0), .int (nI 0), .int (nI 0), .ref thickness, .ref lumpNames, .ref lumpCells, .ref boatNames, .ref boatCells, .ref loads, .ref spoons, .ref spoonsLeft, .ref depths])), (thickness, .inl (ky 0, 36, .inl thicknessG)), (lumpNames, .inl (ky 1, 6, .inr (.inl (fun _ => 0)))), (lumpCells, .inl (ky 0, 6, .inl (fun _ => 0))), (boatNames, .inl (ky 1, 6, .inr (.inl (fun _ => 0)))), (boatCells, .inl (ky 0, 6, .inl (fun _ => 0))), (loads, .inl (ky 0, 6, .inl (fun _ => 0))), (spoons, .inl (ky 0, 6, .inl (fun _ => 0))), (spoonsLeft, .inl (ky 0, 6, .inl (fun _ => 0))), (depths, .inl (ky 0, 6, .inl (fun _ => 0)))]) (va_A [(a, .inr (7, [.int (nI 0), .int (nI 0), .int (nI 0), .int (nI 0), .int (nI 0), .int (nI 0), .int (nI 0), .int (nI 0), .int (nI 0), .int (nI 0), .null, .null, .null, .null, .null, .null, .null, .null, .null]))] sz)) (va_A [(a, .inr (7, [.int (nI 0), .int (nI 0), .int (nI 0), .int (nI 0), .int (nI 0), .int (nI 0), .int (nI 0), .int (nI 0), .int (nI 0), .int (nI 0), .null, .null, .null, .null, .null, .null, .null, .null, .null]))] sz)) 9 84 (va_A [(a, .inr (7, [.int (nI 0), .int (nI 0), .int (nI 0), .int (nI 0), .int (nI 0), .int (nI 0), .int (nI 0), .int (nI 0), .int (nI 0), .int (nI 0), .null, .null, .null, .null, .null, .null, .null, .null, .null]))] sz) := by
  refine Met.ofW (cc := cX7_init) (maxL := 1) (ret := none) (by decide) rfl ?_
  intro p e s m args below meth c s₁ B hml hv
  obtain ⟨rfl, hsz, hP, hK, hD0⟩ := hv
  have hx := B.exec
  have hb := B.bytes
  have hr := B.returns
  have hts := atoms_spec (ws := wsX7_init) B.pre
  have hown : s.vm.findClass RX7 = some m.cls := findClass_of_methodNamed B.named
  have hlocks := B.notSynchronized
  have hini0 : meth.name = "<init>" := (name_of_methodNamed B.named B.method).1
  have hin7 : ∀ w ∈ u_ws RX7 TX7 19, w ∈ wsX7_init := by decide +kernel
  subst hsz
  have hD := hD0.self (sz := s.heap.size)
  generalize hAe : va_A [(a, .inr (7, [.int (nI 0), .int (nI 0), .int (nI 0), .int (nI 0), .int (nI 0), .int (nI 0), .int (nI 0), .int (nI 0), .int (nI 0), .int (nI 0), .null, .null, .null, .null, .null, .null, .null, .null, .null]))] s.heap.size = A at hD ⊢
  have hA : ∀ q : Nat, s.heap.size ≤ q → A q := fun q h => by rw [← hAe]; exact Or.inr h
  have hS : va_S A s.heap s.heap [] := va_S.rf
  have hP : va_P (dC, dI) vwCl [(a, .inr (7, [.int (nI 0), .int (nI 0), .int (nI 0), .int (nI 0), .int (nI 0), .int (nI 0), .int (nI 0), .int (nI 0), .int (nI 0), .int (nI 0), .null, .null, .null, .null, .null, .null, .null, .null, .null]))] s.heap := hP
  have hl := lv_entry ([.ref a]) (n := 1) (Nat.le_of_ble_eq_true rfl)
  rw [lg_entry_eq]
  generalize (lg_sl ([.ref a]) ++ List.replicate (1 - (lg_sl ([.ref a])).length) Slot.unset).toArray = ls at hl ⊢
  have hl : lv_has ls 1 [(0, .ref a)] := hl
  have hH0 : True := trivial
  refine lv_aload_n hx hb dX7_init_0 rfl (lv_at hl 0 rfl) ?_
  refine W.objInit hx hb hown (hts _ (List.mem_of_getElem? (i := 1) rfl)) (hts _ (List.mem_of_getElem? (i := 2) rfl)) (hts _ (List.mem_of_getElem? (i := 3) rfl)) rfl (by rw [hml]; exact hl.1) rfl dX7_init_1 (Nat.le_of_ble_eq_true rfl) (Nat.le_of_ble_eq_true rfl) ?_
  refine W.eq (g2 := F0 m 4 ls []) rfl ?_
  refine lv_aload_n hx hb dX7_init_4 rfl (lv_at hl 0 rfl) ?_
  refine lv_bipush (v := nI 36) hx hb dX7_init_5 (by decide) ?_
  refine r_newI hx hb (hts (.arrayClass .int) (List.mem_of_getElem? (i := 4) rfl)) hK hP hD hS hA (by decide) (by decide) (Nat.le_of_ble_eq_true rfl) (Nat.le_of_ble_eq_true rfl) dX7_init_7 (fun q1 H hP hD hS => ?_)
  refine W.widen (k := 1) (n := 36) (Nat.le_of_ble_eq_true rfl) (Nat.le_of_ble_eq_true rfl) ?_
  have hP : va_P (dC, dI) vwCl [(a, .inr (7, [.int (nI 0), .int (nI 0), .int (nI 0), .int (nI 0), .int (nI 0), .int (nI 0), .int (nI 0), .int (nI 0), .int (nI 0), .int (nI 0), .null, .null, .null, .null, .null, .null, .null, .null, .null])), (q1, .inl (ky 0, 36, .inl (fun _ => 0)))] H := hP
  have hD : va_D A [(a, .inr (7, [.int (nI 0), .int (nI 0), .int (nI 0), .int (nI 0), .int (nI 0), .int (nI 0), .int (nI 0), .int (nI 0), .int (nI 0), .int (nI 0), .null, .null, .null, .null, .null, .null, .null, .null, .null])), (q1, .inl (ky 0, 36, .inl (fun _ => 0)))] := hD
  refine va_putF (D := (dC, dI)) (ci := 7) (v := .ref q1) (ty := .array .int) (C := RX7) (T := TX7) (N := 19) hx hb hts hin7 tyX7 tyX7_ok nmX7 hown hK hP hD hS 0 rfl rfl 10 (by decide) (hts (.fieldLink RX7 9 "PorridgeSea$Sea" "thickness" "[I") (List.mem_of_getElem? (i := 5) rfl)) (fun _ h9 => h9) rfl hini0 rfl (by decide +kernel) rfl rfl (Nat.le_of_ble_eq_true rfl) dX7_init_9 (fun H locs hP hD hS => ?_)
  have hP : va_P (dC, dI) vwCl [(a, .inr (7, [.int (nI 0), .int (nI 0), .int (nI 0), .int (nI 0), .int (nI 0), .int (nI 0), .int (nI 0), .int (nI 0), .int (nI 0), .int (nI 0), .ref q1, .null, .null, .null, .null, .null, .null, .null, .null])), (q1, .inl (ky 0, 36, .inl (fun _ => 0)))] H := hP
  have hD : va_D A [(a, .inr (7, [.int (nI 0), .int (nI 0), .int (nI 0), .int (nI 0), .int (nI 0), .int (nI 0), .int (nI 0), .int (nI 0), .int (nI 0), .int (nI 0), .ref q1, .null, .null, .null, .null, .null, .null, .null, .null])), (q1, .inl (ky 0, 36, .inl (fun _ => 0)))] := hD
  refine lv_aload_n hx hb dX7_init_12 rfl (lv_at hl 0 rfl) ?_
  refine lv_bipush (v := nI 6) hx hb dX7_init_13 (by decide) ?_
  refine r_newJ hx hb (hts (.arrayClass .long) (List.mem_of_getElem? (i := 6) rfl)) hK hP hD hS hA (by decide) (by decide) (Nat.le_of_ble_eq_true rfl) (Nat.le_of_ble_eq_true rfl) dX7_init_15 (fun q2 H hP hD hS => ?_)
  refine W.widen (k := 2) (n := 42) (Nat.le_of_ble_eq_true rfl) (Nat.le_of_ble_eq_true rfl) ?_
  have hP : va_P (dC, dI) vwCl [(a, .inr (7, [.int (nI 0), .int (nI 0), .int (nI 0), .int (nI 0), .int (nI 0), .int (nI 0), .int (nI 0), .int (nI 0), .int (nI 0), .int (nI 0), .ref q1, .null, .null, .null, .null, .null, .null, .null, .null])), (q1, .inl (ky 0, 36, .inl (fun _ => 0))), (q2, .inl (ky 1, 6, .inr (.inl (fun _ => 0))))] H := hP
  have hD : va_D A [(a, .inr (7, [.int (nI 0), .int (nI 0), .int (nI 0), .int (nI 0), .int (nI 0), .int (nI 0), .int (nI 0), .int (nI 0), .int (nI 0), .int (nI 0), .ref q1, .null, .null, .null, .null, .null, .null, .null, .null])), (q1, .inl (ky 0, 36, .inl (fun _ => 0))), (q2, .inl (ky 1, 6, .inr (.inl (fun _ => 0))))] := hD
  refine va_putF (D := (dC, dI)) (ci := 7) (v := .ref q2) (ty := .array .long) (C := RX7) (T := TX7) (N := 19) hx hb hts hin7 tyX7 tyX7_ok nmX7 hown hK hP hD hS 0 rfl rfl 11 (by decide) (hts (.fieldLink RX7 15 "PorridgeSea$Sea" "lumpNames" "[J") (List.mem_of_getElem? (i := 7) rfl)) (fun _ h9 => h9) rfl hini0 rfl (by decide +kernel) rfl rfl (Nat.le_of_ble_eq_true rfl) dX7_init_17 (fun H locs hP hD hS => ?_)
  have hP : va_P (dC, dI) vwCl [(a, .inr (7, [.int (nI 0), .int (nI 0), .int (nI 0), .int (nI 0), .int (nI 0), .int (nI 0), .int (nI 0), .int (nI 0), .int (nI 0), .int (nI 0), .ref q1, .ref q2, .null, .null, .null, .null, .null, .null, .null])), (q1, .inl (ky 0, 36, .inl (fun _ => 0))), (q2, .inl (ky 1, 6, .inr (.inl (fun _ => 0))))] H := hP
  have hD : va_D A [(a, .inr (7, [.int (nI 0), .int (nI 0), .int (nI 0), .int (nI 0), .int (nI 0), .int (nI 0), .int (nI 0), .int (nI 0), .int (nI 0), .int (nI 0), .ref q1, .ref q2, .null, .null, .null, .null, .null, .null, .null])), (q1, .inl (ky 0, 36, .inl (fun _ => 0))), (q2, .inl (ky 1, 6, .inr (.inl (fun _ => 0))))] := hD
  refine lv_aload_n hx hb dX7_init_20 rfl (lv_at hl 0 rfl) ?_
  refine lv_bipush (v := nI 6) hx hb dX7_init_21 (by decide) ?_
  refine r_newI hx hb (hts (.arrayClass .int) (List.mem_of_getElem? (i := 4) rfl)) hK hP hD hS hA (by decide) (by decide) (Nat.le_of_ble_eq_true rfl) (Nat.le_of_ble_eq_true rfl) dX7_init_23 (fun q3 H hP hD hS => ?_)
  refine W.widen (k := 3) (n := 48) (Nat.le_of_ble_eq_true rfl) (Nat.le_of_ble_eq_true rfl) ?_
  have hP : va_P (dC, dI) vwCl [(a, .inr (7, [.int (nI 0), .int (nI 0), .int (nI 0), .int (nI 0), .int (nI 0), .int (nI 0), .int (nI 0), .int (nI 0), .int (nI 0), .int (nI 0), .ref q1, .ref q2, .null, .null, .null, .null, .null, .null, .null])), (q1, .inl (ky 0, 36, .inl (fun _ => 0))), (q2, .inl (ky 1, 6, .inr (.inl (fun _ => 0)))), (q3, .inl (ky 0, 6, .inl (fun _ => 0)))] H := hP
  have hD : va_D A [(a, .inr (7, [.int (nI 0), .int (nI 0), .int (nI 0), .int (nI 0), .int (nI 0), .int (nI 0), .int (nI 0), .int (nI 0), .int (nI 0), .int (nI 0), .ref q1, .ref q2, .null, .null, .null, .null, .null, .null, .null])), (q1, .inl (ky 0, 36, .inl (fun _ => 0))), (q2, .inl (ky 1, 6, .inr (.inl (fun _ => 0)))), (q3, .inl (ky 0, 6, .inl (fun _ => 0)))] := hD
  refine va_putF (D := (dC, dI)) (ci := 7) (v := .ref q3) (ty := .array .int) (C := RX7) (T := TX7) (N := 19) hx hb hts hin7 tyX7 tyX7_ok nmX7 hown hK hP hD hS 0 rfl rfl 12 (by decide) (hts (.fieldLink RX7 19 "PorridgeSea$Sea" "lumpCells" "[I") (List.mem_of_getElem? (i := 8) rfl)) (fun _ h9 => h9) rfl hini0 rfl (by decide +kernel) rfl rfl (Nat.le_of_ble_eq_true rfl) dX7_init_25 (fun H locs hP hD hS => ?_)
  have hP : va_P (dC, dI) vwCl [(a, .inr (7, [.int (nI 0), .int (nI 0), .int (nI 0), .int (nI 0), .int (nI 0), .int (nI 0), .int (nI 0), .int (nI 0), .int (nI 0), .int (nI 0), .ref q1, .ref q2, .ref q3, .null, .null, .null, .null, .null, .null])), (q1, .inl (ky 0, 36, .inl (fun _ => 0))), (q2, .inl (ky 1, 6, .inr (.inl (fun _ => 0)))), (q3, .inl (ky 0, 6, .inl (fun _ => 0)))] H := hP
  have hD : va_D A [(a, .inr (7, [.int (nI 0), .int (nI 0), .int (nI 0), .int (nI 0), .int (nI 0), .int (nI 0), .int (nI 0), .int (nI 0), .int (nI 0), .int (nI 0), .ref q1, .ref q2, .ref q3, .null, .null, .null, .null, .null, .null])), (q1, .inl (ky 0, 36, .inl (fun _ => 0))), (q2, .inl (ky 1, 6, .inr (.inl (fun _ => 0)))), (q3, .inl (ky 0, 6, .inl (fun _ => 0)))] := hD
  refine lv_aload_n hx hb dX7_init_28 rfl (lv_at hl 0 rfl) ?_
  refine lv_bipush (v := nI 6) hx hb dX7_init_29 (by decide) ?_
  refine r_newJ hx hb (hts (.arrayClass .long) (List.mem_of_getElem? (i := 6) rfl)) hK hP hD hS hA (by decide) (by decide) (Nat.le_of_ble_eq_true rfl) (Nat.le_of_ble_eq_true rfl) dX7_init_31 (fun q4 H hP hD hS => ?_)
  refine W.widen (k := 4) (n := 54) (Nat.le_of_ble_eq_true rfl) (Nat.le_of_ble_eq_true rfl) ?_
  have hP : va_P (dC, dI) vwCl [(a, .inr (7, [.int (nI 0), .int (nI 0), .int (nI 0), .int (nI 0), .int (nI 0), .int (nI 0), .int (nI 0), .int (nI 0), .int (nI 0), .int (nI 0), .ref q1, .ref q2, .ref q3, .null, .null, .null, .null, .null, .null])), (q1, .inl (ky 0, 36, .inl (fun _ => 0))), (q2, .inl (ky 1, 6, .inr (.inl (fun _ => 0)))), (q3, .inl (ky 0, 6, .inl (fun _ => 0))), (q4, .inl (ky 1, 6, .inr (.inl (fun _ => 0))))] H := hP
  have hD : va_D A [(a, .inr (7, [.int (nI 0), .int (nI 0), .int (nI 0), .int (nI 0), .int (nI 0), .int (nI 0), .int (nI 0), .int (nI 0), .int (nI 0), .int (nI 0), .ref q1, .ref q2, .ref q3, .null, .null, .null, .null, .null, .null])), (q1, .inl (ky 0, 36, .inl (fun _ => 0))), (q2, .inl (ky 1, 6, .inr (.inl (fun _ => 0)))), (q3, .inl (ky 0, 6, .inl (fun _ => 0))), (q4, .inl (ky 1, 6, .inr (.inl (fun _ => 0))))] := hD
  refine va_putF (D := (dC, dI)) (ci := 7) (v := .ref q4) (ty := .array .long) (C := RX7) (T := TX7) (N := 19) hx hb hts hin7 tyX7 tyX7_ok nmX7 hown hK hP hD hS 0 rfl rfl 13 (by decide) (hts (.fieldLink RX7 22 "PorridgeSea$Sea" "boatNames" "[J") (List.mem_of_getElem? (i := 9) rfl)) (fun _ h9 => h9) rfl hini0 rfl (by decide +kernel) rfl rfl (Nat.le_of_ble_eq_true rfl) dX7_init_33 (fun H locs hP hD hS => ?_)
  have hP : va_P (dC, dI) vwCl [(a, .inr (7, [.int (nI 0), .int (nI 0), .int (nI 0), .int (nI 0), .int (nI 0), .int (nI 0), .int (nI 0), .int (nI 0), .int (nI 0), .int (nI 0), .ref q1, .ref q2, .ref q3, .ref q4, .null, .null, .null, .null, .null])), (q1, .inl (ky 0, 36, .inl (fun _ => 0))), (q2, .inl (ky 1, 6, .inr (.inl (fun _ => 0)))), (q3, .inl (ky 0, 6, .inl (fun _ => 0))), (q4, .inl (ky 1, 6, .inr (.inl (fun _ => 0))))] H := hP
  have hD : va_D A [(a, .inr (7, [.int (nI 0), .int (nI 0), .int (nI 0), .int (nI 0), .int (nI 0), .int (nI 0), .int (nI 0), .int (nI 0), .int (nI 0), .int (nI 0), .ref q1, .ref q2, .ref q3, .ref q4, .null, .null, .null, .null, .null])), (q1, .inl (ky 0, 36, .inl (fun _ => 0))), (q2, .inl (ky 1, 6, .inr (.inl (fun _ => 0)))), (q3, .inl (ky 0, 6, .inl (fun _ => 0))), (q4, .inl (ky 1, 6, .inr (.inl (fun _ => 0))))] := hD
  refine lv_aload_n hx hb dX7_init_36 rfl (lv_at hl 0 rfl) ?_
  refine lv_bipush (v := nI 6) hx hb dX7_init_37 (by decide) ?_
  refine r_newI hx hb (hts (.arrayClass .int) (List.mem_of_getElem? (i := 4) rfl)) hK hP hD hS hA (by decide) (by decide) (Nat.le_of_ble_eq_true rfl) (Nat.le_of_ble_eq_true rfl) dX7_init_39 (fun q5 H hP hD hS => ?_)
  refine W.widen (k := 5) (n := 60) (Nat.le_of_ble_eq_true rfl) (Nat.le_of_ble_eq_true rfl) ?_
  have hP : va_P (dC, dI) vwCl [(a, .inr (7, [.int (nI 0), .int (nI 0), .int (nI 0), .int (nI 0), .int (nI 0), .int (nI 0), .int (nI 0), .int (nI 0), .int (nI 0), .int (nI 0), .ref q1, .ref q2, .ref q3, .ref q4, .null, .null, .null, .null, .null])), (q1, .inl (ky 0, 36, .inl (fun _ => 0))), (q2, .inl (ky 1, 6, .inr (.inl (fun _ => 0)))), (q3, .inl (ky 0, 6, .inl (fun _ => 0))), (q4, .inl (ky 1, 6, .inr (.inl (fun _ => 0)))), (q5, .inl (ky 0, 6, .inl (fun _ => 0)))] H := hP
  have hD : va_D A [(a, .inr (7, [.int (nI 0), .int (nI 0), .int (nI 0), .int (nI 0), .int (nI 0), .int (nI 0), .int (nI 0), .int (nI 0), .int (nI 0), .int (nI 0), .ref q1, .ref q2, .ref q3, .ref q4, .null, .null, .null, .null, .null])), (q1, .inl (ky 0, 36, .inl (fun _ => 0))), (q2, .inl (ky 1, 6, .inr (.inl (fun _ => 0)))), (q3, .inl (ky 0, 6, .inl (fun _ => 0))), (q4, .inl (ky 1, 6, .inr (.inl (fun _ => 0)))), (q5, .inl (ky 0, 6, .inl (fun _ => 0)))] := hD
  refine va_putF (D := (dC, dI)) (ci := 7) (v := .ref q5) (ty := .array .int) (C := RX7) (T := TX7) (N := 19) hx hb hts hin7 tyX7 tyX7_ok nmX7 hown hK hP hD hS 0 rfl rfl 14 (by decide) (hts (.fieldLink RX7 25 "PorridgeSea$Sea" "boatCells" "[I") (List.mem_of_getElem? (i := 10) rfl)) (fun _ h9 => h9) rfl hini0 rfl (by decide +kernel) rfl rfl (Nat.le_of_ble_eq_true rfl) dX7_init_41 (fun H locs hP hD hS => ?_)
  have hP : va_P (dC, dI) vwCl [(a, .inr (7, [.int (nI 0), .int (nI 0), .int (nI 0), .int (nI 0), .int (nI 0), .int (nI 0), .int (nI 0), .int (nI 0), .int (nI 0), .int (nI 0), .ref q1, .ref q2, .ref q3, .ref q4, .ref q5, .null, .null, .null, .null])), (q1, .inl (ky 0, 36, .inl (fun _ => 0))), (q2, .inl (ky 1, 6, .inr (.inl (fun _ => 0)))), (q3, .inl (ky 0, 6, .inl (fun _ => 0))), (q4, .inl (ky 1, 6, .inr (.inl (fun _ => 0)))), (q5, .inl (ky 0, 6, .inl (fun _ => 0)))] H := hP
  have hD : va_D A [(a, .inr (7, [.int (nI 0), .int (nI 0), .int (nI 0), .int (nI 0), .int (nI 0), .int (nI 0), .int (nI 0), .int (nI 0), .int (nI 0), .int (nI 0), .ref q1, .ref q2, .ref q3, .ref q4, .ref q5, .null, .null, .null, .null])), (q1, .inl (ky 0, 36, .inl (fun _ => 0))), (q2, .inl (ky 1, 6, .inr (.inl (fun _ => 0)))), (q3, .inl (ky 0, 6, .inl (fun _ => 0))), (q4, .inl (ky 1, 6, .inr (.inl (fun _ => 0)))), (q5, .inl (ky 0, 6, .inl (fun _ => 0)))] := hD
  refine lv_aload_n hx hb dX7_init_44 rfl (lv_at hl 0 rfl) ?_
  refine lv_bipush (v := nI 6) hx hb dX7_init_45 (by decide) ?_
  refine r_newI hx hb (hts (.arrayClass .int) (List.mem_of_getElem? (i := 4) rfl)) hK hP hD hS hA (by decide) (by decide) (Nat.le_of_ble_eq_true rfl) (Nat.le_of_ble_eq_true rfl) dX7_init_47 (fun q6 H hP hD hS => ?_)
  refine W.widen (k := 6) (n := 66) (Nat.le_of_ble_eq_true rfl) (Nat.le_of_ble_eq_true rfl) ?_
  have hP : va_P (dC, dI) vwCl [(a, .inr (7, [.int (nI 0), .int (nI 0), .int (nI 0), .int (nI 0), .int (nI 0), .int (nI 0), .int (nI 0), .int (nI 0), .int (nI 0), .int (nI 0), .ref q1, .ref q2, .ref q3, .ref q4, .ref q5, .null, .null, .null, .null])), (q1, .inl (ky 0, 36, .inl (fun _ => 0))), (q2, .inl (ky 1, 6, .inr (.inl (fun _ => 0)))), (q3, .inl (ky 0, 6, .inl (fun _ => 0))), (q4, .inl (ky 1, 6, .inr (.inl (fun _ => 0)))), (q5, .inl (ky 0, 6, .inl (fun _ => 0))), (q6, .inl (ky 0, 6, .inl (fun _ => 0)))] H := hP
  have hD : va_D A [(a, .inr (7, [.int (nI 0), .int (nI 0), .int (nI 0), .int (nI 0), .int (nI 0), .int (nI 0), .int (nI 0), .int (nI 0), .int (nI 0), .int (nI 0), .ref q1, .ref q2, .ref q3, .ref q4, .ref q5, .null, .null, .null, .null])), (q1, .inl (ky 0, 36, .inl (fun _ => 0))), (q2, .inl (ky 1, 6, .inr (.inl (fun _ => 0)))), (q3, .inl (ky 0, 6, .inl (fun _ => 0))), (q4, .inl (ky 1, 6, .inr (.inl (fun _ => 0)))), (q5, .inl (ky 0, 6, .inl (fun _ => 0))), (q6, .inl (ky 0, 6, .inl (fun _ => 0)))] := hD
  refine va_putF (D := (dC, dI)) (ci := 7) (v := .ref q6) (ty := .array .int) (C := RX7) (T := TX7) (N := 19) hx hb hts hin7 tyX7 tyX7_ok nmX7 hown hK hP hD hS 0 rfl rfl 15 (by decide) (hts (.fieldLink RX7 28 "PorridgeSea$Sea" "loads" "[I") (List.mem_of_getElem? (i := 11) rfl)) (fun _ h9 => h9) rfl hini0 rfl (by decide +kernel) rfl rfl (Nat.le_of_ble_eq_true rfl) dX7_init_49 (fun H locs hP hD hS => ?_)
  have hP : va_P (dC, dI) vwCl [(a, .inr (7, [.int (nI 0), .int (nI 0), .int (nI 0), .int (nI 0), .int (nI 0), .int (nI 0), .int (nI 0), .int (nI 0), .int (nI 0), .int (nI 0), .ref q1, .ref q2, .ref q3, .ref q4, .ref q5, .ref q6, .null, .null, .null])), (q1, .inl (ky 0, 36, .inl (fun _ => 0))), (q2, .inl (ky 1, 6, .inr (.inl (fun _ => 0)))), (q3, .inl (ky 0, 6, .inl (fun _ => 0))), (q4, .inl (ky 1, 6, .inr (.inl (fun _ => 0)))), (q5, .inl (ky 0, 6, .inl (fun _ => 0))), (q6, .inl (ky 0, 6, .inl (fun _ => 0)))] H := hP
  have hD : va_D A [(a, .inr (7, [.int (nI 0), .int (nI 0), .int (nI 0), .int (nI 0), .int (nI 0), .int (nI 0), .int (nI 0), .int (nI 0), .int (nI 0), .int (nI 0), .ref q1, .ref q2, .ref q3, .ref q4, .ref q5, .ref q6, .null, .null, .null])), (q1, .inl (ky 0, 36, .inl (fun _ => 0))), (q2, .inl (ky 1, 6, .inr (.inl (fun _ => 0)))), (q3, .inl (ky 0, 6, .inl (fun _ => 0))), (q4, .inl (ky 1, 6, .inr (.inl (fun _ => 0)))), (q5, .inl (ky 0, 6, .inl (fun _ => 0))), (q6, .inl (ky 0, 6, .inl (fun _ => 0)))] := hD
  refine lv_aload_n hx hb dX7_init_52 rfl (lv_at hl 0 rfl) ?_
  refine lv_bipush (v := nI 6) hx hb dX7_init_53 (by decide) ?_
  refine r_newI hx hb (hts (.arrayClass .int) (List.mem_of_getElem? (i := 4) rfl)) hK hP hD hS hA (by decide) (by decide) (Nat.le_of_ble_eq_true rfl) (Nat.le_of_ble_eq_true rfl) dX7_init_55 (fun q7 H hP hD hS => ?_)
  refine W.widen (k := 7) (n := 72) (Nat.le_of_ble_eq_true rfl) (Nat.le_of_ble_eq_true rfl) ?_
  have hP : va_P (dC, dI) vwCl [(a, .inr (7, [.int (nI 0), .int (nI 0), .int (nI 0), .int (nI 0), .int (nI 0), .int (nI 0), .int (nI 0), .int (nI 0), .int (nI 0), .int (nI 0), .ref q1, .ref q2, .ref q3, .ref q4, .ref q5, .ref q6, .null, .null, .null])), (q1, .inl (ky 0, 36, .inl (fun _ => 0))), (q2, .inl (ky 1, 6, .inr (.inl (fun _ => 0)))), (q3, .inl (ky 0, 6, .inl (fun _ => 0))), (q4, .inl (ky 1, 6, .inr (.inl (fun _ => 0)))), (q5, .inl (ky 0, 6, .inl (fun _ => 0))), (q6, .inl (ky 0, 6, .inl (fun _ => 0))), (q7, .inl (ky 0, 6, .inl (fun _ => 0)))] H := hP
  have hD : va_D A [(a, .inr (7, [.int (nI 0), .int (nI 0), .int (nI 0), .int (nI 0), .int (nI 0), .int (nI 0), .int (nI 0), .int (nI 0), .int (nI 0), .int (nI 0), .ref q1, .ref q2, .ref q3, .ref q4, .ref q5, .ref q6, .null, .null, .null])), (q1, .inl (ky 0, 36, .inl (fun _ => 0))), (q2, .inl (ky 1, 6, .inr (.inl (fun _ => 0)))), (q3, .inl (ky 0, 6, .inl (fun _ => 0))), (q4, .inl (ky 1, 6, .inr (.inl (fun _ => 0)))), (q5, .inl (ky 0, 6, .inl (fun _ => 0))), (q6, .inl (ky 0, 6, .inl (fun _ => 0))), (q7, .inl (ky 0, 6, .inl (fun _ => 0)))] := hD
  refine va_putF (D := (dC, dI)) (ci := 7) (v := .ref q7) (ty := .array .int) (C := RX7) (T := TX7) (N := 19) hx hb hts hin7 tyX7 tyX7_ok nmX7 hown hK hP hD hS 0 rfl rfl 16 (by decide) (hts (.fieldLink RX7 31 "PorridgeSea$Sea" "spoons" "[I") (List.mem_of_getElem? (i := 12) rfl)) (fun _ h9 => h9) rfl hini0 rfl (by decide +kernel) rfl rfl (Nat.le_of_ble_eq_true rfl) dX7_init_57 (fun H locs hP hD hS => ?_)
  have hP : va_P (dC, dI) vwCl [(a, .inr (7, [.int (nI 0), .int (nI 0), .int (nI 0), .int (nI 0), .int (nI 0), .int (nI 0), .int (nI 0), .int (nI 0), .int (nI 0), .int (nI 0), .ref q1, .ref q2, .ref q3, .ref q4, .ref q5, .ref q6, .ref q7, .null, .null])), (q1, .inl (ky 0, 36, .inl (fun _ => 0))), (q2, .inl (ky 1, 6, .inr (.inl (fun _ => 0)))), (q3, .inl (ky 0, 6, .inl (fun _ => 0))), (q4, .inl (ky 1, 6, .inr (.inl (fun _ => 0)))), (q5, .inl (ky 0, 6, .inl (fun _ => 0))), (q6, .inl (ky 0, 6, .inl (fun _ => 0))), (q7, .inl (ky 0, 6, .inl (fun _ => 0)))] H := hP
  have hD : va_D A [(a, .inr (7, [.int (nI 0), .int (nI 0), .int (nI 0), .int (nI 0), .int (nI 0), .int (nI 0), .int (nI 0), .int (nI 0), .int (nI 0), .int (nI 0), .ref q1, .ref q2, .ref q3, .ref q4, .ref q5, .ref q6, .ref q7, .null, .null])), (q1, .inl (ky 0, 36, .inl (fun _ => 0))), (q2, .inl (ky 1, 6, .inr (.inl (fun _ => 0)))), (q3, .inl (ky 0, 6, .inl (fun _ => 0))), (q4, .inl (ky 1, 6, .inr (.inl (fun _ => 0)))), (q5, .inl (ky 0, 6, .inl (fun _ => 0))), (q6, .inl (ky 0, 6, .inl (fun _ => 0))), (q7, .inl (ky 0, 6, .inl (fun _ => 0)))] := hD
  refine lv_aload_n hx hb dX7_init_60 rfl (lv_at hl 0 rfl) ?_
  refine lv_bipush (v := nI 6) hx hb dX7_init_61 (by decide) ?_
  refine r_newI hx hb (hts (.arrayClass .int) (List.mem_of_getElem? (i := 4) rfl)) hK hP hD hS hA (by decide) (by decide) (Nat.le_of_ble_eq_true rfl) (Nat.le_of_ble_eq_true rfl) dX7_init_63 (fun q8 H hP hD hS => ?_)
  refine W.widen (k := 8) (n := 78) (Nat.le_of_ble_eq_true rfl) (Nat.le_of_ble_eq_true rfl) ?_
  have hP : va_P (dC, dI) vwCl [(a, .inr (7, [.int (nI 0), .int (nI 0), .int (nI 0), .int (nI 0), .int (nI 0), .int (nI 0), .int (nI 0), .int (nI 0), .int (nI 0), .int (nI 0), .ref q1, .ref q2, .ref q3, .ref q4, .ref q5, .ref q6, .ref q7, .null, .null])), (q1, .inl (ky 0, 36, .inl (fun _ => 0))), (q2, .inl (ky 1, 6, .inr (.inl (fun _ => 0)))), (q3, .inl (ky 0, 6, .inl (fun _ => 0))), (q4, .inl (ky 1, 6, .inr (.inl (fun _ => 0)))), (q5, .inl (ky 0, 6, .inl (fun _ => 0))), (q6, .inl (ky 0, 6, .inl (fun _ => 0))), (q7, .inl (ky 0, 6, .inl (fun _ => 0))), (q8, .inl (ky 0, 6, .inl (fun _ => 0)))] H := hP
  have hD : va_D A [(a, .inr (7, [.int (nI 0), .int (nI 0), .int (nI 0), .int (nI 0), .int (nI 0), .int (nI 0), .int (nI 0), .int (nI 0), .int (nI 0), .int (nI 0), .ref q1, .ref q2, .ref q3, .ref q4, .ref q5, .ref q6, .ref q7, .null, .null])), (q1, .inl (ky 0, 36, .inl (fun _ => 0))), (q2, .inl (ky 1, 6, .inr (.inl (fun _ => 0)))), (q3, .inl (ky 0, 6, .inl (fun _ => 0))), (q4, .inl (ky 1, 6, .inr (.inl (fun _ => 0)))), (q5, .inl (ky 0, 6, .inl (fun _ => 0))), (q6, .inl (ky 0, 6, .inl (fun _ => 0))), (q7, .inl (ky 0, 6, .inl (fun _ => 0))), (q8, .inl (ky 0, 6, .inl (fun _ => 0)))] := hD
  refine va_putF (D := (dC, dI)) (ci := 7) (v := .ref q8) (ty := .array .int) (C := RX7) (T := TX7) (N := 19) hx hb hts hin7 tyX7 tyX7_ok nmX7 hown hK hP hD hS 0 rfl rfl 17 (by decide) (hts (.fieldLink RX7 34 "PorridgeSea$Sea" "spoonsLeft" "[I") (List.mem_of_getElem? (i := 13) rfl)) (fun _ h9 => h9) rfl hini0 rfl (by decide +kernel) rfl rfl (Nat.le_of_ble_eq_true rfl) dX7_init_65 (fun H locs hP hD hS => ?_)
  have hP : va_P (dC, dI) vwCl [(a, .inr (7, [.int (nI 0), .int (nI 0), .int (nI 0), .int (nI 0), .int (nI 0), .int (nI 0), .int (nI 0), .int (nI 0), .int (nI 0), .int (nI 0), .ref q1, .ref q2, .ref q3, .ref q4, .ref q5, .ref q6, .ref q7, .ref q8, .null])), (q1, .inl (ky 0, 36, .inl (fun _ => 0))), (q2, .inl (ky 1, 6, .inr (.inl (fun _ => 0)))), (q3, .inl (ky 0, 6, .inl (fun _ => 0))), (q4, .inl (ky 1, 6, .inr (.inl (fun _ => 0)))), (q5, .inl (ky 0, 6, .inl (fun _ => 0))), (q6, .inl (ky 0, 6, .inl (fun _ => 0))), (q7, .inl (ky 0, 6, .inl (fun _ => 0))), (q8, .inl (ky 0, 6, .inl (fun _ => 0)))] H := hP
  have hD : va_D A [(a, .inr (7, [.int (nI 0), .int (nI 0), .int (nI 0), .int (nI 0), .int (nI 0), .int (nI 0), .int (nI 0), .int (nI 0), .int (nI 0), .int (nI 0), .ref q1, .ref q2, .ref q3, .ref q4, .ref q5, .ref q6, .ref q7, .ref q8, .null])), (q1, .inl (ky 0, 36, .inl (fun _ => 0))), (q2, .inl (ky 1, 6, .inr (.inl (fun _ => 0)))), (q3, .inl (ky 0, 6, .inl (fun _ => 0))), (q4, .inl (ky 1, 6, .inr (.inl (fun _ => 0)))), (q5, .inl (ky 0, 6, .inl (fun _ => 0))), (q6, .inl (ky 0, 6, .inl (fun _ => 0))), (q7, .inl (ky 0, 6, .inl (fun _ => 0))), (q8, .inl (ky 0, 6, .inl (fun _ => 0)))] := hD
  refine lv_aload_n hx hb dX7_init_68 rfl (lv_at hl 0 rfl) ?_
  refine lv_bipush (v := nI 6) hx hb dX7_init_69 (by decide) ?_
  refine r_newI hx hb (hts (.arrayClass .int) (List.mem_of_getElem? (i := 4) rfl)) hK hP hD hS hA (by decide) (by decide) (Nat.le_of_ble_eq_true rfl) (Nat.le_of_ble_eq_true rfl) dX7_init_71 (fun q9 H hP hD hS => ?_)
  refine W.widen (k := 9) (n := 84) (Nat.le_of_ble_eq_true rfl) (Nat.le_of_ble_eq_true rfl) ?_
  have hP : va_P (dC, dI) vwCl [(a, .inr (7, [.int (nI 0), .int (nI 0), .int (nI 0), .int (nI 0), .int (nI 0), .int (nI 0), .int (nI 0), .int (nI 0), .int (nI 0), .int (nI 0), .ref q1, .ref q2, .ref q3, .ref q4, .ref q5, .ref q6, .ref q7, .ref q8, .null])), (q1, .inl (ky 0, 36, .inl (fun _ => 0))), (q2, .inl (ky 1, 6, .inr (.inl (fun _ => 0)))), (q3, .inl (ky 0, 6, .inl (fun _ => 0))), (q4, .inl (ky 1, 6, .inr (.inl (fun _ => 0)))), (q5, .inl (ky 0, 6, .inl (fun _ => 0))), (q6, .inl (ky 0, 6, .inl (fun _ => 0))), (q7, .inl (ky 0, 6, .inl (fun _ => 0))), (q8, .inl (ky 0, 6, .inl (fun _ => 0))), (q9, .inl (ky 0, 6, .inl (fun _ => 0)))] H := hP
  have hD : va_D A [(a, .inr (7, [.int (nI 0), .int (nI 0), .int (nI 0), .int (nI 0), .int (nI 0), .int (nI 0), .int (nI 0), .int (nI 0), .int (nI 0), .int (nI 0), .ref q1, .ref q2, .ref q3, .ref q4, .ref q5, .ref q6, .ref q7, .ref q8, .null])), (q1, .inl (ky 0, 36, .inl (fun _ => 0))), (q2, .inl (ky 1, 6, .inr (.inl (fun _ => 0)))), (q3, .inl (ky 0, 6, .inl (fun _ => 0))), (q4, .inl (ky 1, 6, .inr (.inl (fun _ => 0)))), (q5, .inl (ky 0, 6, .inl (fun _ => 0))), (q6, .inl (ky 0, 6, .inl (fun _ => 0))), (q7, .inl (ky 0, 6, .inl (fun _ => 0))), (q8, .inl (ky 0, 6, .inl (fun _ => 0))), (q9, .inl (ky 0, 6, .inl (fun _ => 0)))] := hD
  refine va_putF (D := (dC, dI)) (ci := 7) (v := .ref q9) (ty := .array .int) (C := RX7) (T := TX7) (N := 19) hx hb hts hin7 tyX7 tyX7_ok nmX7 hown hK hP hD hS 0 rfl rfl 18 (by decide) (hts (.fieldLink RX7 37 "PorridgeSea$Sea" "depths" "[I") (List.mem_of_getElem? (i := 14) rfl)) (fun _ h9 => h9) rfl hini0 rfl (by decide +kernel) rfl rfl (Nat.le_of_ble_eq_true rfl) dX7_init_73 (fun H locs hP hD hS => ?_)
  have hP : va_P (dC, dI) vwCl [(a, .inr (7, [.int (nI 0), .int (nI 0), .int (nI 0), .int (nI 0), .int (nI 0), .int (nI 0), .int (nI 0), .int (nI 0), .int (nI 0), .int (nI 0), .ref q1, .ref q2, .ref q3, .ref q4, .ref q5, .ref q6, .ref q7, .ref q8, .ref q9])), (q1, .inl (ky 0, 36, .inl (fun _ => 0))), (q2, .inl (ky 1, 6, .inr (.inl (fun _ => 0)))), (q3, .inl (ky 0, 6, .inl (fun _ => 0))), (q4, .inl (ky 1, 6, .inr (.inl (fun _ => 0)))), (q5, .inl (ky 0, 6, .inl (fun _ => 0))), (q6, .inl (ky 0, 6, .inl (fun _ => 0))), (q7, .inl (ky 0, 6, .inl (fun _ => 0))), (q8, .inl (ky 0, 6, .inl (fun _ => 0))), (q9, .inl (ky 0, 6, .inl (fun _ => 0)))] H := hP
  have hD : va_D A [(a, .inr (7, [.int (nI 0), .int (nI 0), .int (nI 0), .int (nI 0), .int (nI 0), .int (nI 0), .int (nI 0), .int (nI 0), .int (nI 0), .int (nI 0), .ref q1, .ref q2, .ref q3, .ref q4, .ref q5, .ref q6, .ref q7, .ref q8, .ref q9])), (q1, .inl (ky 0, 36, .inl (fun _ => 0))), (q2, .inl (ky 1, 6, .inr (.inl (fun _ => 0)))), (q3, .inl (ky 0, 6, .inl (fun _ => 0))), (q4, .inl (ky 1, 6, .inr (.inl (fun _ => 0)))), (q5, .inl (ky 0, 6, .inl (fun _ => 0))), (q6, .inl (ky 0, 6, .inl (fun _ => 0))), (q7, .inl (ky 0, 6, .inl (fun _ => 0))), (q8, .inl (ky 0, 6, .inl (fun _ => 0))), (q9, .inl (ky 0, 6, .inl (fun _ => 0)))] := hD
  refine lv_aload_n hx hb dX7_init_76 rfl (lv_at hl 0 rfl) ?_
  refine r_call_v (wr := [(q2, .inl (ky 1, 6, .inr (.inl (fun _ => 0)))), (q3, .inl (ky 0, 6, .inl (fun _ => 0))), (q4, .inl (ky 1, 6, .inr (.inl (fun _ => 0)))), (q5, .inl (ky 0, 6, .inl (fun _ => 0))), (q6, .inl (ky 0, 6, .inl (fun _ => 0))), (q7, .inl (ky 0, 6, .inl (fun _ => 0))), (q8, .inl (ky 0, 6, .inl (fun _ => 0))), (q9, .inl (ky 0, 6, .inl (fun _ => 0)))]) (va_runV (As := []) (rest := []) ⟨hx, hb, hml, hown, hts⟩ (c_empty l dC dI ky H.size a (nI 0) (nI 0) (nI 0) (nI 0) (nI 0) (nI 0) (nI 0) (nI 0) (nI 0) (nI 0) q1 q2 q3 q4 q5 q6 q7 q8 q9 (fun _ => 0)) (cwV 0 hts gX7_init_X7_empty rfl rfl rfl (by decide +kernel) ⟨(Nat.le_of_ble_eq_true rfl), (Nat.le_of_ble_eq_true rfl)⟩) (pre_UV hK hP hD [0, 1] (by decide) rfl (ci := 7) (q0 := 0) rfl rfl) rfl rfl hl.1 rfl (lv_room (Nat.le_of_ble_eq_true rfl)) dX7_init_77 ⟨(Nat.le_of_ble_eq_true rfl), (Nat.le_of_ble_eq_true rfl)⟩) hP hD hS hA [0, 1] [2, 3, 4, 5, 6, 7, 8, 9] rfl rfl (by decide) (by decide) (fun  u10 H locs p11 hP hD hS => ?_)
  obtain ⟨thicknessG_12, rfl⟩ : ∃ z, z = u10 := ⟨_, rfl⟩
  try dsimp only at p11
  have p13 := p11
  refine W.widen (k := 9) (n := 84) (Nat.le_of_ble_eq_true rfl) (Nat.le_of_ble_eq_true rfl) ?_
  have hP : va_P (dC, dI) vwCl [(q2, .inl (ky 1, 6, .inr (.inl (fun _ => 0)))), (q3, .inl (ky 0, 6, .inl (fun _ => 0))), (q4, .inl (ky 1, 6, .inr (.inl (fun _ => 0)))), (q5, .inl (ky 0, 6, .inl (fun _ => 0))), (q6, .inl (ky 0, 6, .inl (fun _ => 0))), (q7, .inl (ky 0, 6, .inl (fun _ => 0))), (q8, .inl (ky 0, 6, .inl (fun _ => 0))), (q9, .inl (ky 0, 6, .inl (fun _ => 0))), (a, .inr (7, [.int (nI 4), .int (nI 4), .int (nI 10), .int (nI 1), .int (nI 3), .int (nI 0), .int (nI 0), .int (nI 0), .int (nI 0), .int (nI 0), .ref q1, .ref q2, .ref q3, .ref q4, .ref q5, .ref q6, .ref q7, .ref q8, .ref q9])), (q1, .inl (ky 0, 36, .inl thicknessG_12))] H := hP
  have hD : va_D A [(q2, .inl (ky 1, 6, .inr (.inl (fun _ => 0)))), (q3, .inl (ky 0, 6, .inl (fun _ => 0))), (q4, .inl (ky 1, 6, .inr (.inl (fun _ => 0)))), (q5, .inl (ky 0, 6, .inl (fun _ => 0))), (q6, .inl (ky 0, 6, .inl (fun _ => 0))), (q7, .inl (ky 0, 6, .inl (fun _ => 0))), (q8, .inl (ky 0, 6, .inl (fun _ => 0))), (q9, .inl (ky 0, 6, .inl (fun _ => 0))), (a, .inr (7, [.int (nI 4), .int (nI 4), .int (nI 10), .int (nI 1), .int (nI 3), .int (nI 0), .int (nI 0), .int (nI 0), .int (nI 0), .int (nI 0), .ref q1, .ref q2, .ref q3, .ref q4, .ref q5, .ref q6, .ref q7, .ref q8, .ref q9])), (q1, .inl (ky 0, 36, .inl thicknessG_12))] := hD
  have hP9 := hP.sub (ws' := [(a, .inr (7, [.int (nI 4), .int (nI 4), .int (nI 10), .int (nI 1), .int (nI 3), .int (nI 0), .int (nI 0), .int (nI 0), .int (nI 0), .int (nI 0), .ref q1, .ref q2, .ref q3, .ref q4, .ref q5, .ref q6, .ref q7, .ref q8, .ref q9])), (q1, .inl (ky 0, 36, .inl thicknessG_12)), (q2, .inl (ky 1, 6, .inr (.inl (fun _ => 0)))), (q3, .inl (ky 0, 6, .inl (fun _ => 0))), (q4, .inl (ky 1, 6, .inr (.inl (fun _ => 0)))), (q5, .inl (ky 0, 6, .inl (fun _ => 0))), (q6, .inl (ky 0, 6, .inl (fun _ => 0))), (q7, .inl (ky 0, 6, .inl (fun _ => 0))), (q8, .inl (ky 0, 6, .inl (fun _ => 0))), (q9, .inl (ky 0, 6, .inl (fun _ => 0)))]) [8, 9, 0, 1, 2, 3, 4, 5, 6, 7] rfl
  have hD9 := hD.sub (ws' := [(a, .inr (7, [.int (nI 4), .int (nI 4), .int (nI 10), .int (nI 1), .int (nI 3), .int (nI 0), .int (nI 0), .int (nI 0), .int (nI 0), .int (nI 0), .ref q1, .ref q2, .ref q3, .ref q4, .ref q5, .ref q6, .ref q7, .ref q8, .ref q9])), (q1, .inl (ky 0, 36, .inl thicknessG_12)), (q2, .inl (ky 1, 6, .inr (.inl (fun _ => 0)))), (q3, .inl (ky 0, 6, .inl (fun _ => 0))), (q4, .inl (ky 1, 6, .inr (.inl (fun _ => 0)))), (q5, .inl (ky 0, 6, .inl (fun _ => 0))), (q6, .inl (ky 0, 6, .inl (fun _ => 0))), (q7, .inl (ky 0, 6, .inl (fun _ => 0))), (q8, .inl (ky 0, 6, .inl (fun _ => 0))), (q9, .inl (ky 0, 6, .inl (fun _ => 0)))]) [8, 9, 0, 1, 2, 3, 4, 5, 6, 7] (by decide) rfl
  refine W.widen (k := 9) (n := 84) (Nat.le_of_ble_eq_true rfl) (Nat.le_of_ble_eq_true rfl) ?_
  exact W.vret hx hb hr (fun t ht9 hW9 => ⟨⟨(q1, q2, q3, q4, q5, q6, q7, q8, q9, thicknessG_12), rfl, (lf_Sea_init_1 a q1 q2 q3 q4 q5 q6 q7 q8 q9 thicknessG_12 p13), by rw [ht9]; exact hP9, va_K.moved hW9.alike hK, hD9⟩, hS.F ht9⟩) hS.2.2 dX7_init_80
