def wsX11_boat : List Cond := .code yX11_boat cX11_boat 3 (some .int) :: ((wsX11_boat_r1 ++ wsX11_boat_r2) ++ wsX110 ++ wsX70 ++ (th_atS RX11 164 "java/util/NoSuchElementException" ["java/lang/RuntimeException", "java/lang/Exception"]).filter goodWord)
def wsX11_mean : List Cond := .code yX11_mean cX11_mean 5 (some .int) :: ([.classLink RX11 160 "java/util/NoSuchElementException", .initialized "java/util/NoSuchElementException", .fieldLink RX11 26 "PorridgeSea" "sea" "LPorridgeSea$Sea;", .fieldLink RX11 200 "PorridgeSea$Sea" "high" "I", .fieldLink RX11 197 "PorridgeSea$Sea" "wide" "I", .methodLink RX11 145 yX7_thicknessIn, .instanceMethod yX7_thicknessIn, .selects RX7 yX7_thicknessIn yX7_thicknessIn, .initialized RX7, .code yX7_thicknessIn cX7_thicknessIn 2 (some .int), .fieldLink RX7 9 "PorridgeSea$Sea" "thickness" "[I", .methodLink RX11 292 yX11_commonDivisor, .static yX11_commonDivisor, .initialized RX11, .code yX11_commonDivisor cX11_commonDivisor 3 (some .int)] ++ wsX110 ++ wsX70 ++ (th_atS RX11 164 "java/util/NoSuchElementException" ["java/lang/RuntimeException", "java/lang/Exception"]).filter goodWord)
abbrev thC : String := "java/util/NoSuchElementException"
def thBad : List Cond := (th_atS RX11 164 thC ["java/lang/RuntimeException", "java/lang/Exception"]).filter (fun w => !goodWord w)
abbrev thBadL : List Cond := [.declares (Bundle.initS "java/lang/RuntimeException"), .declares (Bundle.initS "java/lang/Exception"), .declares (Bundle.initS Bundle.tN), .castable thC thC]
theorem thBad_one : thBad = thBadL := by decide +kernel
theorem th_ot : ∀ w ∈ Cond.classLink RX11 160 thC :: Cond.initialized thC :: th_atS RX11 164 thC ["java/lang/RuntimeException", "java/lang/Exception"], vx_ot w = true := by decide +kernel
/-- what a throw needs of the start -/
def ThE (U : State) (HH : Heap) : Prop := vx_Zq Bundle.tN "UNASSIGNED_STACK" Bundle.steD (fun _ => False) U HH ∧ vx_Zq Bundle.tN "SUPPRESSED_SENTINEL" Bundle.listD (fun _ => False) U HH ∧ (∃ sa, vk_R RX11 162 "no such boat, or nothing such of it" sa U) ∧ (∃ sa, vk_R RX11 290 "no such row, or no such number" sa U) ∧ va_Nw (.declares (Bundle.initS "java/lang/RuntimeException")) U ∧ va_Nw (.declares (Bundle.initS "java/lang/Exception")) U ∧ va_Nw (.declares (Bundle.initS Bundle.tN)) U ∧ va_Nw (.castable thC thC) U
theorem ThE.warm {s U : State} {HH : Heap} (hW : s.WarmedH U.vm) (h : ThE s HH) : ThE U HH := by
  obtain ⟨h1, h2, ⟨sa, h3⟩, ⟨sb, h4⟩, h5, h6, h7, h8⟩ := h
  exact ⟨h1.moved hW.alike, h2.moved hW.alike, ⟨sa, h3.warm hW⟩, ⟨sb, h4.warm hW⟩, va_Nw.warmD hW h5, va_Nw.warmD hW h6, va_Nw.warmD hW h7, va_Nw.warmC hW h8⟩
theorem ThE.kept {s : State} {H H1 : Heap} (hq : ∀ a : Nat, a < H.size → H1[a]? = H[a]?) (h : ThE s H) : ThE s H1 := ⟨h.1.kept (fun a h1 _ => hq a h1), h.2.1.kept (fun a h1 _ => hq a h1), h.2.2⟩
/-- a start that reads and may throw -/
def PcT (dC : Nat → ClassId) (dI : Nat → Nat → Nat) (ky : Nat → ClassId) (av : List Value) (ws : va_W) (sz : Nat) : Array Value → State → Prop := va_Pc av (fun U => U.heap.size = sz ∧ va_P (dC, dI) vwCl ws U.heap ∧ Kk dC dI ky U ∧ va_D (fun _ => True) ws ∧ ThE U U.heap)
theorem PcT_blind {dC : Nat → ClassId} {dI : Nat → Nat → Nat} {ky : Nat → ClassId} {av : List Value} {ws : va_W} {sz : Nat} : FrameBlind (PcT dC dI ky av ws sz) := by
  intro a U g mk q
  obtain ⟨q0, q1, qP, qK, qD, q2, q3, ⟨sa, q4⟩, ⟨sb, q5⟩, q6, q7, q8, q9⟩ := q
  exact ⟨q0, q1, qP, va_K.moved (u := U) (U := U.calling g mk a) (Vm.Alike.refl U.vm) qK, qD, vx_Zq.moved (u := U) (U := U.calling g mk a) (Vm.Alike.refl U.vm) q2, vx_Zq.moved (u := U) (U := U.calling g mk a) (Vm.Alike.refl U.vm) q3, ⟨sa, vk_R.same (u := U) (U := U.calling g mk a) rfl q4⟩, ⟨sb, vk_R.same (u := U) (U := U.calling g mk a) rfl q5⟩, va_Nw.same rfl (u := U) (U := U.calling g mk a) rfl q6, va_Nw.same rfl (u := U) (U := U.calling g mk a) rfl q7, va_Nw.same rfl (u := U) (U := U.calling g mk a) rfl q8, va_Nw.same rfl (u := U) (U := U.calling g mk a) rfl q9⟩
section PreT
variable {s : State} {H : Heap} {A : Nat → Prop} {ws wc : va_W} {dC : Nat → ClassId} {dI : Nat → Nat → Nat} {ky : Nat → ClassId} {b : Nat} {As : List Value}
theorem pre_TV (hT : ThE s H) (hK : Kk dC dI ky s) (hP : va_P (dC, dI) vwCl ws H) (hD : va_D A ws) (isC : List Nat) (hn : va_nd isC = true) (hC : isC.map (fun i => ws[i]?) = wc.map some) {ci q0 : Nat} {q : vw_C} {fs : List Value} (hc : vwCl[ci]? = some q) (he : ws[q0]? = some (b, .inr (ci, fs))) : PreV s H q.1 b (PcT dC dI ky (.ref b :: As) wc H.size) As :=
  ⟨PcT_blind, va_recv hK hP hc he, fun U hU hW => ⟨rfl, by rw [hU], by rw [hU]; exact hP.sub isC (sub_fm hC), va_K.moved hW.alike hK, (hD.sub isC hn hC).weaken (fun _ _ _ _ => trivial), by rw [hU]; exact hT.warm hW⟩⟩
theorem pre_TS (hT : ThE s H) (hK : Kk dC dI ky s) (hP : va_P (dC, dI) vwCl ws H) (hD : va_D A ws) (isC : List Nat) (hn : va_nd isC = true) (hC : isC.map (fun i => ws[i]?) = wc.map some) : PreS s H (PcT dC dI ky As wc H.size) As :=
  ⟨PcT_blind, fun U hU hW => ⟨rfl, by rw [hU], by rw [hU]; exact hP.sub isC (sub_fm hC), va_K.moved hW.alike hK, (hD.sub isC hn hC).weaken (fun _ _ _ _ => trivial), by rw [hU]; exact hT.warm hW⟩⟩
end PreT
abbrev thX : String → State → State → Prop := vx_X (fun _ : Unit => True) (fun E _ _ => E = thC) (fun _ => False)
