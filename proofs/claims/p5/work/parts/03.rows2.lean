/-- what else stands in the tables: the arrays of Sea and of Image, the two constructors that a nest mate calls -/
def Ext (U : State) : Prop := va_AO "PorridgeSea$Sea" U ∧ va_AO "PorridgeSea$Image" U ∧ va_Nw (.methodLinkNest RX11 35 yX8_init "PorridgeSea") U ∧ va_Nw (.methodLinkNest RX11 80 yX1_init "PorridgeSea") U
theorem Ext.warm {s U : State} (hW : s.WarmedH U.vm) (h : Ext s) : Ext U := ⟨va_AO.moved hW.alike h.1, va_AO.moved hW.alike h.2.1, va_Nw.warmM hW h.2.2.1, va_Nw.warmM hW h.2.2.2⟩
def PcX (dC : Nat → ClassId) (dI : Nat → Nat → Nat) (ky : Nat → ClassId) (av : List Value) (ws : va_W) (sz : Nat) : Array Value → State → Prop := va_Pc av (fun U => U.heap.size = sz ∧ va_P (dC, dI) vwCl ws U.heap ∧ Kk dC dI ky U ∧ va_D (fun _ => True) ws ∧ Ext U)
theorem PcX_blind {dC : Nat → ClassId} {dI : Nat → Nat → Nat} {ky : Nat → ClassId} {av : List Value} {ws : va_W} {sz : Nat} : FrameBlind (PcX dC dI ky av ws sz) := by
  intro a U g mk q
  obtain ⟨q0, q1, qP, qK, qD, qE⟩ := q
  exact ⟨q0, q1, qP, va_K.moved (u := U) (U := U.calling g mk a) (Vm.Alike.refl U.vm) qK, qD, va_AO.moved (u := U) (U := U.calling g mk a) (Vm.Alike.refl U.vm) qE.1, va_AO.moved (u := U) (U := U.calling g mk a) (Vm.Alike.refl U.vm) qE.2.1, va_Nw.same rfl (u := U) (U := U.calling g mk a) rfl qE.2.2.1, va_Nw.same rfl (u := U) (U := U.calling g mk a) rfl qE.2.2.2⟩
theorem pre_XS {s : State} {H : Heap} {A : Nat → Prop} {ws wc : va_W} {dC : Nat → ClassId} {dI : Nat → Nat → Nat} {ky : Nat → ClassId} {As : List Value} (hE : Ext s) (hK : Kk dC dI ky s) (hP : va_P (dC, dI) vwCl ws H) (hD : va_D A ws) (isC : List Nat) (hn : va_nd isC = true) (hC : isC.map (fun i => ws[i]?) = wc.map some) : PreS s H (PcX dC dI ky As wc H.size) As :=
  ⟨PcX_blind, fun U hU hW => ⟨rfl, by rw [hU], by rw [hU]; exact hP.sub isC (sub_fm hC), va_K.moved hW.alike hK, (hD.sub isC hn hC).weaken (fun _ _ _ _ => trivial), hE.warm hW⟩⟩
theorem l_zsr (y : Int64) : (0 : Int64) >>> y = 0 := by
  rw [← Int64.toBitVec_inj]; simp [Int64.toBitVec_shiftRight]
theorem neg_or (x : Int32) : x < 0 ∨ ∃ n : Nat, n < 2147483648 ∧ x = nI n := by
  by_cases h : x < 0
  · exact Or.inl h
  · exact Or.inr (nI_of h)
