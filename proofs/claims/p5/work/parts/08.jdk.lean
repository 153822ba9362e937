theorem dJ3_checkIndex_8e157_0 : decode cJ3_checkIndex_8e157 0 = .ok (.iload_n 0, 1) := by decide +kernel
theorem dJ3_checkIndex_8e157_1 : decode cJ3_checkIndex_8e157 1 = .ok (.ifCond .lt 8, 3) := by decide +kernel
theorem dJ3_checkIndex_8e157_4 : decode cJ3_checkIndex_8e157 4 = .ok (.iload_n 0, 1) := by decide +kernel
theorem dJ3_checkIndex_8e157_5 : decode cJ3_checkIndex_8e157 5 = .ok (.iload_n 1, 1) := by decide +kernel
theorem dJ3_checkIndex_8e157_6 : decode cJ3_checkIndex_8e157 6 = .ok (.if_icmp .lt 10, 3) := by decide +kernel
theorem dJ3_checkIndex_8e157_16 : decode cJ3_checkIndex_8e157 16 = .ok (.iload_n 0, 1) := by decide +kernel
theorem dJ3_checkIndex_8e157_17 : decode cJ3_checkIndex_8e157 17 = .ok (.ireturn, 1) := by decide +kernel
theorem dJ0_checkIndex_df160_0 : decode cJ0_checkIndex_df160 0 = .ok (.iload_n 0, 1) := by decide +kernel
theorem dJ0_checkIndex_df160_1 : decode cJ0_checkIndex_df160 1 = .ok (.iload_n 1, 1) := by decide +kernel
theorem dJ0_checkIndex_df160_2 : decode cJ0_checkIndex_df160 2 = .ok (.getstatic 1053, 3) := by decide +kernel
theorem dJ0_checkIndex_df160_5 : decode cJ0_checkIndex_df160 5 = .ok (.invokestatic 1059, 3) := by decide +kernel
theorem dJ0_checkIndex_df160_8 : decode cJ0_checkIndex_df160 8 = .ok (.pop, 1) := by decide +kernel
theorem dJ0_checkIndex_df160_9 : decode cJ0_checkIndex_df160 9 = .ok (.return_, 1) := by decide +kernel
theorem dJ0_coder_7d493_0 : decode cJ0_coder_7d493 0 = .ok (.getstatic 38, 3) := by decide +kernel
theorem dJ0_coder_7d493_3 : decode cJ0_coder_7d493 3 = .ok (.ifCond .eq 10, 3) := by decide +kernel
theorem dJ0_coder_7d493_6 : decode cJ0_coder_7d493 6 = .ok (.aload_n 0, 1) := by decide +kernel
theorem dJ0_coder_7d493_7 : decode cJ0_coder_7d493 7 = .ok (.getfield 15, 3) := by decide +kernel
theorem dJ0_coder_7d493_10 : decode cJ0_coder_7d493 10 = .ok (.goto 4, 3) := by decide +kernel
theorem dJ0_coder_7d493_14 : decode cJ0_coder_7d493 14 = .ok (.ireturn, 1) := by decide +kernel
theorem dJ0_isLatin1_aae02_0 : decode cJ0_isLatin1_aae02 0 = .ok (.getstatic 38, 3) := by decide +kernel
theorem dJ0_isLatin1_aae02_3 : decode cJ0_isLatin1_aae02 3 = .ok (.ifCond .eq 14, 3) := by decide +kernel
theorem dJ0_isLatin1_aae02_6 : decode cJ0_isLatin1_aae02 6 = .ok (.aload_n 0, 1) := by decide +kernel
theorem dJ0_isLatin1_aae02_7 : decode cJ0_isLatin1_aae02 7 = .ok (.getfield 15, 3) := by decide +kernel
theorem dJ0_isLatin1_aae02_10 : decode cJ0_isLatin1_aae02 10 = .ok (.ifCond .ne 7, 3) := by decide +kernel
theorem dJ0_isLatin1_aae02_13 : decode cJ0_isLatin1_aae02 13 = .ok (.iconst 1, 1) := by decide +kernel
theorem dJ0_isLatin1_aae02_14 : decode cJ0_isLatin1_aae02 14 = .ok (.goto 4, 3) := by decide +kernel
theorem dJ0_isLatin1_aae02_18 : decode cJ0_isLatin1_aae02 18 = .ok (.ireturn, 1) := by decide +kernel
theorem dJ0_length_8abf5_0 : decode cJ0_length_8abf5 0 = .ok (.aload_n 0, 1) := by decide +kernel
theorem dJ0_length_8abf5_1 : decode cJ0_length_8abf5 1 = .ok (.getfield 9, 3) := by decide +kernel
theorem dJ0_length_8abf5_4 : decode cJ0_length_8abf5 4 = .ok (.arraylength, 1) := by decide +kernel
theorem dJ0_length_8abf5_5 : decode cJ0_length_8abf5 5 = .ok (.aload_n 0, 1) := by decide +kernel
theorem dJ0_length_8abf5_6 : decode cJ0_length_8abf5 6 = .ok (.invokevirtual 335, 3) := by decide +kernel
theorem dJ0_length_8abf5_9 : decode cJ0_length_8abf5 9 = .ok (.ishr, 1) := by decide +kernel
theorem dJ0_length_8abf5_10 : decode cJ0_length_8abf5 10 = .ok (.ireturn, 1) := by decide +kernel
theorem dJ1_charAt_3b067_0 : decode cJ1_charAt_3b067 0 = .ok (.iload_n 1, 1) := by decide +kernel
theorem dJ1_charAt_3b067_1 : decode cJ1_charAt_3b067 1 = .ok (.aload_n 0, 1) := by decide +kernel
theorem dJ1_charAt_3b067_2 : decode cJ1_charAt_3b067 2 = .ok (.arraylength, 1) := by decide +kernel
theorem dJ1_charAt_3b067_3 : decode cJ1_charAt_3b067 3 = .ok (.invokestatic 9, 3) := by decide +kernel
theorem dJ1_charAt_3b067_6 : decode cJ1_charAt_3b067 6 = .ok (.aload_n 0, 1) := by decide +kernel
theorem dJ1_charAt_3b067_7 : decode cJ1_charAt_3b067 7 = .ok (.iload_n 1, 1) := by decide +kernel
theorem dJ1_charAt_3b067_8 : decode cJ1_charAt_3b067 8 = .ok (.baload, 1) := by decide +kernel
theorem dJ1_charAt_3b067_9 : decode cJ1_charAt_3b067 9 = .ok (.sipush 255, 3) := by decide +kernel
theorem dJ1_charAt_3b067_12 : decode cJ1_charAt_3b067 12 = .ok (.iand, 1) := by decide +kernel
theorem dJ1_charAt_3b067_13 : decode cJ1_charAt_3b067 13 = .ok (.i2c, 1) := by decide +kernel
theorem dJ1_charAt_3b067_14 : decode cJ1_charAt_3b067 14 = .ok (.ireturn, 1) := by decide +kernel
theorem dJ0_charAt_5068e_0 : decode cJ0_charAt_5068e 0 = .ok (.aload_n 0, 1) := by decide +kernel
theorem dJ0_charAt_5068e_1 : decode cJ0_charAt_5068e 1 = .ok (.invokevirtual 492, 3) := by decide +kernel
theorem dJ0_charAt_5068e_4 : decode cJ0_charAt_5068e 4 = .ok (.ifCond .eq 12, 3) := by decide +kernel
theorem dJ0_charAt_5068e_7 : decode cJ0_charAt_5068e 7 = .ok (.aload_n 0, 1) := by decide +kernel
theorem dJ0_charAt_5068e_8 : decode cJ0_charAt_5068e 8 = .ok (.getfield 9, 3) := by decide +kernel
theorem dJ0_charAt_5068e_11 : decode cJ0_charAt_5068e 11 = .ok (.iload_n 1, 1) := by decide +kernel
theorem dJ0_charAt_5068e_12 : decode cJ0_charAt_5068e 12 = .ok (.invokestatic 495, 3) := by decide +kernel
theorem dJ0_charAt_5068e_15 : decode cJ0_charAt_5068e 15 = .ok (.ireturn, 1) := by decide +kernel
set_option maxRecDepth 100000 in
theorem ggJ0_checkIndex_df160_J3_checkIndex_8e157 : GoodIn wsJ0_checkIndex_df160 wsJ3_checkIndex_8e157 := goodIn_r _ [5] rfl (by decide +kernel)
set_option maxRecDepth 100000 in
theorem ggJ0_length_8abf5_J0_coder_7d493 : GoodIn wsJ0_length_8abf5 wsJ0_coder_7d493 := goodIn_r _ [6, 7, 8] rfl (by decide +kernel)
set_option maxRecDepth 100000 in
theorem ggJ1_charAt_3b067_J0_checkIndex_df160 : GoodIn wsJ1_charAt_3b067 wsJ0_checkIndex_df160 := goodIn_r _ [4, 5, 6, 7, 8, 9] rfl (by decide +kernel)
set_option maxRecDepth 100000 in
theorem ggJ0_charAt_5068e_J0_isLatin1_aae02 : GoodIn wsJ0_charAt_5068e wsJ0_isLatin1_aae02 := goodIn_r _ [6, 7, 8] rfl (by decide +kernel)
set_option maxRecDepth 100000 in
theorem ggJ0_charAt_5068e_J1_charAt_3b067 : GoodIn wsJ0_charAt_5068e wsJ1_charAt_3b067 := goodIn_r _ [12, 13, 14, 5, 15, 16, 17, 18, 19, 20] rfl (by decide +kernel)
set_option maxRecDepth 100000 in
theorem gJ0_checkIndex_df160_J3_checkIndex_8e157 : GoodIn wsJ0_checkIndex_df160 (va_wsS RJ0 1059 yJ3_checkIndex_8e157 wsJ3_checkIndex_8e157) := goodIn_app (goodIn_of _ (by decide +kernel)) ggJ0_checkIndex_df160_J3_checkIndex_8e157
set_option maxRecDepth 100000 in
theorem gJ0_length_8abf5_J0_coder_7d493 : GoodIn wsJ0_length_8abf5 (wsV RJ0 335 RJ0 yJ0_coder_7d493 wsJ0_coder_7d493) := goodIn_app (goodIn_of _ (by decide +kernel)) ggJ0_length_8abf5_J0_coder_7d493
set_option maxRecDepth 100000 in
theorem gJ1_charAt_3b067_J0_checkIndex_df160 : GoodIn wsJ1_charAt_3b067 (va_wsS RJ1 9 yJ0_checkIndex_df160 wsJ0_checkIndex_df160) := goodIn_app (goodIn_of _ (by decide +kernel)) ggJ1_charAt_3b067_J0_checkIndex_df160
set_option maxRecDepth 100000 in
theorem gJ0_charAt_5068e_J0_isLatin1_aae02 : GoodIn wsJ0_charAt_5068e (wsV RJ0 492 RJ0 yJ0_isLatin1_aae02 wsJ0_isLatin1_aae02) := goodIn_app (goodIn_of _ (by decide +kernel)) ggJ0_charAt_5068e_J0_isLatin1_aae02
set_option maxRecDepth 100000 in
theorem gJ0_charAt_5068e_J1_charAt_3b067 : GoodIn wsJ0_charAt_5068e (va_wsS RJ0 495 yJ1_charAt_3b067 wsJ1_charAt_3b067) := goodIn_app (goodIn_of _ (by decide +kernel)) ggJ0_charAt_5068e_J1_charAt_3b067
def lenS : List Nat := [49, 91, 77, 6, 4, 1, 7]
def bytS : List (List Int32) := [[115, 101, 97, 32, 32, 32, 32, 116, 104, 105, 99, 107, 32, 32, 108, 117, 109, 112, 32, 32, 32, 98, 111, 97, 116, 32, 32, 32, 104, 101, 97, 116, 32, 32, 32, 99, 111, 111, 108, 115, 32, 32, 115, 107, 105, 110, 32, 32, 32], [115, 116, 105, 114, 32, 32, 32, 114, 111, 119, 32, 32, 32, 32, 99, 111, 108, 117, 109, 110, 32, 111, 110, 32, 32, 32, 32, 32, 98, 97, 99, 107, 32, 32, 32, 101, 97, 115, 116, 32, 32, 32, 115, 111, 117, 116, 104, 32, 32, 119, 101, 115, 116, 32, 32, 32, 110, 111, 114, 116, 104, 32, 32, 102, 108, 111, 117, 114, 32, 32, 109, 105, 108, 107, 32, 32, 32, 115, 116, 111, 118, 101, 32, 32, 100, 97, 121, 32, 32, 32, 32], [111, 114, 32, 32, 32, 32, 32, 97, 110, 100, 32, 32, 32, 32, 110, 111, 116, 32, 32, 32, 32, 101, 97, 116, 101, 110, 32, 32, 97, 102, 108, 111, 97, 116, 32, 108, 97, 110, 100, 101, 100, 32, 98, 121, 32, 32, 32, 32, 32, 108, 111, 97, 100, 32, 32, 32, 100, 101, 112, 116, 104, 32, 32, 108, 101, 102, 116, 32, 32, 32, 110, 117, 109, 98, 101, 114, 32], [32, 101, 97, 116, 101, 110], [32, 97, 116, 32], [32], [32, 115, 105, 110, 107, 115, 32]]
/-- the texts that the class reads, and two statics of the JDK's: outside of A -/
def SEnv (adK adV : Nat → Nat) (A : Nat → Prop) (U : State) (H : Heap) : Prop := vk_S 7 lenS bytS adK adV A U H ∧ va_Z "java/lang/String" "COMPACT_STRINGS" "Z" (.int 1) A U H ∧ va_Zq "jdk/internal/util/Preconditions" "SIOOBE_FORMATTER" "Ljava/util/function/BiFunction;" A U H ∧ vk_R RX5 62 "sea    thick  lump   boat   heat   cools  skin   " (adK 0) U ∧ vk_R RX5 68 "stir   row    column on     back   east   south  west   north  flour  milk   stove  day    " (adK 1) U ∧ vk_R RX5 70 "or     and    not    eaten  afloat landed by     load   depth  left   number " (adK 2) U ∧ vk_R RX11 314 " eaten" (adK 3) U ∧ vk_R RX11 319 " at " (adK 4) U ∧ vk_R RX11 327 " " (adK 5) U ∧ vk_R RX11 332 " sinks " (adK 6) U
theorem SEnv.kept {adK adV : Nat → Nat} {A : Nat → Prop} {U : State} {H H1 : Heap} (h : SEnv adK adV A U H) (hq : ∀ a : Nat, a < H.size → ¬ A a → H1[a]? = H[a]?) : SEnv adK adV A U H1 := ⟨h.1.kept hq, h.2.1.kept hq, h.2.2.1.kept hq, h.2.2.2⟩
theorem SEnv.narrow {adK adV : Nat → Nat} {A B : Nat → Prop} {U : State} {H : Heap} (h : SEnv adK adV A U H) (hAB : ∀ q, B q → A q) : SEnv adK adV B U H := ⟨h.1.narrow hAB, h.2.1.narrow hAB, h.2.2.1.narrow hAB, h.2.2.2⟩
theorem SEnv.warm {adK adV : Nat → Nat} {A : Nat → Prop} {s U : State} {H : Heap} (hW : s.WarmedH U.vm) (h : SEnv adK adV A s H) : SEnv adK adV A U H := by
  obtain ⟨h1, h2, h3, r0, r1, r2, r3, r4, r5, r6⟩ := h
  exact ⟨h1.moved hW.alike, h2.moved hW.alike, va_Zq.moved hW.alike h3, r0.warm hW, r1.warm hW, r2.warm hW, r3.warm hW, r4.warm hW, r5.warm hW, r6.warm hW⟩
theorem SEnv.call {adK adV : Nat → Nat} {A : Nat → Prop} {U : State} {H : Heap} (g : JFrame) (mk : MethodId) (a : Array Value) (h : SEnv adK adV A U H) : SEnv adK adV A (U.calling g mk a) H := by
  obtain ⟨h1, h2, h3, r0, r1, r2, r3, r4, r5, r6⟩ := h
  exact ⟨vk_S.moved (u := U) (U := U.calling g mk a) (Vm.Alike.refl U.vm) h1, va_Z.moved (u := U) (U := U.calling g mk a) (Vm.Alike.refl U.vm) h2, va_Zq.moved (u := U) (U := U.calling g mk a) (Vm.Alike.refl U.vm) h3, vk_R.same (u := U) (U := U.calling g mk a) rfl r0, vk_R.same (u := U) (U := U.calling g mk a) rfl r1, vk_R.same (u := U) (U := U.calling g mk a) rfl r2, vk_R.same (u := U) (U := U.calling g mk a) rfl r3, vk_R.same (u := U) (U := U.calling g mk a) rfl r4, vk_R.same (u := U) (U := U.calling g mk a) rfl r5, vk_R.same (u := U) (U := U.calling g mk a) rfl r6⟩
/-- starts that know the texts -/
def PcPE (dC : Nat → ClassId) (dI : Nat → Nat → Nat) (ky : Nat → ClassId) (adK adV : Nat → Nat) (av : List Value) (ws : va_W) : Array Value → State → Prop := va_Pc av (fun U => va_P (dC, dI) vwCl ws U.heap ∧ Kk dC dI ky U ∧ SEnv adK adV (fun _ => False) U U.heap)
def PcUE (dC : Nat → ClassId) (dI : Nat → Nat → Nat) (ky : Nat → ClassId) (adK adV : Nat → Nat) (av : List Value) (ws : va_W) (sz : Nat) : Array Value → State → Prop := va_Pc av (fun U => U.heap.size = sz ∧ va_P (dC, dI) vwCl ws U.heap ∧ Kk dC dI ky U ∧ va_D (fun _ => True) ws ∧ SEnv adK adV (va_A ws sz) U U.heap)
theorem PcPE_blind {dC : Nat → ClassId} {dI : Nat → Nat → Nat} {ky : Nat → ClassId} {adK adV : Nat → Nat} {av : List Value} {ws : va_W} : FrameBlind (PcPE dC dI ky adK adV av ws) := by
  intro a U g mk q
  obtain ⟨q0, qP, qK, qE⟩ := q
  exact ⟨q0, qP, va_K.moved (u := U) (U := U.calling g mk a) (Vm.Alike.refl U.vm) qK, qE.call g mk a⟩
theorem PcUE_blind {dC : Nat → ClassId} {dI : Nat → Nat → Nat} {ky : Nat → ClassId} {adK adV : Nat → Nat} {av : List Value} {ws : va_W} {sz : Nat} : FrameBlind (PcUE dC dI ky adK adV av ws sz) := by
  intro a U g mk q
  obtain ⟨q0, q1, qP, qK, qD, qE⟩ := q
  exact ⟨q0, q1, qP, va_K.moved (u := U) (U := U.calling g mk a) (Vm.Alike.refl U.vm) qK, qD, qE.call g mk a⟩
section PreE
variable {s : State} {H : Heap} {A : Nat → Prop} {locs : List Loc} {ws wc : va_W} {dC : Nat → ClassId} {dI : Nat → Nat → Nat} {ky : Nat → ClassId} {adK adV : Nat → Nat} {b : Nat} {As : List Value} {C : String}
theorem pre_PEV (hE : SEnv adK adV A s s.heap) (hS : va_S A s.heap H locs) (hK : Kk dC dI ky s) (hP : va_P (dC, dI) vwCl ws H) (isC : List Nat) (hC : isC.map (fun i => ws[i]?) = wc.map some) (hr : ∃ cellB : Cell, H[b]? = some cellB ∧ cellB.vm.isStatics = false ∧ s.vm.findClass C = some cellB.cls) : PreV s H C b (PcPE dC dI ky adK adV (.ref b :: As) wc) As :=
  ⟨PcPE_blind, hr, fun U hU hW => ⟨rfl, by rw [hU]; exact hP.sub isC (sub_fm hC), va_K.moved hW.alike hK, by rw [hU]; exact ((hE.kept hS.2.1).narrow (fun _ h => h.elim)).warm hW⟩⟩
theorem pre_UES (hE : SEnv adK adV A s s.heap) (hS : va_S A s.heap H locs) (hA : ∀ q, s.heap.size ≤ q → A q) (hK : Kk dC dI ky s) (hP : va_P (dC, dI) vwCl ws H) (hD : va_D A ws) (isC : List Nat) (hn : va_nd isC = true) (hC : isC.map (fun i => ws[i]?) = wc.map some) : PreS s H (PcUE dC dI ky adK adV As wc H.size) As :=
  ⟨PcUE_blind, fun U hU hW => ⟨rfl, by rw [hU], by rw [hU]; exact hP.sub isC (sub_fm hC), va_K.moved hW.alike hK, (hD.sub isC hn hC).weaken (fun _ _ _ _ => trivial), by rw [hU]; exact ((hE.kept hS.2.1).narrow (va_free hD hS hA isC hC)).warm hW⟩⟩
theorem pre_UEV (hE : SEnv adK adV A s s.heap) (hS : va_S A s.heap H locs) (hA : ∀ q, s.heap.size ≤ q → A q) (hK : Kk dC dI ky s) (hP : va_P (dC, dI) vwCl ws H) (hD : va_D A ws) (isC : List Nat) (hn : va_nd isC = true) (hC : isC.map (fun i => ws[i]?) = wc.map some) (hr : ∃ cellB : Cell, H[b]? = some cellB ∧ cellB.vm.isStatics = false ∧ s.vm.findClass C = some cellB.cls) : PreV s H C b (PcUE dC dI ky adK adV (.ref b :: As) wc H.size) As :=
  ⟨PcUE_blind, hr, fun U hU hW => ⟨rfl, by rw [hU], by rw [hU]; exact hP.sub isC (sub_fm hC), va_K.moved hW.alike hK, (hD.sub isC hn hC).weaken (fun _ _ _ _ => trivial), by rw [hU]; exact ((hE.kept hS.2.1).narrow (va_free hD hS hA isC hC)).warm hW⟩⟩
end PreE
section StrRows
variable {p : Program} {l : Launch} {e : Env} {R : Room} {s : State} {m : MethodId} {args : Array Value} {below : List Frame} {meth : Method} {c : Code} {H : Heap} {locs : List Loc} {cells slots : Nat} {Q : State → Prop} {cc : ByteArray} {pc : Nat} {ls : Array Slot} {rest : List Value} {A : Nat → Prop}
theorem r_ldcSW (hexec : p.tables.exec = Jvm.exec) (hb : c.code = cc) {own tx : String} {index q : Nat} (hown : s.vm.findClass own = some m.cls) (hZ : vk_R own index tx q s) (hdg : decode cc pc = .ok (.ldc_w index, 3))
    (k : W p l e R s m args below meth c H locs cells slots Q (F0 m (pc + 3) ls (.ref q :: rest))) : W p l e R s m args below meth c H locs cells slots Q (F0 m pc ls rest) := by
  intro T hT X
  obtain ⟨t, a1, b1⟩ := k T hT X
  exact ⟨t, X.ldcStringW hexec hown (text := tx) (a := q) hZ.1 hZ.2 (g := F0 m pc ls rest) rfl (by rw [hb]; exact hdg) t a1, b1⟩
theorem r_tb (hexec : p.tables.exec = Jvm.exec) (hb : c.code = cc) {t N : Nat} {f : Nat → Int32} (hT : va_T .byte t N (fun j => .int (f j)) A s s.heap) (hS : va_S A s.heap H locs) (j : Nat) (hj : j < N) (hN : N < 2147483648) (hdg : decode cc pc = .ok (.baload, 1))
    (kk : W p l e R s m args below meth c H locs cells slots Q (F0 m (pc + 1) ls (.int (f j) :: rest))) : W p l e R s m args below meth c H locs cells slots Q (F0 m pc ls (.int (nI j) :: .ref t :: rest)) := by
  refine va_tb hexec hb hT hS (i := nI j) (vp_in_nI hj hN) rfl hdg ?_
  rw [nI_clamp (Nat.lt_trans hj hN)]; exact kk
theorem r_tlen (hexec : p.tables.exec = Jvm.exec) (hb : c.code = cc) {t N : Nat} {f : Nat → Value} (hT : va_T .byte t N f A s s.heap) (hS : va_S A s.heap H locs) (hdg : decode cc pc = .ok (.arraylength, 1))
    (kk : W p l e R s m args below meth c H locs cells slots Q (F0 m (pc + 1) ls (.int (nI N) :: rest))) : W p l e R s m args below meth c H locs cells slots Q (F0 m pc ls (.ref t :: rest)) := va_tlen hexec hb hT hS rfl hdg kk
end StrRows
theorem ch_nar (x : Int32) : narrow .char (.int ((x.toUInt32 % 65536).toInt32)) = .int ((x.toUInt32 % 65536).toInt32) := by
  rw [pk_char]
  exact (pk_charN (Nat.mod_lt _ (by decide))).1
set_option maxHeartbeats 4000000 in
set_option maxRecDepth 100000 in
theorem c_j_x3N (l : Launch) (dC : Nat → ClassId) (dI : Nat → Nat → Nat) (ky : Nat → ClassId) (k : Nat) (n : Nat) (hk : k < n) (hn : n < 1000) : Met l yJ3_checkIndex_8e157 wsJ3_checkIndex_8e157 ({ frames := 0, cells := 0, slots := 0, locals := 0 }) (PcP dC dI ky [.int (nI k), .int (nI n), .null] []) (vp_Si (fun r : Int32 => True)) 0 0 (fun _ => False) := by
  refine Met.ofW (cc := cJ3_checkIndex_8e157) (maxL := 3) (ret := (some .int)) (by decide) rfl ?_
  intro p e s m args below meth c s₁ B hml hv
  obtain ⟨rfl, hP, hK⟩ := hv
  have hx := B.exec
  have hb := B.bytes
  have hr := B.returns
  have hts := atoms_spec (ws := wsJ3_checkIndex_8e157) B.pre
  have hown : s.vm.findClass RJ3 = some m.cls := findClass_of_methodNamed B.named
  have hlocks := B.notSynchronized
  have hl := lv_entry ([.int (nI k), .int (nI n), .null]) (n := 3) (Nat.le_of_ble_eq_true rfl)
  rw [lg_entry_eq]
  generalize (lg_sl ([.int (nI k), .int (nI n), .null]) ++ List.replicate (3 - (lg_sl ([.int (nI k), .int (nI n), .null])).length) Slot.unset).toArray = ls at hl ⊢
  have hl : lv_has ls 3 [(0, .int (nI k)), (1, .int (nI n)), (2, .null)] := hl
  refine q_name (fun Q hQ => ?_)
  generalize ([.int (nI k), .int (nI n), .null] : List Value).toArray = args at hts hQ ⊢
  refine lv_iload_n hx hb dJ3_checkIndex_8e157_0 rfl (lv_at hl 0 rfl) ?_
  refine n_if_lt (x := k) (tgt := 9) hx hb (by omega) dJ3_checkIndex_8e157_1 (by decide) (fun c1 => c1.elim) (fun c1 => ?_)
  refine lv_iload_n hx hb dJ3_checkIndex_8e157_4 rfl (lv_at hl 0 rfl) ?_
  refine lv_iload_n hx hb dJ3_checkIndex_8e157_5 rfl (lv_at hl 1 rfl) ?_
  refine n_icmp_lt (x := k) (y := n) (tgt := 16) hx hb (by omega) (by omega) dJ3_checkIndex_8e157_6 (by decide) (fun c2 => ?_) (fun c2 => by exfalso; omega)
  refine lv_iload_n hx hb dJ3_checkIndex_8e157_16 rfl (lv_at hl 0 rfl) ?_
  rw [hQ]
  exact W.iret (v := nI k) hx hb hr (fun t9 ht9 hW9 => ⟨nI k, rfl, trivial, ht9⟩) (fun _ h => absurd h List.not_mem_nil) dJ3_checkIndex_8e157_17
set_option maxHeartbeats 4000000 in
set_option maxRecDepth 100000 in
theorem c_j_x3R (l : Launch) (dC : Nat → ClassId) (dI : Nat → Nat → Nat) (ky : Nat → ClassId) (q : Nat) (k : Nat) (n : Nat) (hk : k < n) (hn : n < 1000) : Met l yJ3_checkIndex_8e157 wsJ3_checkIndex_8e157 ({ frames := 0, cells := 0, slots := 0, locals := 0 }) (PcP dC dI ky [.int (nI k), .int (nI n), .ref q] []) (vp_Si (fun r : Int32 => True)) 0 0 (fun _ => False) := by
  refine Met.ofW (cc := cJ3_checkIndex_8e157) (maxL := 3) (ret := (some .int)) (by decide) rfl ?_
  intro p e s m args below meth c s₁ B hml hv
  obtain ⟨rfl, hP, hK⟩ := hv
  have hx := B.exec
  have hb := B.bytes
  have hr := B.returns
  have hts := atoms_spec (ws := wsJ3_checkIndex_8e157) B.pre
  have hown : s.vm.findClass RJ3 = some m.cls := findClass_of_methodNamed B.named
  have hlocks := B.notSynchronized
  have hl := lv_entry ([.int (nI k), .int (nI n), .ref q]) (n := 3) (Nat.le_of_ble_eq_true rfl)
  rw [lg_entry_eq]
  generalize (lg_sl ([.int (nI k), .int (nI n), .ref q]) ++ List.replicate (3 - (lg_sl ([.int (nI k), .int (nI n), .ref q])).length) Slot.unset).toArray = ls at hl ⊢
  have hl : lv_has ls 3 [(0, .int (nI k)), (1, .int (nI n)), (2, .ref q)] := hl
  refine q_name (fun Q hQ => ?_)
  generalize ([.int (nI k), .int (nI n), .ref q] : List Value).toArray = args at hts hQ ⊢
  refine lv_iload_n hx hb dJ3_checkIndex_8e157_0 rfl (lv_at hl 0 rfl) ?_
  refine n_if_lt (x := k) (tgt := 9) hx hb (by omega) dJ3_checkIndex_8e157_1 (by decide) (fun c1 => c1.elim) (fun c1 => ?_)
  refine lv_iload_n hx hb dJ3_checkIndex_8e157_4 rfl (lv_at hl 0 rfl) ?_
  refine lv_iload_n hx hb dJ3_checkIndex_8e157_5 rfl (lv_at hl 1 rfl) ?_
  refine n_icmp_lt (x := k) (y := n) (tgt := 16) hx hb (by omega) (by omega) dJ3_checkIndex_8e157_6 (by decide) (fun c2 => ?_) (fun c2 => by exfalso; omega)
  refine lv_iload_n hx hb dJ3_checkIndex_8e157_16 rfl (lv_at hl 0 rfl) ?_
  rw [hQ]
  exact W.iret (v := nI k) hx hb hr (fun t9 ht9 hW9 => ⟨nI k, rfl, trivial, ht9⟩) (fun _ h => absurd h List.not_mem_nil) dJ3_checkIndex_8e157_17
set_option maxHeartbeats 4000000 in
set_option maxRecDepth 100000 in
theorem c_j_x0 (l : Launch) (dC : Nat → ClassId) (dI : Nat → Nat → Nat) (ky : Nat → ClassId) (sz : Nat) (adK : Nat → Nat) (adV : Nat → Nat) (k : Nat) (n : Nat) (hk : k < n) (hn : n < 1000) : Met l yJ0_checkIndex_df160 wsJ0_checkIndex_df160 ({ frames := 1, cells := 0, slots := 0, locals := 22 }) (PcUE dC dI ky adK adV [.int (nI k), .int (nI n)] [] sz) (va_Qv (fun (_ : Unit) => True) (BU dC dI ky (fun (_ : Unit) => []) (va_A [] sz)) (va_A [] sz)) 0 0 (va_A [] sz) := by
  refine Met.ofW (cc := cJ0_checkIndex_df160) (maxL := 2) (ret := none) (by decide) rfl ?_
  intro p e s m args below meth c s₁ B hml hv
  obtain ⟨rfl, hsz, hP, hK, hD0, hE⟩ := hv
  have hx := B.exec
  have hb := B.bytes
  have hr := B.returns
  have hts := atoms_spec (ws := wsJ0_checkIndex_df160) B.pre
  have hown : s.vm.findClass RJ0 = some m.cls := findClass_of_methodNamed B.named
  have hlocks := B.notSynchronized
  subst hsz
  have hD := hD0.self (sz := s.heap.size)
  generalize hAe : va_A [] s.heap.size = A at hD hE ⊢
  have hA : ∀ q : Nat, s.heap.size ≤ q → A q := fun q h => by rw [← hAe]; exact Or.inr h
  have hS : va_S A s.heap s.heap [] := va_S.rf
  have hl := lv_entry ([.int (nI k), .int (nI n)]) (n := 2) (Nat.le_of_ble_eq_true rfl)
  rw [lg_entry_eq]
  generalize (lg_sl ([.int (nI k), .int (nI n)]) ++ List.replicate (2 - (lg_sl ([.int (nI k), .int (nI n)])).length) Slot.unset).toArray = ls at hl ⊢
  have hl : lv_has ls 2 [(0, .int (nI k)), (1, .int (nI n))] := hl
  refine q_name (fun Q hQ => ?_)
  generalize ([.int (nI k), .int (nI n)] : List Value).toArray = args at hts hQ ⊢
  refine lv_iload_n hx hb dJ0_checkIndex_df160_0 rfl (lv_at hl 0 rfl) ?_
  refine lv_iload_n hx hb dJ0_checkIndex_df160_1 rfl (lv_at hl 1 rfl) ?_
  rcases hE.2.2.1 with z2 | ⟨t1, z2⟩
  · refine va_gets hx hb z2 hS hown (hts (.fieldLink RJ0 1053 "jdk/internal/util/Preconditions" "SIOOBE_FORMATTER" "Ljava/util/function/BiFunction;") (List.mem_of_getElem? (i := 1) rfl)) (fun _ h9 => h9) dJ0_checkIndex_df160_2 ?_
    refine vp_callSi (W.runS (As := [.int (nI k), .int (nI n), .null]) (rest := []) ⟨hx, hb, hml, hown, hts⟩ (c_j_x3N l dC dI ky k n hk hn) (va_cwS 3 hts gJ0_checkIndex_df160_J3_checkIndex_8e157 rfl rfl rfl (by decide +kernel) ⟨(Nat.le_of_ble_eq_true rfl), (Nat.le_of_ble_eq_true rfl)⟩) (pre_PS hK hP [] rfl) rfl rfl hl.1 rfl (lv_room (Nat.le_of_ble_eq_true rfl)) dJ0_checkIndex_df160_5 ⟨(Nat.le_of_ble_eq_true rfl), (Nat.le_of_ble_eq_true rfl)⟩) (fun r3 p4 => ?_)
    refine lv_pop hx hb dJ0_checkIndex_df160_8 rfl ?_
    rw [hQ]
    exact W.vret hx hb hr (fun t9 ht9 hW9 => ⟨⟨(), rfl, trivial, by rw [ht9]; exact hP, va_K.moved hW9.alike hK, hD⟩, hS.F ht9⟩) hS.2.2 dJ0_checkIndex_df160_9
  · refine va_gets hx hb z2 hS hown (hts (.fieldLink RJ0 1053 "jdk/internal/util/Preconditions" "SIOOBE_FORMATTER" "Ljava/util/function/BiFunction;") (List.mem_of_getElem? (i := 1) rfl)) (fun _ h9 => h9) dJ0_checkIndex_df160_2 ?_
    refine vp_callSi (W.runS (As := [.int (nI k), .int (nI n), .ref t1]) (rest := []) ⟨hx, hb, hml, hown, hts⟩ (c_j_x3R l dC dI ky t1 k n hk hn) (va_cwS 3 hts gJ0_checkIndex_df160_J3_checkIndex_8e157 rfl rfl rfl (by decide +kernel) ⟨(Nat.le_of_ble_eq_true rfl), (Nat.le_of_ble_eq_true rfl)⟩) (pre_PS hK hP [] rfl) rfl rfl hl.1 rfl (lv_room (Nat.le_of_ble_eq_true rfl)) dJ0_checkIndex_df160_5 ⟨(Nat.le_of_ble_eq_true rfl), (Nat.le_of_ble_eq_true rfl)⟩) (fun r5 p6 => ?_)
    refine lv_pop hx hb dJ0_checkIndex_df160_8 rfl ?_
    rw [hQ]
    exact W.vret hx hb hr (fun t9 ht9 hW9 => ⟨⟨(), rfl, trivial, by rw [ht9]; exact hP, va_K.moved hW9.alike hK, hD⟩, hS.F ht9⟩) hS.2.2 dJ0_checkIndex_df160_9
set_option maxRecDepth 20000 in
theorem lf_j_coder0_1   : (nI 0) = nI 0 := by
  try have k_0 := ia_n 0 (by first | decide | omega)
  try simp only [ia_lt, ia_le, ia_eq, ia_m1, ia_0, ia_1, ne_eq, true_and, and_true, false_and, and_false, or_false, false_or, or_true, true_or, not_true_eq_false, not_false_eq_true] at *
  all_goals omega
set_option maxHeartbeats 4000000 in
set_option maxRecDepth 100000 in
theorem c_j_coder0 (l : Launch) (dC : Nat → ClassId) (dI : Nat → Nat → Nat) (ky : Nat → ClassId) (adK : Nat → Nat) (adV : Nat → Nat)  : Met l yJ0_coder_7d493 wsJ0_coder_7d493 ({ frames := 0, cells := 0, slots := 0, locals := 0 }) (PcPE dC dI ky adK adV [.ref (adK 0)] []) (vp_Si (fun r : Int32 => r = nI 0)) 0 0 (fun _ => False) := by
  refine Met.ofW (cc := cJ0_coder_7d493) (maxL := 1) (ret := (some .byte)) (by decide) rfl ?_
  intro p e s m args below meth c s₁ B hml hv
  obtain ⟨rfl, hP, hK, hE⟩ := hv
  have hx := B.exec
  have hb := B.bytes
  have hr := B.returns
  have hts := atoms_spec (ws := wsJ0_coder_7d493) B.pre
  have hown : s.vm.findClass RJ0 = some m.cls := findClass_of_methodNamed B.named
  have hlocks := B.notSynchronized
  have hl := lv_entry ([.ref (adK 0)]) (n := 1) (Nat.le_of_ble_eq_true rfl)
  rw [lg_entry_eq]
  generalize (lg_sl ([.ref (adK 0)]) ++ List.replicate (1 - (lg_sl ([.ref (adK 0)])).length) Slot.unset).toArray = ls at hl ⊢
  have hl : lv_has ls 1 [(0, .ref (adK 0))] := hl
  refine q_name (fun Q hQ => ?_)
  generalize ([.ref (adK 0)] : List Value).toArray = args at hts hQ ⊢
  refine va_gets hx hb hE.2.1 va_S.rf hown (hts (.fieldLink RJ0 38 "java/lang/String" "COMPACT_STRINGS" "Z") (List.mem_of_getElem? (i := 1) rfl)) (fun _ h9 => h9) dJ0_coder_7d493_0 ?_
  refine r_ti (nI 1) (by decide) ?_
  refine lv_if_eq (tgt := 13) hx hb dJ0_coder_7d493_3 (by decide) (fun c1 => absurd c1 (by decide)) (fun c1 => ?_)
  refine lv_aload_n hx hb dJ0_coder_7d493_6 rfl (lv_at hl 0 rfl) ?_
  refine vk_getf hx hb (hE.1.1 0 (by decide)).2.1 va_S.rf hown (hts (.fieldLink RJ0 15 "java/lang/String" "coder" "B") (List.mem_of_getElem? (i := 2) rfl)) (fun _ h9 => h9) dJ0_coder_7d493_7 ?_
  refine r_ti (nI 0) (by decide) ?_
  refine lv_goto (tgt := 14) hx hb dJ0_coder_7d493_10 (by decide) ?_
  rw [hQ]
  exact W.zret (v := nI 0) hx hb hr (by decide) (fun t9 ht9 hW9 => ⟨nI 0, rfl, (lf_j_coder0_1), ht9⟩) (fun _ h => absurd h List.not_mem_nil) dJ0_coder_7d493_14
set_option maxRecDepth 20000 in
theorem lf_j_latin0_1   : (nI 1) = nI 1 := by
  try have k_0 := ia_n 1 (by first | decide | omega)
  try simp only [ia_lt, ia_le, ia_eq, ia_m1, ia_0, ia_1, ne_eq, true_and, and_true, false_and, and_false, or_false, false_or, or_true, true_or, not_true_eq_false, not_false_eq_true] at *
  all_goals omega
set_option maxHeartbeats 4000000 in
set_option maxRecDepth 100000 in
theorem c_j_latin0 (l : Launch) (dC : Nat → ClassId) (dI : Nat → Nat → Nat) (ky : Nat → ClassId) (adK : Nat → Nat) (adV : Nat → Nat)  : Met l yJ0_isLatin1_aae02 wsJ0_isLatin1_aae02 ({ frames := 0, cells := 0, slots := 0, locals := 0 }) (PcPE dC dI ky adK adV [.ref (adK 0)] []) (vp_Si (fun r : Int32 => r = nI 1)) 0 0 (fun _ => False) := by
  refine Met.ofW (cc := cJ0_isLatin1_aae02) (maxL := 1) (ret := (some .boolean)) (by decide) rfl ?_
  intro p e s m args below meth c s₁ B hml hv
  obtain ⟨rfl, hP, hK, hE⟩ := hv
  have hx := B.exec
  have hb := B.bytes
  have hr := B.returns
  have hts := atoms_spec (ws := wsJ0_isLatin1_aae02) B.pre
  have hown : s.vm.findClass RJ0 = some m.cls := findClass_of_methodNamed B.named
  have hlocks := B.notSynchronized
  have hl := lv_entry ([.ref (adK 0)]) (n := 1) (Nat.le_of_ble_eq_true rfl)
  rw [lg_entry_eq]
  generalize (lg_sl ([.ref (adK 0)]) ++ List.replicate (1 - (lg_sl ([.ref (adK 0)])).length) Slot.unset).toArray = ls at hl ⊢
  have hl : lv_has ls 1 [(0, .ref (adK 0))] := hl
  refine q_name (fun Q hQ => ?_)
  generalize ([.ref (adK 0)] : List Value).toArray = args at hts hQ ⊢
  refine va_gets hx hb hE.2.1 va_S.rf hown (hts (.fieldLink RJ0 38 "java/lang/String" "COMPACT_STRINGS" "Z") (List.mem_of_getElem? (i := 1) rfl)) (fun _ h9 => h9) dJ0_isLatin1_aae02_0 ?_
  refine r_ti (nI 1) (by decide) ?_
  refine lv_if_eq (tgt := 17) hx hb dJ0_isLatin1_aae02_3 (by decide) (fun c1 => absurd c1 (by decide)) (fun c1 => ?_)
  refine lv_aload_n hx hb dJ0_isLatin1_aae02_6 rfl (lv_at hl 0 rfl) ?_
  refine vk_getf hx hb (hE.1.1 0 (by decide)).2.1 va_S.rf hown (hts (.fieldLink RJ0 15 "java/lang/String" "coder" "B") (List.mem_of_getElem? (i := 2) rfl)) (fun _ h9 => h9) dJ0_isLatin1_aae02_7 ?_
  refine r_ti (nI 0) (by decide) ?_
  refine lv_if_ne (tgt := 17) hx hb dJ0_isLatin1_aae02_10 (by decide) (fun c2 => absurd c2 (by decide)) (fun c2 => ?_)
  refine lv_iconst (v := nI 1) hx hb dJ0_isLatin1_aae02_13 (by decide) ?_
  refine lv_goto (tgt := 18) hx hb dJ0_isLatin1_aae02_14 (by decide) ?_
  rw [hQ]
  exact W.zret (v := nI 1) hx hb hr (by decide) (fun t9 ht9 hW9 => ⟨nI 1, rfl, (lf_j_latin0_1), ht9⟩) (fun _ h => absurd h List.not_mem_nil) dJ0_isLatin1_aae02_18
set_option maxRecDepth 20000 in
theorem lf_j_length0_1   : (nI 49) = nI 49 := by
  try have k_0 := ia_n 49 (by first | decide | omega)
  try simp only [ia_lt, ia_le, ia_eq, ia_m1, ia_0, ia_1, ne_eq, true_and, and_true, false_and, and_false, or_false, false_or, or_true, true_or, not_true_eq_false, not_false_eq_true] at *
  all_goals omega
set_option maxHeartbeats 4000000 in
set_option maxRecDepth 100000 in
theorem c_j_length0 (l : Launch) (dC : Nat → ClassId) (dI : Nat → Nat → Nat) (ky : Nat → ClassId) (adK : Nat → Nat) (adV : Nat → Nat)  : Met l yJ0_length_8abf5 wsJ0_length_8abf5 ({ frames := 1, cells := 0, slots := 0, locals := 20 }) (PcPE dC dI ky adK adV [.ref (adK 0)] []) (vp_Si (fun r : Int32 => r = nI 49)) 0 0 (fun _ => False) := by
  refine Met.ofW (cc := cJ0_length_8abf5) (maxL := 1) (ret := (some .int)) (by decide) rfl ?_
  intro p e s m args below meth c s₁ B hml hv
  obtain ⟨rfl, hP, hK, hE⟩ := hv
  have hx := B.exec
  have hb := B.bytes
  have hr := B.returns
  have hts := atoms_spec (ws := wsJ0_length_8abf5) B.pre
  have hown : s.vm.findClass RJ0 = some m.cls := findClass_of_methodNamed B.named
  have hlocks := B.notSynchronized
  have hl := lv_entry ([.ref (adK 0)]) (n := 1) (Nat.le_of_ble_eq_true rfl)
  rw [lg_entry_eq]
  generalize (lg_sl ([.ref (adK 0)]) ++ List.replicate (1 - (lg_sl ([.ref (adK 0)])).length) Slot.unset).toArray = ls at hl ⊢
  have hl : lv_has ls 1 [(0, .ref (adK 0))] := hl
  refine q_name (fun Q hQ => ?_)
  generalize ([.ref (adK 0)] : List Value).toArray = args at hts hQ ⊢
  refine lv_aload_n hx hb dJ0_length_8abf5_0 rfl (lv_at hl 0 rfl) ?_
  refine vk_getf hx hb (hE.1.1 0 (by decide)).2.2.1 va_S.rf hown (hts (.fieldLink RJ0 9 "java/lang/String" "value" "[B") (List.mem_of_getElem? (i := 1) rfl)) (fun _ h9 => h9) dJ0_length_8abf5_1 ?_
  refine r_tlen hx hb (hE.1.1 0 (by decide)).2.2.2 va_S.rf dJ0_length_8abf5_4 ?_
  refine r_ti (nI 49) (by decide) ?_
  refine lv_aload_n hx hb dJ0_length_8abf5_5 rfl (lv_at hl 0 rfl) ?_
  refine vp_callSi (W.runV (As := []) (rest := [.int (nI 49)]) ⟨hx, hb, hml, hown, hts⟩ (c_j_coder0 l dC dI ky adK adV) (cwV 0 hts gJ0_length_8abf5_J0_coder_7d493 rfl rfl rfl (by decide +kernel) ⟨(Nat.le_of_ble_eq_true rfl), (Nat.le_of_ble_eq_true rfl)⟩) (pre_PEV hE va_S.rf hK hP [] rfl (vk_recv hE.1 (i := 0) (by decide) va_S.rf)) rfl rfl hl.1 rfl (lv_room (Nat.le_of_ble_eq_true rfl)) dJ0_length_8abf5_6 ⟨(Nat.le_of_ble_eq_true rfl), (Nat.le_of_ble_eq_true rfl)⟩) (fun r1 p2 => ?_)
  subst p2
  refine lv_ishr hx hb dJ0_length_8abf5_9 ?_
  refine r_ti (nI 49) (by decide) ?_
  rw [hQ]
  exact W.iret (v := nI 49) hx hb hr (fun t9 ht9 hW9 => ⟨nI 49, rfl, (lf_j_length0_1), ht9⟩) (fun _ h => absurd h List.not_mem_nil) dJ0_length_8abf5_10
set_option maxRecDepth 20000 in
theorem lf_j_coder1_1   : (nI 0) = nI 0 := by
  try have k_0 := ia_n 0 (by first | decide | omega)
  try simp only [ia_lt, ia_le, ia_eq, ia_m1, ia_0, ia_1, ne_eq, true_and, and_true, false_and, and_false, or_false, false_or, or_true, true_or, not_true_eq_false, not_false_eq_true] at *
  all_goals omega
set_option maxHeartbeats 4000000 in
set_option maxRecDepth 100000 in
theorem c_j_coder1 (l : Launch) (dC : Nat → ClassId) (dI : Nat → Nat → Nat) (ky : Nat → ClassId) (adK : Nat → Nat) (adV : Nat → Nat)  : Met l yJ0_coder_7d493 wsJ0_coder_7d493 ({ frames := 0, cells := 0, slots := 0, locals := 0 }) (PcPE dC dI ky adK adV [.ref (adK 1)] []) (vp_Si (fun r : Int32 => r = nI 0)) 0 0 (fun _ => False) := by
  refine Met.ofW (cc := cJ0_coder_7d493) (maxL := 1) (ret := (some .byte)) (by decide) rfl ?_
  intro p e s m args below meth c s₁ B hml hv
  obtain ⟨rfl, hP, hK, hE⟩ := hv
  have hx := B.exec
  have hb := B.bytes
  have hr := B.returns
  have hts := atoms_spec (ws := wsJ0_coder_7d493) B.pre
  have hown : s.vm.findClass RJ0 = some m.cls := findClass_of_methodNamed B.named
  have hlocks := B.notSynchronized
  have hl := lv_entry ([.ref (adK 1)]) (n := 1) (Nat.le_of_ble_eq_true rfl)
  rw [lg_entry_eq]
  generalize (lg_sl ([.ref (adK 1)]) ++ List.replicate (1 - (lg_sl ([.ref (adK 1)])).length) Slot.unset).toArray = ls at hl ⊢
  have hl : lv_has ls 1 [(0, .ref (adK 1))] := hl
  refine q_name (fun Q hQ => ?_)
  generalize ([.ref (adK 1)] : List Value).toArray = args at hts hQ ⊢
  refine va_gets hx hb hE.2.1 va_S.rf hown (hts (.fieldLink RJ0 38 "java/lang/String" "COMPACT_STRINGS" "Z") (List.mem_of_getElem? (i := 1) rfl)) (fun _ h9 => h9) dJ0_coder_7d493_0 ?_
  refine r_ti (nI 1) (by decide) ?_
  refine lv_if_eq (tgt := 13) hx hb dJ0_coder_7d493_3 (by decide) (fun c1 => absurd c1 (by decide)) (fun c1 => ?_)
  refine lv_aload_n hx hb dJ0_coder_7d493_6 rfl (lv_at hl 0 rfl) ?_
  refine vk_getf hx hb (hE.1.1 1 (by decide)).2.1 va_S.rf hown (hts (.fieldLink RJ0 15 "java/lang/String" "coder" "B") (List.mem_of_getElem? (i := 2) rfl)) (fun _ h9 => h9) dJ0_coder_7d493_7 ?_
  refine r_ti (nI 0) (by decide) ?_
  refine lv_goto (tgt := 14) hx hb dJ0_coder_7d493_10 (by decide) ?_
  rw [hQ]
  exact W.zret (v := nI 0) hx hb hr (by decide) (fun t9 ht9 hW9 => ⟨nI 0, rfl, (lf_j_coder1_1), ht9⟩) (fun _ h => absurd h List.not_mem_nil) dJ0_coder_7d493_14
set_option maxRecDepth 20000 in
theorem lf_j_latin1_1   : (nI 1) = nI 1 := by
  try have k_0 := ia_n 1 (by first | decide | omega)
  try simp only [ia_lt, ia_le, ia_eq, ia_m1, ia_0, ia_1, ne_eq, true_and, and_true, false_and, and_false, or_false, false_or, or_true, true_or, not_true_eq_false, not_false_eq_true] at *
  all_goals omega
set_option maxHeartbeats 4000000 in
set_option maxRecDepth 100000 in
theorem c_j_latin1 (l : Launch) (dC : Nat → ClassId) (dI : Nat → Nat → Nat) (ky : Nat → ClassId) (adK : Nat → Nat) (adV : Nat → Nat)  : Met l yJ0_isLatin1_aae02 wsJ0_isLatin1_aae02 ({ frames := 0, cells := 0, slots := 0, locals := 0 }) (PcPE dC dI ky adK adV [.ref (adK 1)] []) (vp_Si (fun r : Int32 => r = nI 1)) 0 0 (fun _ => False) := by
  refine Met.ofW (cc := cJ0_isLatin1_aae02) (maxL := 1) (ret := (some .boolean)) (by decide) rfl ?_
  intro p e s m args below meth c s₁ B hml hv
  obtain ⟨rfl, hP, hK, hE⟩ := hv
  have hx := B.exec
  have hb := B.bytes
  have hr := B.returns
  have hts := atoms_spec (ws := wsJ0_isLatin1_aae02) B.pre
  have hown : s.vm.findClass RJ0 = some m.cls := findClass_of_methodNamed B.named
  have hlocks := B.notSynchronized
  have hl := lv_entry ([.ref (adK 1)]) (n := 1) (Nat.le_of_ble_eq_true rfl)
  rw [lg_entry_eq]
  generalize (lg_sl ([.ref (adK 1)]) ++ List.replicate (1 - (lg_sl ([.ref (adK 1)])).length) Slot.unset).toArray = ls at hl ⊢
  have hl : lv_has ls 1 [(0, .ref (adK 1))] := hl
  refine q_name (fun Q hQ => ?_)
  generalize ([.ref (adK 1)] : List Value).toArray = args at hts hQ ⊢
  refine va_gets hx hb hE.2.1 va_S.rf hown (hts (.fieldLink RJ0 38 "java/lang/String" "COMPACT_STRINGS" "Z") (List.mem_of_getElem? (i := 1) rfl)) (fun _ h9 => h9) dJ0_isLatin1_aae02_0 ?_
  refine r_ti (nI 1) (by decide) ?_
  refine lv_if_eq (tgt := 17) hx hb dJ0_isLatin1_aae02_3 (by decide) (fun c1 => absurd c1 (by decide)) (fun c1 => ?_)
  refine lv_aload_n hx hb dJ0_isLatin1_aae02_6 rfl (lv_at hl 0 rfl) ?_
  refine vk_getf hx hb (hE.1.1 1 (by decide)).2.1 va_S.rf hown (hts (.fieldLink RJ0 15 "java/lang/String" "coder" "B") (List.mem_of_getElem? (i := 2) rfl)) (fun _ h9 => h9) dJ0_isLatin1_aae02_7 ?_
  refine r_ti (nI 0) (by decide) ?_
  refine lv_if_ne (tgt := 17) hx hb dJ0_isLatin1_aae02_10 (by decide) (fun c2 => absurd c2 (by decide)) (fun c2 => ?_)
  refine lv_iconst (v := nI 1) hx hb dJ0_isLatin1_aae02_13 (by decide) ?_
  refine lv_goto (tgt := 18) hx hb dJ0_isLatin1_aae02_14 (by decide) ?_
  rw [hQ]
  exact W.zret (v := nI 1) hx hb hr (by decide) (fun t9 ht9 hW9 => ⟨nI 1, rfl, (lf_j_latin1_1), ht9⟩) (fun _ h => absurd h List.not_mem_nil) dJ0_isLatin1_aae02_18
set_option maxRecDepth 20000 in
theorem lf_j_length1_1   : (nI 91) = nI 91 := by
  try have k_0 := ia_n 91 (by first | decide | omega)
  try simp only [ia_lt, ia_le, ia_eq, ia_m1, ia_0, ia_1, ne_eq, true_and, and_true, false_and, and_false, or_false, false_or, or_true, true_or, not_true_eq_false, not_false_eq_true] at *
  all_goals omega
set_option maxHeartbeats 4000000 in
set_option maxRecDepth 100000 in
theorem c_j_length1 (l : Launch) (dC : Nat → ClassId) (dI : Nat → Nat → Nat) (ky : Nat → ClassId) (adK : Nat → Nat) (adV : Nat → Nat)  : Met l yJ0_length_8abf5 wsJ0_length_8abf5 ({ frames := 1, cells := 0, slots := 0, locals := 20 }) (PcPE dC dI ky adK adV [.ref (adK 1)] []) (vp_Si (fun r : Int32 => r = nI 91)) 0 0 (fun _ => False) := by
  refine Met.ofW (cc := cJ0_length_8abf5) (maxL := 1) (ret := (some .int)) (by decide) rfl ?_
  intro p e s m args below meth c s₁ B hml hv
  obtain ⟨rfl, hP, hK, hE⟩ := hv
  have hx := B.exec
  have hb := B.bytes
  have hr := B.returns
  have hts := atoms_spec (ws := wsJ0_length_8abf5) B.pre
  have hown : s.vm.findClass RJ0 = some m.cls := findClass_of_methodNamed B.named
  have hlocks := B.notSynchronized
  have hl := lv_entry ([.ref (adK 1)]) (n := 1) (Nat.le_of_ble_eq_true rfl)
  rw [lg_entry_eq]
  generalize (lg_sl ([.ref (adK 1)]) ++ List.replicate (1 - (lg_sl ([.ref (adK 1)])).length) Slot.unset).toArray = ls at hl ⊢
  have hl : lv_has ls 1 [(0, .ref (adK 1))] := hl
  refine q_name (fun Q hQ => ?_)
  generalize ([.ref (adK 1)] : List Value).toArray = args at hts hQ ⊢
  refine lv_aload_n hx hb dJ0_length_8abf5_0 rfl (lv_at hl 0 rfl) ?_
  refine vk_getf hx hb (hE.1.1 1 (by decide)).2.2.1 va_S.rf hown (hts (.fieldLink RJ0 9 "java/lang/String" "value" "[B") (List.mem_of_getElem? (i := 1) rfl)) (fun _ h9 => h9) dJ0_length_8abf5_1 ?_
  refine r_tlen hx hb (hE.1.1 1 (by decide)).2.2.2 va_S.rf dJ0_length_8abf5_4 ?_
  refine r_ti (nI 91) (by decide) ?_
  refine lv_aload_n hx hb dJ0_length_8abf5_5 rfl (lv_at hl 0 rfl) ?_
  refine vp_callSi (W.runV (As := []) (rest := [.int (nI 91)]) ⟨hx, hb, hml, hown, hts⟩ (c_j_coder1 l dC dI ky adK adV) (cwV 0 hts gJ0_length_8abf5_J0_coder_7d493 rfl rfl rfl (by decide +kernel) ⟨(Nat.le_of_ble_eq_true rfl), (Nat.le_of_ble_eq_true rfl)⟩) (pre_PEV hE va_S.rf hK hP [] rfl (vk_recv hE.1 (i := 1) (by decide) va_S.rf)) rfl rfl hl.1 rfl (lv_room (Nat.le_of_ble_eq_true rfl)) dJ0_length_8abf5_6 ⟨(Nat.le_of_ble_eq_true rfl), (Nat.le_of_ble_eq_true rfl)⟩) (fun r1 p2 => ?_)
  subst p2
  refine lv_ishr hx hb dJ0_length_8abf5_9 ?_
  refine r_ti (nI 91) (by decide) ?_
  rw [hQ]
  exact W.iret (v := nI 91) hx hb hr (fun t9 ht9 hW9 => ⟨nI 91, rfl, (lf_j_length1_1), ht9⟩) (fun _ h => absurd h List.not_mem_nil) dJ0_length_8abf5_10
set_option maxRecDepth 20000 in
theorem lf_j_coder2_1   : (nI 0) = nI 0 := by
  try have k_0 := ia_n 0 (by first | decide | omega)
  try simp only [ia_lt, ia_le, ia_eq, ia_m1, ia_0, ia_1, ne_eq, true_and, and_true, false_and, and_false, or_false, false_or, or_true, true_or, not_true_eq_false, not_false_eq_true] at *
  all_goals omega
set_option maxHeartbeats 4000000 in
set_option maxRecDepth 100000 in
theorem c_j_coder2 (l : Launch) (dC : Nat → ClassId) (dI : Nat → Nat → Nat) (ky : Nat → ClassId) (adK : Nat → Nat) (adV : Nat → Nat)  : Met l yJ0_coder_7d493 wsJ0_coder_7d493 ({ frames := 0, cells := 0, slots := 0, locals := 0 }) (PcPE dC dI ky adK adV [.ref (adK 2)] []) (vp_Si (fun r : Int32 => r = nI 0)) 0 0 (fun _ => False) := by
  refine Met.ofW (cc := cJ0_coder_7d493) (maxL := 1) (ret := (some .byte)) (by decide) rfl ?_
  intro p e s m args below meth c s₁ B hml hv
  obtain ⟨rfl, hP, hK, hE⟩ := hv
  have hx := B.exec
  have hb := B.bytes
  have hr := B.returns
  have hts := atoms_spec (ws := wsJ0_coder_7d493) B.pre
  have hown : s.vm.findClass RJ0 = some m.cls := findClass_of_methodNamed B.named
  have hlocks := B.notSynchronized
  have hl := lv_entry ([.ref (adK 2)]) (n := 1) (Nat.le_of_ble_eq_true rfl)
  rw [lg_entry_eq]
  generalize (lg_sl ([.ref (adK 2)]) ++ List.replicate (1 - (lg_sl ([.ref (adK 2)])).length) Slot.unset).toArray = ls at hl ⊢
  have hl : lv_has ls 1 [(0, .ref (adK 2))] := hl
  refine q_name (fun Q hQ => ?_)
  generalize ([.ref (adK 2)] : List Value).toArray = args at hts hQ ⊢
  refine va_gets hx hb hE.2.1 va_S.rf hown (hts (.fieldLink RJ0 38 "java/lang/String" "COMPACT_STRINGS" "Z") (List.mem_of_getElem? (i := 1) rfl)) (fun _ h9 => h9) dJ0_coder_7d493_0 ?_
  refine r_ti (nI 1) (by decide) ?_
  refine lv_if_eq (tgt := 13) hx hb dJ0_coder_7d493_3 (by decide) (fun c1 => absurd c1 (by decide)) (fun c1 => ?_)
  refine lv_aload_n hx hb dJ0_coder_7d493_6 rfl (lv_at hl 0 rfl) ?_
  refine vk_getf hx hb (hE.1.1 2 (by decide)).2.1 va_S.rf hown (hts (.fieldLink RJ0 15 "java/lang/String" "coder" "B") (List.mem_of_getElem? (i := 2) rfl)) (fun _ h9 => h9) dJ0_coder_7d493_7 ?_
  refine r_ti (nI 0) (by decide) ?_
  refine lv_goto (tgt := 14) hx hb dJ0_coder_7d493_10 (by decide) ?_
  rw [hQ]
  exact W.zret (v := nI 0) hx hb hr (by decide) (fun t9 ht9 hW9 => ⟨nI 0, rfl, (lf_j_coder2_1), ht9⟩) (fun _ h => absurd h List.not_mem_nil) dJ0_coder_7d493_14
set_option maxRecDepth 20000 in
theorem lf_j_latin2_1   : (nI 1) = nI 1 := by
  try have k_0 := ia_n 1 (by first | decide | omega)
  try simp only [ia_lt, ia_le, ia_eq, ia_m1, ia_0, ia_1, ne_eq, true_and, and_true, false_and, and_false, or_false, false_or, or_true, true_or, not_true_eq_false, not_false_eq_true] at *
  all_goals omega
set_option maxHeartbeats 4000000 in
set_option maxRecDepth 100000 in
theorem c_j_latin2 (l : Launch) (dC : Nat → ClassId) (dI : Nat → Nat → Nat) (ky : Nat → ClassId) (adK : Nat → Nat) (adV : Nat → Nat)  : Met l yJ0_isLatin1_aae02 wsJ0_isLatin1_aae02 ({ frames := 0, cells := 0, slots := 0, locals := 0 }) (PcPE dC dI ky adK adV [.ref (adK 2)] []) (vp_Si (fun r : Int32 => r = nI 1)) 0 0 (fun _ => False) := by
  refine Met.ofW (cc := cJ0_isLatin1_aae02) (maxL := 1) (ret := (some .boolean)) (by decide) rfl ?_
  intro p e s m args below meth c s₁ B hml hv
  obtain ⟨rfl, hP, hK, hE⟩ := hv
  have hx := B.exec
  have hb := B.bytes
  have hr := B.returns
  have hts := atoms_spec (ws := wsJ0_isLatin1_aae02) B.pre
  have hown : s.vm.findClass RJ0 = some m.cls := findClass_of_methodNamed B.named
  have hlocks := B.notSynchronized
  have hl := lv_entry ([.ref (adK 2)]) (n := 1) (Nat.le_of_ble_eq_true rfl)
  rw [lg_entry_eq]
  generalize (lg_sl ([.ref (adK 2)]) ++ List.replicate (1 - (lg_sl ([.ref (adK 2)])).length) Slot.unset).toArray = ls at hl ⊢
  have hl : lv_has ls 1 [(0, .ref (adK 2))] := hl
  refine q_name (fun Q hQ => ?_)
  generalize ([.ref (adK 2)] : List Value).toArray = args at hts hQ ⊢
  refine va_gets hx hb hE.2.1 va_S.rf hown (hts (.fieldLink RJ0 38 "java/lang/String" "COMPACT_STRINGS" "Z") (List.mem_of_getElem? (i := 1) rfl)) (fun _ h9 => h9) dJ0_isLatin1_aae02_0 ?_
  refine r_ti (nI 1) (by decide) ?_
  refine lv_if_eq (tgt := 17) hx hb dJ0_isLatin1_aae02_3 (by decide) (fun c1 => absurd c1 (by decide)) (fun c1 => ?_)
  refine lv_aload_n hx hb dJ0_isLatin1_aae02_6 rfl (lv_at hl 0 rfl) ?_
  refine vk_getf hx hb (hE.1.1 2 (by decide)).2.1 va_S.rf hown (hts (.fieldLink RJ0 15 "java/lang/String" "coder" "B") (List.mem_of_getElem? (i := 2) rfl)) (fun _ h9 => h9) dJ0_isLatin1_aae02_7 ?_
  refine r_ti (nI 0) (by decide) ?_
  refine lv_if_ne (tgt := 17) hx hb dJ0_isLatin1_aae02_10 (by decide) (fun c2 => absurd c2 (by decide)) (fun c2 => ?_)
  refine lv_iconst (v := nI 1) hx hb dJ0_isLatin1_aae02_13 (by decide) ?_
  refine lv_goto (tgt := 18) hx hb dJ0_isLatin1_aae02_14 (by decide) ?_
  rw [hQ]
  exact W.zret (v := nI 1) hx hb hr (by decide) (fun t9 ht9 hW9 => ⟨nI 1, rfl, (lf_j_latin2_1), ht9⟩) (fun _ h => absurd h List.not_mem_nil) dJ0_isLatin1_aae02_18
set_option maxRecDepth 20000 in
theorem lf_j_length2_1   : (nI 77) = nI 77 := by
  try have k_0 := ia_n 77 (by first | decide | omega)
  try simp only [ia_lt, ia_le, ia_eq, ia_m1, ia_0, ia_1, ne_eq, true_and, and_true, false_and, and_false, or_false, false_or, or_true, true_or, not_true_eq_false, not_false_eq_true] at *
  all_goals omega
set_option maxHeartbeats 4000000 in
set_option maxRecDepth 100000 in
theorem c_j_length2 (l : Launch) (dC : Nat → ClassId) (dI : Nat → Nat → Nat) (ky : Nat → ClassId) (adK : Nat → Nat) (adV : Nat → Nat)  : Met l yJ0_length_8abf5 wsJ0_length_8abf5 ({ frames := 1, cells := 0, slots := 0, locals := 20 }) (PcPE dC dI ky adK adV [.ref (adK 2)] []) (vp_Si (fun r : Int32 => r = nI 77)) 0 0 (fun _ => False) := by
  refine Met.ofW (cc := cJ0_length_8abf5) (maxL := 1) (ret := (some .int)) (by decide) rfl ?_
  intro p e s m args below meth c s₁ B hml hv
  obtain ⟨rfl, hP, hK, hE⟩ := hv
  have hx := B.exec
  have hb := B.bytes
  have hr := B.returns
  have hts := atoms_spec (ws := wsJ0_length_8abf5) B.pre
  have hown : s.vm.findClass RJ0 = some m.cls := findClass_of_methodNamed B.named
  have hlocks := B.notSynchronized
  have hl := lv_entry ([.ref (adK 2)]) (n := 1) (Nat.le_of_ble_eq_true rfl)
  rw [lg_entry_eq]
  generalize (lg_sl ([.ref (adK 2)]) ++ List.replicate (1 - (lg_sl ([.ref (adK 2)])).length) Slot.unset).toArray = ls at hl ⊢
  have hl : lv_has ls 1 [(0, .ref (adK 2))] := hl
  refine q_name (fun Q hQ => ?_)
  generalize ([.ref (adK 2)] : List Value).toArray = args at hts hQ ⊢
  refine lv_aload_n hx hb dJ0_length_8abf5_0 rfl (lv_at hl 0 rfl) ?_
  refine vk_getf hx hb (hE.1.1 2 (by decide)).2.2.1 va_S.rf hown (hts (.fieldLink RJ0 9 "java/lang/String" "value" "[B") (List.mem_of_getElem? (i := 1) rfl)) (fun _ h9 => h9) dJ0_length_8abf5_1 ?_
  refine r_tlen hx hb (hE.1.1 2 (by decide)).2.2.2 va_S.rf dJ0_length_8abf5_4 ?_
  refine r_ti (nI 77) (by decide) ?_
  refine lv_aload_n hx hb dJ0_length_8abf5_5 rfl (lv_at hl 0 rfl) ?_
  refine vp_callSi (W.runV (As := []) (rest := [.int (nI 77)]) ⟨hx, hb, hml, hown, hts⟩ (c_j_coder2 l dC dI ky adK adV) (cwV 0 hts gJ0_length_8abf5_J0_coder_7d493 rfl rfl rfl (by decide +kernel) ⟨(Nat.le_of_ble_eq_true rfl), (Nat.le_of_ble_eq_true rfl)⟩) (pre_PEV hE va_S.rf hK hP [] rfl (vk_recv hE.1 (i := 2) (by decide) va_S.rf)) rfl rfl hl.1 rfl (lv_room (Nat.le_of_ble_eq_true rfl)) dJ0_length_8abf5_6 ⟨(Nat.le_of_ble_eq_true rfl), (Nat.le_of_ble_eq_true rfl)⟩) (fun r1 p2 => ?_)
  subst p2
  refine lv_ishr hx hb dJ0_length_8abf5_9 ?_
  refine r_ti (nI 77) (by decide) ?_
  rw [hQ]
  exact W.iret (v := nI 77) hx hb hr (fun t9 ht9 hW9 => ⟨nI 77, rfl, (lf_j_length2_1), ht9⟩) (fun _ h => absurd h List.not_mem_nil) dJ0_length_8abf5_10
set_option maxRecDepth 20000 in
theorem lf_j_coder3_1   : (nI 0) = nI 0 := by
  try have k_0 := ia_n 0 (by first | decide | omega)
  try simp only [ia_lt, ia_le, ia_eq, ia_m1, ia_0, ia_1, ne_eq, true_and, and_true, false_and, and_false, or_false, false_or, or_true, true_or, not_true_eq_false, not_false_eq_true] at *
  all_goals omega
set_option maxHeartbeats 4000000 in
set_option maxRecDepth 100000 in
theorem c_j_coder3 (l : Launch) (dC : Nat → ClassId) (dI : Nat → Nat → Nat) (ky : Nat → ClassId) (adK : Nat → Nat) (adV : Nat → Nat)  : Met l yJ0_coder_7d493 wsJ0_coder_7d493 ({ frames := 0, cells := 0, slots := 0, locals := 0 }) (PcPE dC dI ky adK adV [.ref (adK 3)] []) (vp_Si (fun r : Int32 => r = nI 0)) 0 0 (fun _ => False) := by
  refine Met.ofW (cc := cJ0_coder_7d493) (maxL := 1) (ret := (some .byte)) (by decide) rfl ?_
  intro p e s m args below meth c s₁ B hml hv
  obtain ⟨rfl, hP, hK, hE⟩ := hv
  have hx := B.exec
  have hb := B.bytes
  have hr := B.returns
  have hts := atoms_spec (ws := wsJ0_coder_7d493) B.pre
  have hown : s.vm.findClass RJ0 = some m.cls := findClass_of_methodNamed B.named
  have hlocks := B.notSynchronized
  have hl := lv_entry ([.ref (adK 3)]) (n := 1) (Nat.le_of_ble_eq_true rfl)
  rw [lg_entry_eq]
  generalize (lg_sl ([.ref (adK 3)]) ++ List.replicate (1 - (lg_sl ([.ref (adK 3)])).length) Slot.unset).toArray = ls at hl ⊢
  have hl : lv_has ls 1 [(0, .ref (adK 3))] := hl
  refine q_name (fun Q hQ => ?_)
  generalize ([.ref (adK 3)] : List Value).toArray = args at hts hQ ⊢
  refine va_gets hx hb hE.2.1 va_S.rf hown (hts (.fieldLink RJ0 38 "java/lang/String" "COMPACT_STRINGS" "Z") (List.mem_of_getElem? (i := 1) rfl)) (fun _ h9 => h9) dJ0_coder_7d493_0 ?_
  refine r_ti (nI 1) (by decide) ?_
  refine lv_if_eq (tgt := 13) hx hb dJ0_coder_7d493_3 (by decide) (fun c1 => absurd c1 (by decide)) (fun c1 => ?_)
  refine lv_aload_n hx hb dJ0_coder_7d493_6 rfl (lv_at hl 0 rfl) ?_
  refine vk_getf hx hb (hE.1.1 3 (by decide)).2.1 va_S.rf hown (hts (.fieldLink RJ0 15 "java/lang/String" "coder" "B") (List.mem_of_getElem? (i := 2) rfl)) (fun _ h9 => h9) dJ0_coder_7d493_7 ?_
  refine r_ti (nI 0) (by decide) ?_
  refine lv_goto (tgt := 14) hx hb dJ0_coder_7d493_10 (by decide) ?_
  rw [hQ]
  exact W.zret (v := nI 0) hx hb hr (by decide) (fun t9 ht9 hW9 => ⟨nI 0, rfl, (lf_j_coder3_1), ht9⟩) (fun _ h => absurd h List.not_mem_nil) dJ0_coder_7d493_14
set_option maxRecDepth 20000 in
theorem lf_j_latin3_1   : (nI 1) = nI 1 := by
  try have k_0 := ia_n 1 (by first | decide | omega)
  try simp only [ia_lt, ia_le, ia_eq, ia_m1, ia_0, ia_1, ne_eq, true_and, and_true, false_and, and_false, or_false, false_or, or_true, true_or, not_true_eq_false, not_false_eq_true] at *
  all_goals omega
set_option maxHeartbeats 4000000 in
set_option maxRecDepth 100000 in
theorem c_j_latin3 (l : Launch) (dC : Nat → ClassId) (dI : Nat → Nat → Nat) (ky : Nat → ClassId) (adK : Nat → Nat) (adV : Nat → Nat)  : Met l yJ0_isLatin1_aae02 wsJ0_isLatin1_aae02 ({ frames := 0, cells := 0, slots := 0, locals := 0 }) (PcPE dC dI ky adK adV [.ref (adK 3)] []) (vp_Si (fun r : Int32 => r = nI 1)) 0 0 (fun _ => False) := by
  refine Met.ofW (cc := cJ0_isLatin1_aae02) (maxL := 1) (ret := (some .boolean)) (by decide) rfl ?_
  intro p e s m args below meth c s₁ B hml hv
  obtain ⟨rfl, hP, hK, hE⟩ := hv
  have hx := B.exec
  have hb := B.bytes
  have hr := B.returns
  have hts := atoms_spec (ws := wsJ0_isLatin1_aae02) B.pre
  have hown : s.vm.findClass RJ0 = some m.cls := findClass_of_methodNamed B.named
  have hlocks := B.notSynchronized
  have hl := lv_entry ([.ref (adK 3)]) (n := 1) (Nat.le_of_ble_eq_true rfl)
  rw [lg_entry_eq]
  generalize (lg_sl ([.ref (adK 3)]) ++ List.replicate (1 - (lg_sl ([.ref (adK 3)])).length) Slot.unset).toArray = ls at hl ⊢
  have hl : lv_has ls 1 [(0, .ref (adK 3))] := hl
  refine q_name (fun Q hQ => ?_)
  generalize ([.ref (adK 3)] : List Value).toArray = args at hts hQ ⊢
  refine va_gets hx hb hE.2.1 va_S.rf hown (hts (.fieldLink RJ0 38 "java/lang/String" "COMPACT_STRINGS" "Z") (List.mem_of_getElem? (i := 1) rfl)) (fun _ h9 => h9) dJ0_isLatin1_aae02_0 ?_
  refine r_ti (nI 1) (by decide) ?_
  refine lv_if_eq (tgt := 17) hx hb dJ0_isLatin1_aae02_3 (by decide) (fun c1 => absurd c1 (by decide)) (fun c1 => ?_)
  refine lv_aload_n hx hb dJ0_isLatin1_aae02_6 rfl (lv_at hl 0 rfl) ?_
  refine vk_getf hx hb (hE.1.1 3 (by decide)).2.1 va_S.rf hown (hts (.fieldLink RJ0 15 "java/lang/String" "coder" "B") (List.mem_of_getElem? (i := 2) rfl)) (fun _ h9 => h9) dJ0_isLatin1_aae02_7 ?_
  refine r_ti (nI 0) (by decide) ?_
  refine lv_if_ne (tgt := 17) hx hb dJ0_isLatin1_aae02_10 (by decide) (fun c2 => absurd c2 (by decide)) (fun c2 => ?_)
  refine lv_iconst (v := nI 1) hx hb dJ0_isLatin1_aae02_13 (by decide) ?_
  refine lv_goto (tgt := 18) hx hb dJ0_isLatin1_aae02_14 (by decide) ?_
  rw [hQ]
  exact W.zret (v := nI 1) hx hb hr (by decide) (fun t9 ht9 hW9 => ⟨nI 1, rfl, (lf_j_latin3_1), ht9⟩) (fun _ h => absurd h List.not_mem_nil) dJ0_isLatin1_aae02_18
set_option maxRecDepth 20000 in
theorem lf_j_length3_1   : (nI 6) = nI 6 := by
  try have k_0 := ia_n 6 (by first | decide | omega)
  try simp only [ia_lt, ia_le, ia_eq, ia_m1, ia_0, ia_1, ne_eq, true_and, and_true, false_and, and_false, or_false, false_or, or_true, true_or, not_true_eq_false, not_false_eq_true] at *
  all_goals omega
set_option maxHeartbeats 4000000 in
set_option maxRecDepth 100000 in
theorem c_j_length3 (l : Launch) (dC : Nat → ClassId) (dI : Nat → Nat → Nat) (ky : Nat → ClassId) (adK : Nat → Nat) (adV : Nat → Nat)  : Met l yJ0_length_8abf5 wsJ0_length_8abf5 ({ frames := 1, cells := 0, slots := 0, locals := 20 }) (PcPE dC dI ky adK adV [.ref (adK 3)] []) (vp_Si (fun r : Int32 => r = nI 6)) 0 0 (fun _ => False) := by
  refine Met.ofW (cc := cJ0_length_8abf5) (maxL := 1) (ret := (some .int)) (by decide) rfl ?_
  intro p e s m args below meth c s₁ B hml hv
  obtain ⟨rfl, hP, hK, hE⟩ := hv
  have hx := B.exec
  have hb := B.bytes
  have hr := B.returns
  have hts := atoms_spec (ws := wsJ0_length_8abf5) B.pre
  have hown : s.vm.findClass RJ0 = some m.cls := findClass_of_methodNamed B.named
  have hlocks := B.notSynchronized
  have hl := lv_entry ([.ref (adK 3)]) (n := 1) (Nat.le_of_ble_eq_true rfl)
  rw [lg_entry_eq]
  generalize (lg_sl ([.ref (adK 3)]) ++ List.replicate (1 - (lg_sl ([.ref (adK 3)])).length) Slot.unset).toArray = ls at hl ⊢
  have hl : lv_has ls 1 [(0, .ref (adK 3))] := hl
  refine q_name (fun Q hQ => ?_)
  generalize ([.ref (adK 3)] : List Value).toArray = args at hts hQ ⊢
  refine lv_aload_n hx hb dJ0_length_8abf5_0 rfl (lv_at hl 0 rfl) ?_
  refine vk_getf hx hb (hE.1.1 3 (by decide)).2.2.1 va_S.rf hown (hts (.fieldLink RJ0 9 "java/lang/String" "value" "[B") (List.mem_of_getElem? (i := 1) rfl)) (fun _ h9 => h9) dJ0_length_8abf5_1 ?_
  refine r_tlen hx hb (hE.1.1 3 (by decide)).2.2.2 va_S.rf dJ0_length_8abf5_4 ?_
  refine r_ti (nI 6) (by decide) ?_
  refine lv_aload_n hx hb dJ0_length_8abf5_5 rfl (lv_at hl 0 rfl) ?_
  refine vp_callSi (W.runV (As := []) (rest := [.int (nI 6)]) ⟨hx, hb, hml, hown, hts⟩ (c_j_coder3 l dC dI ky adK adV) (cwV 0 hts gJ0_length_8abf5_J0_coder_7d493 rfl rfl rfl (by decide +kernel) ⟨(Nat.le_of_ble_eq_true rfl), (Nat.le_of_ble_eq_true rfl)⟩) (pre_PEV hE va_S.rf hK hP [] rfl (vk_recv hE.1 (i := 3) (by decide) va_S.rf)) rfl rfl hl.1 rfl (lv_room (Nat.le_of_ble_eq_true rfl)) dJ0_length_8abf5_6 ⟨(Nat.le_of_ble_eq_true rfl), (Nat.le_of_ble_eq_true rfl)⟩) (fun r1 p2 => ?_)
  subst p2
  refine lv_ishr hx hb dJ0_length_8abf5_9 ?_
  refine r_ti (nI 6) (by decide) ?_
  rw [hQ]
  exact W.iret (v := nI 6) hx hb hr (fun t9 ht9 hW9 => ⟨nI 6, rfl, (lf_j_length3_1), ht9⟩) (fun _ h => absurd h List.not_mem_nil) dJ0_length_8abf5_10
set_option maxRecDepth 20000 in
theorem lf_j_chL3_1   : 6 < 1000 := by
  try simp only [ia_lt, ia_le, ia_eq, ia_m1, ia_0, ia_1, ne_eq, true_and, and_true, false_and, and_false, or_false, false_or, or_true, true_or, not_true_eq_false, not_false_eq_true] at *
  all_goals omega
set_option maxRecDepth 20000 in
theorem lf_j_chL3_2 (k : Nat) (hk : k < 6) : k < 6 := by
  try simp only [ia_lt, ia_le, ia_eq, ia_m1, ia_0, ia_1, ne_eq, true_and, and_true, false_and, and_false, or_false, false_or, or_true, true_or, not_true_eq_false, not_false_eq_true] at *
  all_goals omega
set_option maxHeartbeats 4000000 in
set_option maxRecDepth 100000 in
theorem c_j_chL3 (l : Launch) (dC : Nat → ClassId) (dI : Nat → Nat → Nat) (ky : Nat → ClassId) (sz : Nat) (adK : Nat → Nat) (adV : Nat → Nat) (k : Nat) (hk : k < 6) : Met l yJ1_charAt_3b067 wsJ1_charAt_3b067 ({ frames := 2, cells := 0, slots := 0, locals := 43 }) (PcUE dC dI ky adK adV [.ref (adV 3), .int (nI k)] [] sz) (va_Qi (fun (r : Int32) (_ : Unit) => narrow .char (.int r) = .int r) (BU dC dI ky (fun (_ : Unit) => []) (va_A [] sz)) (va_A [] sz)) 0 0 (va_A [] sz) := by
  refine Met.ofW (cc := cJ1_charAt_3b067) (maxL := 2) (ret := (some .char)) (by decide) rfl ?_
  intro p e s m args below meth c s₁ B hml hv
  obtain ⟨rfl, hsz, hP, hK, hD0, hE⟩ := hv
  have hx := B.exec
  have hb := B.bytes
  have hr := B.returns
  have hts := atoms_spec (ws := wsJ1_charAt_3b067) B.pre
  have hown : s.vm.findClass RJ1 = some m.cls := findClass_of_methodNamed B.named
  have hlocks := B.notSynchronized
  subst hsz
  have hD := hD0.self (sz := s.heap.size)
  generalize hAe : va_A [] s.heap.size = A at hD hE ⊢
  have hA : ∀ q : Nat, s.heap.size ≤ q → A q := fun q h => by rw [← hAe]; exact Or.inr h
  have hS : va_S A s.heap s.heap [] := va_S.rf
  have hl := lv_entry ([.ref (adV 3), .int (nI k)]) (n := 2) (Nat.le_of_ble_eq_true rfl)
  rw [lg_entry_eq]
  generalize (lg_sl ([.ref (adV 3), .int (nI k)]) ++ List.replicate (2 - (lg_sl ([.ref (adV 3), .int (nI k)])).length) Slot.unset).toArray = ls at hl ⊢
  have hl : lv_has ls 2 [(0, .ref (adV 3)), (1, .int (nI k))] := hl
  refine q_name (fun Q hQ => ?_)
  generalize ([.ref (adV 3), .int (nI k)] : List Value).toArray = args at hts hQ ⊢
  refine lv_iload_n hx hb dJ1_charAt_3b067_0 rfl (lv_at hl 1 rfl) ?_
  refine lv_aload_n hx hb dJ1_charAt_3b067_1 rfl (lv_at hl 0 rfl) ?_
  refine r_tlen hx hb (hE.1.1 3 (by decide)).2.2.2 hS dJ1_charAt_3b067_2 ?_
  refine r_ti (nI 6) (by decide) ?_
  refine r_call_v (wr := []) (va_runS (As := [.int (nI k), .int (nI 6)]) (rest := []) ⟨hx, hb, hml, hown, hts⟩ (c_j_x0 l dC dI ky s.heap.size adK adV k 6 hk (lf_j_chL3_1)) (va_cwS 2 hts gJ1_charAt_3b067_J0_checkIndex_df160 rfl rfl rfl (by decide +kernel) ⟨(Nat.le_of_ble_eq_true rfl), (Nat.le_of_ble_eq_true rfl)⟩) (pre_UES hE hS hA hK hP hD [] (by decide) rfl) rfl rfl hl.1 rfl (lv_room (Nat.le_of_ble_eq_true rfl)) dJ1_charAt_3b067_3 ⟨(Nat.le_of_ble_eq_true rfl), (Nat.le_of_ble_eq_true rfl)⟩) hP hD hS hA [] [] rfl rfl (by decide) (by decide) (fun  u1 H locs p2 hP hD hS => ?_)
  refine W.widen (k := 0) (n := 0) (Nat.le_of_ble_eq_true rfl) (Nat.le_of_ble_eq_true rfl) ?_
  have hP : va_P (dC, dI) vwCl [] H := hP
  have hD : va_D A [] := hD
  refine lv_aload_n hx hb dJ1_charAt_3b067_6 rfl (lv_at hl 0 rfl) ?_
  refine lv_iload_n hx hb dJ1_charAt_3b067_7 rfl (lv_at hl 1 rfl) ?_
  refine r_tb hx hb (hE.1.1 3 (by decide)).2.2.2 hS k (lf_j_chL3_2 k hk) (by decide) dJ1_charAt_3b067_8 ?_
  refine lv_topi (fun y3 e4 => ?_)
  refine lv_sipush (v := nI 255) hx hb dJ1_charAt_3b067_9 (by decide) ?_
  refine lv_iand hx hb dJ1_charAt_3b067_12 ?_
  refine lv_topi (fun y5 e6 => ?_)
  obtain ⟨y7, e8⟩ : ∃ z9 : Int32, z9 = ((y5).toUInt32 % 65536).toInt32 := ⟨_, rfl⟩
  refine lv_i2c (v := y7) hx hb dJ1_charAt_3b067_13 e8.symm ?_
  rw [hQ]
  exact W.zret (v := y7) hx hb hr (by rw [e8]; exact ch_nar _) (fun t9 ht9 hW9 => ⟨⟨y7, (), rfl, (by rw [e8]; exact ch_nar _), by rw [ht9]; exact hP, va_K.moved hW9.alike hK, hD⟩, hS.F ht9⟩) hS.2.2 dJ1_charAt_3b067_14
set_option maxHeartbeats 4000000 in
set_option maxRecDepth 100000 in
theorem c_j_ch3 (l : Launch) (dC : Nat → ClassId) (dI : Nat → Nat → Nat) (ky : Nat → ClassId) (sz : Nat) (adK : Nat → Nat) (adV : Nat → Nat) (k : Nat) (hk : k < 6) : Met l yJ0_charAt_5068e wsJ0_charAt_5068e ({ frames := 3, cells := 0, slots := 0, locals := 64 }) (PcUE dC dI ky adK adV [.ref (adK 3), .int (nI k)] [] sz) (va_Qi (fun (r : Int32) (_ : Unit) => narrow .char (.int r) = .int r) (BU dC dI ky (fun (_ : Unit) => []) (va_A [] sz)) (va_A [] sz)) 0 0 (va_A [] sz) := by
  refine Met.ofW (cc := cJ0_charAt_5068e) (maxL := 2) (ret := (some .char)) (by decide) rfl ?_
  intro p e s m args below meth c s₁ B hml hv
  obtain ⟨rfl, hsz, hP, hK, hD0, hE⟩ := hv
  have hx := B.exec
  have hb := B.bytes
  have hr := B.returns
  have hts := atoms_spec (ws := wsJ0_charAt_5068e) B.pre
  have hown : s.vm.findClass RJ0 = some m.cls := findClass_of_methodNamed B.named
  have hlocks := B.notSynchronized
  subst hsz
  have hD := hD0.self (sz := s.heap.size)
  generalize hAe : va_A [] s.heap.size = A at hD hE ⊢
  have hA : ∀ q : Nat, s.heap.size ≤ q → A q := fun q h => by rw [← hAe]; exact Or.inr h
  have hS : va_S A s.heap s.heap [] := va_S.rf
  have hl := lv_entry ([.ref (adK 3), .int (nI k)]) (n := 2) (Nat.le_of_ble_eq_true rfl)
  rw [lg_entry_eq]
  generalize (lg_sl ([.ref (adK 3), .int (nI k)]) ++ List.replicate (2 - (lg_sl ([.ref (adK 3), .int (nI k)])).length) Slot.unset).toArray = ls at hl ⊢
  have hl : lv_has ls 2 [(0, .ref (adK 3)), (1, .int (nI k))] := hl
  refine q_name (fun Q hQ => ?_)
  generalize ([.ref (adK 3), .int (nI k)] : List Value).toArray = args at hts hQ ⊢
  refine lv_aload_n hx hb dJ0_charAt_5068e_0 rfl (lv_at hl 0 rfl) ?_
  refine vp_callSi (W.runV (As := []) (rest := []) ⟨hx, hb, hml, hown, hts⟩ (c_j_latin3 l dC dI ky adK adV) (cwV 0 hts gJ0_charAt_5068e_J0_isLatin1_aae02 rfl rfl rfl (by decide +kernel) ⟨(Nat.le_of_ble_eq_true rfl), (Nat.le_of_ble_eq_true rfl)⟩) (pre_PEV hE hS hK hP [] rfl (vk_recv hE.1 (i := 3) (by decide) hS)) rfl rfl hl.1 rfl (lv_room (Nat.le_of_ble_eq_true rfl)) dJ0_charAt_5068e_1 ⟨(Nat.le_of_ble_eq_true rfl), (Nat.le_of_ble_eq_true rfl)⟩) (fun r1 p2 => ?_)
  subst p2
  refine lv_if_eq (tgt := 16) hx hb dJ0_charAt_5068e_4 (by decide) (fun c3 => absurd c3 (by decide)) (fun c3 => ?_)
  refine lv_aload_n hx hb dJ0_charAt_5068e_7 rfl (lv_at hl 0 rfl) ?_
  refine vk_getf hx hb (hE.1.1 3 (by decide)).2.2.1 hS hown (hts (.fieldLink RJ0 9 "java/lang/String" "value" "[B") (List.mem_of_getElem? (i := 1) rfl)) (fun _ h9 => h9) dJ0_charAt_5068e_8 ?_
  refine lv_iload_n hx hb dJ0_charAt_5068e_11 rfl (lv_at hl 1 rfl) ?_
  refine r_call_i (wr := []) (va_runS (As := [.ref (adV 3), .int (nI k)]) (rest := []) ⟨hx, hb, hml, hown, hts⟩ (c_j_chL3 l dC dI ky s.heap.size adK adV k hk) (va_cwS 2 hts gJ0_charAt_5068e_J1_charAt_3b067 rfl rfl rfl (by decide +kernel) ⟨(Nat.le_of_ble_eq_true rfl), (Nat.le_of_ble_eq_true rfl)⟩) (pre_UES hE hS hA hK hP hD [] (by decide) rfl) rfl rfl hl.1 rfl (lv_room (Nat.le_of_ble_eq_true rfl)) dJ0_charAt_5068e_12 ⟨(Nat.le_of_ble_eq_true rfl), (Nat.le_of_ble_eq_true rfl)⟩) hP hD hS hA [] [] rfl rfl (by decide) (by decide) (fun r6 u4 H locs p5 hP hD hS => ?_)
  try dsimp only at p5
  have p7 := p5
  refine W.widen (k := 0) (n := 0) (Nat.le_of_ble_eq_true rfl) (Nat.le_of_ble_eq_true rfl) ?_
  have hP : va_P (dC, dI) vwCl [] H := hP
  have hD : va_D A [] := hD
  rw [hQ]
  exact W.zret (v := r6) hx hb hr p7 (fun t9 ht9 hW9 => ⟨⟨r6, (), rfl, p7, by rw [ht9]; exact hP, va_K.moved hW9.alike hK, hD⟩, hS.F ht9⟩) hS.2.2 dJ0_charAt_5068e_15
set_option maxRecDepth 20000 in
theorem lf_j_coder4_1   : (nI 0) = nI 0 := by
  try have k_0 := ia_n 0 (by first | decide | omega)
  try simp only [ia_lt, ia_le, ia_eq, ia_m1, ia_0, ia_1, ne_eq, true_and, and_true, false_and, and_false, or_false, false_or, or_true, true_or, not_true_eq_false, not_false_eq_true] at *
  all_goals omega
set_option maxHeartbeats 4000000 in
set_option maxRecDepth 100000 in
theorem c_j_coder4 (l : Launch) (dC : Nat → ClassId) (dI : Nat → Nat → Nat) (ky : Nat → ClassId) (adK : Nat → Nat) (adV : Nat → Nat)  : Met l yJ0_coder_7d493 wsJ0_coder_7d493 ({ frames := 0, cells := 0, slots := 0, locals := 0 }) (PcPE dC dI ky adK adV [.ref (adK 4)] []) (vp_Si (fun r : Int32 => r = nI 0)) 0 0 (fun _ => False) := by
  refine Met.ofW (cc := cJ0_coder_7d493) (maxL := 1) (ret := (some .byte)) (by decide) rfl ?_
  intro p e s m args below meth c s₁ B hml hv
  obtain ⟨rfl, hP, hK, hE⟩ := hv
  have hx := B.exec
  have hb := B.bytes
  have hr := B.returns
  have hts := atoms_spec (ws := wsJ0_coder_7d493) B.pre
  have hown : s.vm.findClass RJ0 = some m.cls := findClass_of_methodNamed B.named
  have hlocks := B.notSynchronized
  have hl := lv_entry ([.ref (adK 4)]) (n := 1) (Nat.le_of_ble_eq_true rfl)
  rw [lg_entry_eq]
  generalize (lg_sl ([.ref (adK 4)]) ++ List.replicate (1 - (lg_sl ([.ref (adK 4)])).length) Slot.unset).toArray = ls at hl ⊢
  have hl : lv_has ls 1 [(0, .ref (adK 4))] := hl
  refine q_name (fun Q hQ => ?_)
  generalize ([.ref (adK 4)] : List Value).toArray = args at hts hQ ⊢
  refine va_gets hx hb hE.2.1 va_S.rf hown (hts (.fieldLink RJ0 38 "java/lang/String" "COMPACT_STRINGS" "Z") (List.mem_of_getElem? (i := 1) rfl)) (fun _ h9 => h9) dJ0_coder_7d493_0 ?_
  refine r_ti (nI 1) (by decide) ?_
  refine lv_if_eq (tgt := 13) hx hb dJ0_coder_7d493_3 (by decide) (fun c1 => absurd c1 (by decide)) (fun c1 => ?_)
  refine lv_aload_n hx hb dJ0_coder_7d493_6 rfl (lv_at hl 0 rfl) ?_
  refine vk_getf hx hb (hE.1.1 4 (by decide)).2.1 va_S.rf hown (hts (.fieldLink RJ0 15 "java/lang/String" "coder" "B") (List.mem_of_getElem? (i := 2) rfl)) (fun _ h9 => h9) dJ0_coder_7d493_7 ?_
  refine r_ti (nI 0) (by decide) ?_
  refine lv_goto (tgt := 14) hx hb dJ0_coder_7d493_10 (by decide) ?_
  rw [hQ]
  exact W.zret (v := nI 0) hx hb hr (by decide) (fun t9 ht9 hW9 => ⟨nI 0, rfl, (lf_j_coder4_1), ht9⟩) (fun _ h => absurd h List.not_mem_nil) dJ0_coder_7d493_14
set_option maxRecDepth 20000 in
theorem lf_j_latin4_1   : (nI 1) = nI 1 := by
  try have k_0 := ia_n 1 (by first | decide | omega)
  try simp only [ia_lt, ia_le, ia_eq, ia_m1, ia_0, ia_1, ne_eq, true_and, and_true, false_and, and_false, or_false, false_or, or_true, true_or, not_true_eq_false, not_false_eq_true] at *
  all_goals omega
set_option maxHeartbeats 4000000 in
set_option maxRecDepth 100000 in
theorem c_j_latin4 (l : Launch) (dC : Nat → ClassId) (dI : Nat → Nat → Nat) (ky : Nat → ClassId) (adK : Nat → Nat) (adV : Nat → Nat)  : Met l yJ0_isLatin1_aae02 wsJ0_isLatin1_aae02 ({ frames := 0, cells := 0, slots := 0, locals := 0 }) (PcPE dC dI ky adK adV [.ref (adK 4)] []) (vp_Si (fun r : Int32 => r = nI 1)) 0 0 (fun _ => False) := by
  refine Met.ofW (cc := cJ0_isLatin1_aae02) (maxL := 1) (ret := (some .boolean)) (by decide) rfl ?_
  intro p e s m args below meth c s₁ B hml hv
  obtain ⟨rfl, hP, hK, hE⟩ := hv
  have hx := B.exec
  have hb := B.bytes
  have hr := B.returns
  have hts := atoms_spec (ws := wsJ0_isLatin1_aae02) B.pre
  have hown : s.vm.findClass RJ0 = some m.cls := findClass_of_methodNamed B.named
  have hlocks := B.notSynchronized
  have hl := lv_entry ([.ref (adK 4)]) (n := 1) (Nat.le_of_ble_eq_true rfl)
  rw [lg_entry_eq]
  generalize (lg_sl ([.ref (adK 4)]) ++ List.replicate (1 - (lg_sl ([.ref (adK 4)])).length) Slot.unset).toArray = ls at hl ⊢
  have hl : lv_has ls 1 [(0, .ref (adK 4))] := hl
  refine q_name (fun Q hQ => ?_)
  generalize ([.ref (adK 4)] : List Value).toArray = args at hts hQ ⊢
  refine va_gets hx hb hE.2.1 va_S.rf hown (hts (.fieldLink RJ0 38 "java/lang/String" "COMPACT_STRINGS" "Z") (List.mem_of_getElem? (i := 1) rfl)) (fun _ h9 => h9) dJ0_isLatin1_aae02_0 ?_
  refine r_ti (nI 1) (by decide) ?_
  refine lv_if_eq (tgt := 17) hx hb dJ0_isLatin1_aae02_3 (by decide) (fun c1 => absurd c1 (by decide)) (fun c1 => ?_)
  refine lv_aload_n hx hb dJ0_isLatin1_aae02_6 rfl (lv_at hl 0 rfl) ?_
  refine vk_getf hx hb (hE.1.1 4 (by decide)).2.1 va_S.rf hown (hts (.fieldLink RJ0 15 "java/lang/String" "coder" "B") (List.mem_of_getElem? (i := 2) rfl)) (fun _ h9 => h9) dJ0_isLatin1_aae02_7 ?_
  refine r_ti (nI 0) (by decide) ?_
  refine lv_if_ne (tgt := 17) hx hb dJ0_isLatin1_aae02_10 (by decide) (fun c2 => absurd c2 (by decide)) (fun c2 => ?_)
  refine lv_iconst (v := nI 1) hx hb dJ0_isLatin1_aae02_13 (by decide) ?_
  refine lv_goto (tgt := 18) hx hb dJ0_isLatin1_aae02_14 (by decide) ?_
  rw [hQ]
  exact W.zret (v := nI 1) hx hb hr (by decide) (fun t9 ht9 hW9 => ⟨nI 1, rfl, (lf_j_latin4_1), ht9⟩) (fun _ h => absurd h List.not_mem_nil) dJ0_isLatin1_aae02_18
set_option maxRecDepth 20000 in
theorem lf_j_length4_1   : (nI 4) = nI 4 := by
  try have k_0 := ia_n 4 (by first | decide | omega)
  try simp only [ia_lt, ia_le, ia_eq, ia_m1, ia_0, ia_1, ne_eq, true_and, and_true, false_and, and_false, or_false, false_or, or_true, true_or, not_true_eq_false, not_false_eq_true] at *
  all_goals omega
set_option maxHeartbeats 4000000 in
set_option maxRecDepth 100000 in
theorem c_j_length4 (l : Launch) (dC : Nat → ClassId) (dI : Nat → Nat → Nat) (ky : Nat → ClassId) (adK : Nat → Nat) (adV : Nat → Nat)  : Met l yJ0_length_8abf5 wsJ0_length_8abf5 ({ frames := 1, cells := 0, slots := 0, locals := 20 }) (PcPE dC dI ky adK adV [.ref (adK 4)] []) (vp_Si (fun r : Int32 => r = nI 4)) 0 0 (fun _ => False) := by
  refine Met.ofW (cc := cJ0_length_8abf5) (maxL := 1) (ret := (some .int)) (by decide) rfl ?_
  intro p e s m args below meth c s₁ B hml hv
  obtain ⟨rfl, hP, hK, hE⟩ := hv
  have hx := B.exec
  have hb := B.bytes
  have hr := B.returns
  have hts := atoms_spec (ws := wsJ0_length_8abf5) B.pre
  have hown : s.vm.findClass RJ0 = some m.cls := findClass_of_methodNamed B.named
  have hlocks := B.notSynchronized
  have hl := lv_entry ([.ref (adK 4)]) (n := 1) (Nat.le_of_ble_eq_true rfl)
  rw [lg_entry_eq]
  generalize (lg_sl ([.ref (adK 4)]) ++ List.replicate (1 - (lg_sl ([.ref (adK 4)])).length) Slot.unset).toArray = ls at hl ⊢
  have hl : lv_has ls 1 [(0, .ref (adK 4))] := hl
  refine q_name (fun Q hQ => ?_)
  generalize ([.ref (adK 4)] : List Value).toArray = args at hts hQ ⊢
  refine lv_aload_n hx hb dJ0_length_8abf5_0 rfl (lv_at hl 0 rfl) ?_
  refine vk_getf hx hb (hE.1.1 4 (by decide)).2.2.1 va_S.rf hown (hts (.fieldLink RJ0 9 "java/lang/String" "value" "[B") (List.mem_of_getElem? (i := 1) rfl)) (fun _ h9 => h9) dJ0_length_8abf5_1 ?_
  refine r_tlen hx hb (hE.1.1 4 (by decide)).2.2.2 va_S.rf dJ0_length_8abf5_4 ?_
  refine r_ti (nI 4) (by decide) ?_
  refine lv_aload_n hx hb dJ0_length_8abf5_5 rfl (lv_at hl 0 rfl) ?_
  refine vp_callSi (W.runV (As := []) (rest := [.int (nI 4)]) ⟨hx, hb, hml, hown, hts⟩ (c_j_coder4 l dC dI ky adK adV) (cwV 0 hts gJ0_length_8abf5_J0_coder_7d493 rfl rfl rfl (by decide +kernel) ⟨(Nat.le_of_ble_eq_true rfl), (Nat.le_of_ble_eq_true rfl)⟩) (pre_PEV hE va_S.rf hK hP [] rfl (vk_recv hE.1 (i := 4) (by decide) va_S.rf)) rfl rfl hl.1 rfl (lv_room (Nat.le_of_ble_eq_true rfl)) dJ0_length_8abf5_6 ⟨(Nat.le_of_ble_eq_true rfl), (Nat.le_of_ble_eq_true rfl)⟩) (fun r1 p2 => ?_)
  subst p2
  refine lv_ishr hx hb dJ0_length_8abf5_9 ?_
  refine r_ti (nI 4) (by decide) ?_
  rw [hQ]
  exact W.iret (v := nI 4) hx hb hr (fun t9 ht9 hW9 => ⟨nI 4, rfl, (lf_j_length4_1), ht9⟩) (fun _ h => absurd h List.not_mem_nil) dJ0_length_8abf5_10
set_option maxRecDepth 20000 in
theorem lf_j_chL4_1   : 4 < 1000 := by
  try simp only [ia_lt, ia_le, ia_eq, ia_m1, ia_0, ia_1, ne_eq, true_and, and_true, false_and, and_false, or_false, false_or, or_true, true_or, not_true_eq_false, not_false_eq_true] at *
  all_goals omega
set_option maxRecDepth 20000 in
theorem lf_j_chL4_2 (k : Nat) (hk : k < 4) : k < 4 := by
  try simp only [ia_lt, ia_le, ia_eq, ia_m1, ia_0, ia_1, ne_eq, true_and, and_true, false_and, and_false, or_false, false_or, or_true, true_or, not_true_eq_false, not_false_eq_true] at *
  all_goals omega
set_option maxHeartbeats 4000000 in
set_option maxRecDepth 100000 in
theorem c_j_chL4 (l : Launch) (dC : Nat → ClassId) (dI : Nat → Nat → Nat) (ky : Nat → ClassId) (sz : Nat) (adK : Nat → Nat) (adV : Nat → Nat) (k : Nat) (hk : k < 4) : Met l yJ1_charAt_3b067 wsJ1_charAt_3b067 ({ frames := 2, cells := 0, slots := 0, locals := 43 }) (PcUE dC dI ky adK adV [.ref (adV 4), .int (nI k)] [] sz) (va_Qi (fun (r : Int32) (_ : Unit) => narrow .char (.int r) = .int r) (BU dC dI ky (fun (_ : Unit) => []) (va_A [] sz)) (va_A [] sz)) 0 0 (va_A [] sz) := by
  refine Met.ofW (cc := cJ1_charAt_3b067) (maxL := 2) (ret := (some .char)) (by decide) rfl ?_
  intro p e s m args below meth c s₁ B hml hv
  obtain ⟨rfl, hsz, hP, hK, hD0, hE⟩ := hv
  have hx := B.exec
  have hb := B.bytes
  have hr := B.returns
  have hts := atoms_spec (ws := wsJ1_charAt_3b067) B.pre
  have hown : s.vm.findClass RJ1 = some m.cls := findClass_of_methodNamed B.named
  have hlocks := B.notSynchronized
  subst hsz
  have hD := hD0.self (sz := s.heap.size)
  generalize hAe : va_A [] s.heap.size = A at hD hE ⊢
  have hA : ∀ q : Nat, s.heap.size ≤ q → A q := fun q h => by rw [← hAe]; exact Or.inr h
  have hS : va_S A s.heap s.heap [] := va_S.rf
  have hl := lv_entry ([.ref (adV 4), .int (nI k)]) (n := 2) (Nat.le_of_ble_eq_true rfl)
  rw [lg_entry_eq]
  generalize (lg_sl ([.ref (adV 4), .int (nI k)]) ++ List.replicate (2 - (lg_sl ([.ref (adV 4), .int (nI k)])).length) Slot.unset).toArray = ls at hl ⊢
  have hl : lv_has ls 2 [(0, .ref (adV 4)), (1, .int (nI k))] := hl
  refine q_name (fun Q hQ => ?_)
  generalize ([.ref (adV 4), .int (nI k)] : List Value).toArray = args at hts hQ ⊢
  refine lv_iload_n hx hb dJ1_charAt_3b067_0 rfl (lv_at hl 1 rfl) ?_
  refine lv_aload_n hx hb dJ1_charAt_3b067_1 rfl (lv_at hl 0 rfl) ?_
  refine r_tlen hx hb (hE.1.1 4 (by decide)).2.2.2 hS dJ1_charAt_3b067_2 ?_
  refine r_ti (nI 4) (by decide) ?_
  refine r_call_v (wr := []) (va_runS (As := [.int (nI k), .int (nI 4)]) (rest := []) ⟨hx, hb, hml, hown, hts⟩ (c_j_x0 l dC dI ky s.heap.size adK adV k 4 hk (lf_j_chL4_1)) (va_cwS 2 hts gJ1_charAt_3b067_J0_checkIndex_df160 rfl rfl rfl (by decide +kernel) ⟨(Nat.le_of_ble_eq_true rfl), (Nat.le_of_ble_eq_true rfl)⟩) (pre_UES hE hS hA hK hP hD [] (by decide) rfl) rfl rfl hl.1 rfl (lv_room (Nat.le_of_ble_eq_true rfl)) dJ1_charAt_3b067_3 ⟨(Nat.le_of_ble_eq_true rfl), (Nat.le_of_ble_eq_true rfl)⟩) hP hD hS hA [] [] rfl rfl (by decide) (by decide) (fun  u1 H locs p2 hP hD hS => ?_)
  refine W.widen (k := 0) (n := 0) (Nat.le_of_ble_eq_true rfl) (Nat.le_of_ble_eq_true rfl) ?_
  have hP : va_P (dC, dI) vwCl [] H := hP
  have hD : va_D A [] := hD
  refine lv_aload_n hx hb dJ1_charAt_3b067_6 rfl (lv_at hl 0 rfl) ?_
  refine lv_iload_n hx hb dJ1_charAt_3b067_7 rfl (lv_at hl 1 rfl) ?_
  refine r_tb hx hb (hE.1.1 4 (by decide)).2.2.2 hS k (lf_j_chL4_2 k hk) (by decide) dJ1_charAt_3b067_8 ?_
  refine lv_topi (fun y3 e4 => ?_)
  refine lv_sipush (v := nI 255) hx hb dJ1_charAt_3b067_9 (by decide) ?_
  refine lv_iand hx hb dJ1_charAt_3b067_12 ?_
  refine lv_topi (fun y5 e6 => ?_)
  obtain ⟨y7, e8⟩ : ∃ z9 : Int32, z9 = ((y5).toUInt32 % 65536).toInt32 := ⟨_, rfl⟩
  refine lv_i2c (v := y7) hx hb dJ1_charAt_3b067_13 e8.symm ?_
  rw [hQ]
  exact W.zret (v := y7) hx hb hr (by rw [e8]; exact ch_nar _) (fun t9 ht9 hW9 => ⟨⟨y7, (), rfl, (by rw [e8]; exact ch_nar _), by rw [ht9]; exact hP, va_K.moved hW9.alike hK, hD⟩, hS.F ht9⟩) hS.2.2 dJ1_charAt_3b067_14
set_option maxHeartbeats 4000000 in
set_option maxRecDepth 100000 in
theorem c_j_ch4 (l : Launch) (dC : Nat → ClassId) (dI : Nat → Nat → Nat) (ky : Nat → ClassId) (sz : Nat) (adK : Nat → Nat) (adV : Nat → Nat) (k : Nat) (hk : k < 4) : Met l yJ0_charAt_5068e wsJ0_charAt_5068e ({ frames := 3, cells := 0, slots := 0, locals := 64 }) (PcUE dC dI ky adK adV [.ref (adK 4), .int (nI k)] [] sz) (va_Qi (fun (r : Int32) (_ : Unit) => narrow .char (.int r) = .int r) (BU dC dI ky (fun (_ : Unit) => []) (va_A [] sz)) (va_A [] sz)) 0 0 (va_A [] sz) := by
  refine Met.ofW (cc := cJ0_charAt_5068e) (maxL := 2) (ret := (some .char)) (by decide) rfl ?_
  intro p e s m args below meth c s₁ B hml hv
  obtain ⟨rfl, hsz, hP, hK, hD0, hE⟩ := hv
  have hx := B.exec
  have hb := B.bytes
  have hr := B.returns
  have hts := atoms_spec (ws := wsJ0_charAt_5068e) B.pre
  have hown : s.vm.findClass RJ0 = some m.cls := findClass_of_methodNamed B.named
  have hlocks := B.notSynchronized
  subst hsz
  have hD := hD0.self (sz := s.heap.size)
  generalize hAe : va_A [] s.heap.size = A at hD hE ⊢
  have hA : ∀ q : Nat, s.heap.size ≤ q → A q := fun q h => by rw [← hAe]; exact Or.inr h
  have hS : va_S A s.heap s.heap [] := va_S.rf
  have hl := lv_entry ([.ref (adK 4), .int (nI k)]) (n := 2) (Nat.le_of_ble_eq_true rfl)
  rw [lg_entry_eq]
  generalize (lg_sl ([.ref (adK 4), .int (nI k)]) ++ List.replicate (2 - (lg_sl ([.ref (adK 4), .int (nI k)])).length) Slot.unset).toArray = ls at hl ⊢
  have hl : lv_has ls 2 [(0, .ref (adK 4)), (1, .int (nI k))] := hl
  refine q_name (fun Q hQ => ?_)
  generalize ([.ref (adK 4), .int (nI k)] : List Value).toArray = args at hts hQ ⊢
  refine lv_aload_n hx hb dJ0_charAt_5068e_0 rfl (lv_at hl 0 rfl) ?_
  refine vp_callSi (W.runV (As := []) (rest := []) ⟨hx, hb, hml, hown, hts⟩ (c_j_latin4 l dC dI ky adK adV) (cwV 0 hts gJ0_charAt_5068e_J0_isLatin1_aae02 rfl rfl rfl (by decide +kernel) ⟨(Nat.le_of_ble_eq_true rfl), (Nat.le_of_ble_eq_true rfl)⟩) (pre_PEV hE hS hK hP [] rfl (vk_recv hE.1 (i := 4) (by decide) hS)) rfl rfl hl.1 rfl (lv_room (Nat.le_of_ble_eq_true rfl)) dJ0_charAt_5068e_1 ⟨(Nat.le_of_ble_eq_true rfl), (Nat.le_of_ble_eq_true rfl)⟩) (fun r1 p2 => ?_)
  subst p2
  refine lv_if_eq (tgt := 16) hx hb dJ0_charAt_5068e_4 (by decide) (fun c3 => absurd c3 (by decide)) (fun c3 => ?_)
  refine lv_aload_n hx hb dJ0_charAt_5068e_7 rfl (lv_at hl 0 rfl) ?_
  refine vk_getf hx hb (hE.1.1 4 (by decide)).2.2.1 hS hown (hts (.fieldLink RJ0 9 "java/lang/String" "value" "[B") (List.mem_of_getElem? (i := 1) rfl)) (fun _ h9 => h9) dJ0_charAt_5068e_8 ?_
  refine lv_iload_n hx hb dJ0_charAt_5068e_11 rfl (lv_at hl 1 rfl) ?_
  refine r_call_i (wr := []) (va_runS (As := [.ref (adV 4), .int (nI k)]) (rest := []) ⟨hx, hb, hml, hown, hts⟩ (c_j_chL4 l dC dI ky s.heap.size adK adV k hk) (va_cwS 2 hts gJ0_charAt_5068e_J1_charAt_3b067 rfl rfl rfl (by decide +kernel) ⟨(Nat.le_of_ble_eq_true rfl), (Nat.le_of_ble_eq_true rfl)⟩) (pre_UES hE hS hA hK hP hD [] (by decide) rfl) rfl rfl hl.1 rfl (lv_room (Nat.le_of_ble_eq_true rfl)) dJ0_charAt_5068e_12 ⟨(Nat.le_of_ble_eq_true rfl), (Nat.le_of_ble_eq_true rfl)⟩) hP hD hS hA [] [] rfl rfl (by decide) (by decide) (fun r6 u4 H locs p5 hP hD hS => ?_)
  try dsimp only at p5
  have p7 := p5
  refine W.widen (k := 0) (n := 0) (Nat.le_of_ble_eq_true rfl) (Nat.le_of_ble_eq_true rfl) ?_
  have hP : va_P (dC, dI) vwCl [] H := hP
  have hD : va_D A [] := hD
  rw [hQ]
  exact W.zret (v := r6) hx hb hr p7 (fun t9 ht9 hW9 => ⟨⟨r6, (), rfl, p7, by rw [ht9]; exact hP, va_K.moved hW9.alike hK, hD⟩, hS.F ht9⟩) hS.2.2 dJ0_charAt_5068e_15
set_option maxRecDepth 20000 in
theorem lf_j_coder5_1   : (nI 0) = nI 0 := by
  try have k_0 := ia_n 0 (by first | decide | omega)
  try simp only [ia_lt, ia_le, ia_eq, ia_m1, ia_0, ia_1, ne_eq, true_and, and_true, false_and, and_false, or_false, false_or, or_true, true_or, not_true_eq_false, not_false_eq_true] at *
  all_goals omega
set_option maxHeartbeats 4000000 in
set_option maxRecDepth 100000 in
theorem c_j_coder5 (l : Launch) (dC : Nat → ClassId) (dI : Nat → Nat → Nat) (ky : Nat → ClassId) (adK : Nat → Nat) (adV : Nat → Nat)  : Met l yJ0_coder_7d493 wsJ0_coder_7d493 ({ frames := 0, cells := 0, slots := 0, locals := 0 }) (PcPE dC dI ky adK adV [.ref (adK 5)] []) (vp_Si (fun r : Int32 => r = nI 0)) 0 0 (fun _ => False) := by
  refine Met.ofW (cc := cJ0_coder_7d493) (maxL := 1) (ret := (some .byte)) (by decide) rfl ?_
  intro p e s m args below meth c s₁ B hml hv
  obtain ⟨rfl, hP, hK, hE⟩ := hv
  have hx := B.exec
  have hb := B.bytes
  have hr := B.returns
  have hts := atoms_spec (ws := wsJ0_coder_7d493) B.pre
  have hown : s.vm.findClass RJ0 = some m.cls := findClass_of_methodNamed B.named
  have hlocks := B.notSynchronized
  have hl := lv_entry ([.ref (adK 5)]) (n := 1) (Nat.le_of_ble_eq_true rfl)
  rw [lg_entry_eq]
  generalize (lg_sl ([.ref (adK 5)]) ++ List.replicate (1 - (lg_sl ([.ref (adK 5)])).length) Slot.unset).toArray = ls at hl ⊢
  have hl : lv_has ls 1 [(0, .ref (adK 5))] := hl
  refine q_name (fun Q hQ => ?_)
  generalize ([.ref (adK 5)] : List Value).toArray = args at hts hQ ⊢
  refine va_gets hx hb hE.2.1 va_S.rf hown (hts (.fieldLink RJ0 38 "java/lang/String" "COMPACT_STRINGS" "Z") (List.mem_of_getElem? (i := 1) rfl)) (fun _ h9 => h9) dJ0_coder_7d493_0 ?_
  refine r_ti (nI 1) (by decide) ?_
  refine lv_if_eq (tgt := 13) hx hb dJ0_coder_7d493_3 (by decide) (fun c1 => absurd c1 (by decide)) (fun c1 => ?_)
  refine lv_aload_n hx hb dJ0_coder_7d493_6 rfl (lv_at hl 0 rfl) ?_
  refine vk_getf hx hb (hE.1.1 5 (by decide)).2.1 va_S.rf hown (hts (.fieldLink RJ0 15 "java/lang/String" "coder" "B") (List.mem_of_getElem? (i := 2) rfl)) (fun _ h9 => h9) dJ0_coder_7d493_7 ?_
  refine r_ti (nI 0) (by decide) ?_
  refine lv_goto (tgt := 14) hx hb dJ0_coder_7d493_10 (by decide) ?_
  rw [hQ]
  exact W.zret (v := nI 0) hx hb hr (by decide) (fun t9 ht9 hW9 => ⟨nI 0, rfl, (lf_j_coder5_1), ht9⟩) (fun _ h => absurd h List.not_mem_nil) dJ0_coder_7d493_14
set_option maxRecDepth 20000 in
theorem lf_j_latin5_1   : (nI 1) = nI 1 := by
  try have k_0 := ia_n 1 (by first | decide | omega)
  try simp only [ia_lt, ia_le, ia_eq, ia_m1, ia_0, ia_1, ne_eq, true_and, and_true, false_and, and_false, or_false, false_or, or_true, true_or, not_true_eq_false, not_false_eq_true] at *
  all_goals omega
set_option maxHeartbeats 4000000 in
set_option maxRecDepth 100000 in
theorem c_j_latin5 (l : Launch) (dC : Nat → ClassId) (dI : Nat → Nat → Nat) (ky : Nat → ClassId) (adK : Nat → Nat) (adV : Nat → Nat)  : Met l yJ0_isLatin1_aae02 wsJ0_isLatin1_aae02 ({ frames := 0, cells := 0, slots := 0, locals := 0 }) (PcPE dC dI ky adK adV [.ref (adK 5)] []) (vp_Si (fun r : Int32 => r = nI 1)) 0 0 (fun _ => False) := by
  refine Met.ofW (cc := cJ0_isLatin1_aae02) (maxL := 1) (ret := (some .boolean)) (by decide) rfl ?_
  intro p e s m args below meth c s₁ B hml hv
  obtain ⟨rfl, hP, hK, hE⟩ := hv
  have hx := B.exec
  have hb := B.bytes
  have hr := B.returns
  have hts := atoms_spec (ws := wsJ0_isLatin1_aae02) B.pre
  have hown : s.vm.findClass RJ0 = some m.cls := findClass_of_methodNamed B.named
  have hlocks := B.notSynchronized
  have hl := lv_entry ([.ref (adK 5)]) (n := 1) (Nat.le_of_ble_eq_true rfl)
  rw [lg_entry_eq]
  generalize (lg_sl ([.ref (adK 5)]) ++ List.replicate (1 - (lg_sl ([.ref (adK 5)])).length) Slot.unset).toArray = ls at hl ⊢
  have hl : lv_has ls 1 [(0, .ref (adK 5))] := hl
  refine q_name (fun Q hQ => ?_)
  generalize ([.ref (adK 5)] : List Value).toArray = args at hts hQ ⊢
  refine va_gets hx hb hE.2.1 va_S.rf hown (hts (.fieldLink RJ0 38 "java/lang/String" "COMPACT_STRINGS" "Z") (List.mem_of_getElem? (i := 1) rfl)) (fun _ h9 => h9) dJ0_isLatin1_aae02_0 ?_
  refine r_ti (nI 1) (by decide) ?_
  refine lv_if_eq (tgt := 17) hx hb dJ0_isLatin1_aae02_3 (by decide) (fun c1 => absurd c1 (by decide)) (fun c1 => ?_)
  refine lv_aload_n hx hb dJ0_isLatin1_aae02_6 rfl (lv_at hl 0 rfl) ?_
  refine vk_getf hx hb (hE.1.1 5 (by decide)).2.1 va_S.rf hown (hts (.fieldLink RJ0 15 "java/lang/String" "coder" "B") (List.mem_of_getElem? (i := 2) rfl)) (fun _ h9 => h9) dJ0_isLatin1_aae02_7 ?_
  refine r_ti (nI 0) (by decide) ?_
  refine lv_if_ne (tgt := 17) hx hb dJ0_isLatin1_aae02_10 (by decide) (fun c2 => absurd c2 (by decide)) (fun c2 => ?_)
  refine lv_iconst (v := nI 1) hx hb dJ0_isLatin1_aae02_13 (by decide) ?_
  refine lv_goto (tgt := 18) hx hb dJ0_isLatin1_aae02_14 (by decide) ?_
  rw [hQ]
  exact W.zret (v := nI 1) hx hb hr (by decide) (fun t9 ht9 hW9 => ⟨nI 1, rfl, (lf_j_latin5_1), ht9⟩) (fun _ h => absurd h List.not_mem_nil) dJ0_isLatin1_aae02_18
set_option maxRecDepth 20000 in
theorem lf_j_length5_1   : (nI 1) = nI 1 := by
  try have k_0 := ia_n 1 (by first | decide | omega)
  try simp only [ia_lt, ia_le, ia_eq, ia_m1, ia_0, ia_1, ne_eq, true_and, and_true, false_and, and_false, or_false, false_or, or_true, true_or, not_true_eq_false, not_false_eq_true] at *
  all_goals omega
set_option maxHeartbeats 4000000 in
set_option maxRecDepth 100000 in
theorem c_j_length5 (l : Launch) (dC : Nat → ClassId) (dI : Nat → Nat → Nat) (ky : Nat → ClassId) (adK : Nat → Nat) (adV : Nat → Nat)  : Met l yJ0_length_8abf5 wsJ0_length_8abf5 ({ frames := 1, cells := 0, slots := 0, locals := 20 }) (PcPE dC dI ky adK adV [.ref (adK 5)] []) (vp_Si (fun r : Int32 => r = nI 1)) 0 0 (fun _ => False) := by
  refine Met.ofW (cc := cJ0_length_8abf5) (maxL := 1) (ret := (some .int)) (by decide) rfl ?_
  intro p e s m args below meth c s₁ B hml hv
  obtain ⟨rfl, hP, hK, hE⟩ := hv
  have hx := B.exec
  have hb := B.bytes
  have hr := B.returns
  have hts := atoms_spec (ws := wsJ0_length_8abf5) B.pre
  have hown : s.vm.findClass RJ0 = some m.cls := findClass_of_methodNamed B.named
  have hlocks := B.notSynchronized
  have hl := lv_entry ([.ref (adK 5)]) (n := 1) (Nat.le_of_ble_eq_true rfl)
  rw [lg_entry_eq]
  generalize (lg_sl ([.ref (adK 5)]) ++ List.replicate (1 - (lg_sl ([.ref (adK 5)])).length) Slot.unset).toArray = ls at hl ⊢
  have hl : lv_has ls 1 [(0, .ref (adK 5))] := hl
  refine q_name (fun Q hQ => ?_)
  generalize ([.ref (adK 5)] : List Value).toArray = args at hts hQ ⊢
  refine lv_aload_n hx hb dJ0_length_8abf5_0 rfl (lv_at hl 0 rfl) ?_
  refine vk_getf hx hb (hE.1.1 5 (by decide)).2.2.1 va_S.rf hown (hts (.fieldLink RJ0 9 "java/lang/String" "value" "[B") (List.mem_of_getElem? (i := 1) rfl)) (fun _ h9 => h9) dJ0_length_8abf5_1 ?_
  refine r_tlen hx hb (hE.1.1 5 (by decide)).2.2.2 va_S.rf dJ0_length_8abf5_4 ?_
  refine r_ti (nI 1) (by decide) ?_
  refine lv_aload_n hx hb dJ0_length_8abf5_5 rfl (lv_at hl 0 rfl) ?_
  refine vp_callSi (W.runV (As := []) (rest := [.int (nI 1)]) ⟨hx, hb, hml, hown, hts⟩ (c_j_coder5 l dC dI ky adK adV) (cwV 0 hts gJ0_length_8abf5_J0_coder_7d493 rfl rfl rfl (by decide +kernel) ⟨(Nat.le_of_ble_eq_true rfl), (Nat.le_of_ble_eq_true rfl)⟩) (pre_PEV hE va_S.rf hK hP [] rfl (vk_recv hE.1 (i := 5) (by decide) va_S.rf)) rfl rfl hl.1 rfl (lv_room (Nat.le_of_ble_eq_true rfl)) dJ0_length_8abf5_6 ⟨(Nat.le_of_ble_eq_true rfl), (Nat.le_of_ble_eq_true rfl)⟩) (fun r1 p2 => ?_)
  subst p2
  refine lv_ishr hx hb dJ0_length_8abf5_9 ?_
  refine r_ti (nI 1) (by decide) ?_
  rw [hQ]
  exact W.iret (v := nI 1) hx hb hr (fun t9 ht9 hW9 => ⟨nI 1, rfl, (lf_j_length5_1), ht9⟩) (fun _ h => absurd h List.not_mem_nil) dJ0_length_8abf5_10
set_option maxRecDepth 20000 in
theorem lf_j_chL5_1   : 1 < 1000 := by
  try simp only [ia_lt, ia_le, ia_eq, ia_m1, ia_0, ia_1, ne_eq, true_and, and_true, false_and, and_false, or_false, false_or, or_true, true_or, not_true_eq_false, not_false_eq_true] at *
  all_goals omega
set_option maxRecDepth 20000 in
theorem lf_j_chL5_2 (k : Nat) (hk : k < 1) : k < 1 := by
  try simp only [ia_lt, ia_le, ia_eq, ia_m1, ia_0, ia_1, ne_eq, true_and, and_true, false_and, and_false, or_false, false_or, or_true, true_or, not_true_eq_false, not_false_eq_true] at *
  all_goals omega
set_option maxHeartbeats 4000000 in
set_option maxRecDepth 100000 in
theorem c_j_chL5 (l : Launch) (dC : Nat → ClassId) (dI : Nat → Nat → Nat) (ky : Nat → ClassId) (sz : Nat) (adK : Nat → Nat) (adV : Nat → Nat) (k : Nat) (hk : k < 1) : Met l yJ1_charAt_3b067 wsJ1_charAt_3b067 ({ frames := 2, cells := 0, slots := 0, locals := 43 }) (PcUE dC dI ky adK adV [.ref (adV 5), .int (nI k)] [] sz) (va_Qi (fun (r : Int32) (_ : Unit) => narrow .char (.int r) = .int r) (BU dC dI ky (fun (_ : Unit) => []) (va_A [] sz)) (va_A [] sz)) 0 0 (va_A [] sz) := by
  refine Met.ofW (cc := cJ1_charAt_3b067) (maxL := 2) (ret := (some .char)) (by decide) rfl ?_
  intro p e s m args below meth c s₁ B hml hv
  obtain ⟨rfl, hsz, hP, hK, hD0, hE⟩ := hv
  have hx := B.exec
  have hb := B.bytes
  have hr := B.returns
  have hts := atoms_spec (ws := wsJ1_charAt_3b067) B.pre
  have hown : s.vm.findClass RJ1 = some m.cls := findClass_of_methodNamed B.named
  have hlocks := B.notSynchronized
  subst hsz
  have hD := hD0.self (sz := s.heap.size)
  generalize hAe : va_A [] s.heap.size = A at hD hE ⊢
  have hA : ∀ q : Nat, s.heap.size ≤ q → A q := fun q h => by rw [← hAe]; exact Or.inr h
  have hS : va_S A s.heap s.heap [] := va_S.rf
  have hl := lv_entry ([.ref (adV 5), .int (nI k)]) (n := 2) (Nat.le_of_ble_eq_true rfl)
  rw [lg_entry_eq]
  generalize (lg_sl ([.ref (adV 5), .int (nI k)]) ++ List.replicate (2 - (lg_sl ([.ref (adV 5), .int (nI k)])).length) Slot.unset).toArray = ls at hl ⊢
  have hl : lv_has ls 2 [(0, .ref (adV 5)), (1, .int (nI k))] := hl
  refine q_name (fun Q hQ => ?_)
  generalize ([.ref (adV 5), .int (nI k)] : List Value).toArray = args at hts hQ ⊢
  refine lv_iload_n hx hb dJ1_charAt_3b067_0 rfl (lv_at hl 1 rfl) ?_
  refine lv_aload_n hx hb dJ1_charAt_3b067_1 rfl (lv_at hl 0 rfl) ?_
  refine r_tlen hx hb (hE.1.1 5 (by decide)).2.2.2 hS dJ1_charAt_3b067_2 ?_
  refine r_ti (nI 1) (by decide) ?_
  refine r_call_v (wr := []) (va_runS (As := [.int (nI k), .int (nI 1)]) (rest := []) ⟨hx, hb, hml, hown, hts⟩ (c_j_x0 l dC dI ky s.heap.size adK adV k 1 hk (lf_j_chL5_1)) (va_cwS 2 hts gJ1_charAt_3b067_J0_checkIndex_df160 rfl rfl rfl (by decide +kernel) ⟨(Nat.le_of_ble_eq_true rfl), (Nat.le_of_ble_eq_true rfl)⟩) (pre_UES hE hS hA hK hP hD [] (by decide) rfl) rfl rfl hl.1 rfl (lv_room (Nat.le_of_ble_eq_true rfl)) dJ1_charAt_3b067_3 ⟨(Nat.le_of_ble_eq_true rfl), (Nat.le_of_ble_eq_true rfl)⟩) hP hD hS hA [] [] rfl rfl (by decide) (by decide) (fun  u1 H locs p2 hP hD hS => ?_)
  refine W.widen (k := 0) (n := 0) (Nat.le_of_ble_eq_true rfl) (Nat.le_of_ble_eq_true rfl) ?_
  have hP : va_P (dC, dI) vwCl [] H := hP
  have hD : va_D A [] := hD
  refine lv_aload_n hx hb dJ1_charAt_3b067_6 rfl (lv_at hl 0 rfl) ?_
  refine lv_iload_n hx hb dJ1_charAt_3b067_7 rfl (lv_at hl 1 rfl) ?_
  refine r_tb hx hb (hE.1.1 5 (by decide)).2.2.2 hS k (lf_j_chL5_2 k hk) (by decide) dJ1_charAt_3b067_8 ?_
  refine lv_topi (fun y3 e4 => ?_)
  refine lv_sipush (v := nI 255) hx hb dJ1_charAt_3b067_9 (by decide) ?_
  refine lv_iand hx hb dJ1_charAt_3b067_12 ?_
  refine lv_topi (fun y5 e6 => ?_)
  obtain ⟨y7, e8⟩ : ∃ z9 : Int32, z9 = ((y5).toUInt32 % 65536).toInt32 := ⟨_, rfl⟩
  refine lv_i2c (v := y7) hx hb dJ1_charAt_3b067_13 e8.symm ?_
  rw [hQ]
  exact W.zret (v := y7) hx hb hr (by rw [e8]; exact ch_nar _) (fun t9 ht9 hW9 => ⟨⟨y7, (), rfl, (by rw [e8]; exact ch_nar _), by rw [ht9]; exact hP, va_K.moved hW9.alike hK, hD⟩, hS.F ht9⟩) hS.2.2 dJ1_charAt_3b067_14
set_option maxHeartbeats 4000000 in
set_option maxRecDepth 100000 in
theorem c_j_ch5 (l : Launch) (dC : Nat → ClassId) (dI : Nat → Nat → Nat) (ky : Nat → ClassId) (sz : Nat) (adK : Nat → Nat) (adV : Nat → Nat) (k : Nat) (hk : k < 1) : Met l yJ0_charAt_5068e wsJ0_charAt_5068e ({ frames := 3, cells := 0, slots := 0, locals := 64 }) (PcUE dC dI ky adK adV [.ref (adK 5), .int (nI k)] [] sz) (va_Qi (fun (r : Int32) (_ : Unit) => narrow .char (.int r) = .int r) (BU dC dI ky (fun (_ : Unit) => []) (va_A [] sz)) (va_A [] sz)) 0 0 (va_A [] sz) := by
  refine Met.ofW (cc := cJ0_charAt_5068e) (maxL := 2) (ret := (some .char)) (by decide) rfl ?_
  intro p e s m args below meth c s₁ B hml hv
  obtain ⟨rfl, hsz, hP, hK, hD0, hE⟩ := hv
  have hx := B.exec
  have hb := B.bytes
  have hr := B.returns
  have hts := atoms_spec (ws := wsJ0_charAt_5068e) B.pre
  have hown : s.vm.findClass RJ0 = some m.cls := findClass_of_methodNamed B.named
  have hlocks := B.notSynchronized
  subst hsz
  have hD := hD0.self (sz := s.heap.size)
  generalize hAe : va_A [] s.heap.size = A at hD hE ⊢
  have hA : ∀ q : Nat, s.heap.size ≤ q → A q := fun q h => by rw [← hAe]; exact Or.inr h
  have hS : va_S A s.heap s.heap [] := va_S.rf
  have hl := lv_entry ([.ref (adK 5), .int (nI k)]) (n := 2) (Nat.le_of_ble_eq_true rfl)
  rw [lg_entry_eq]
  generalize (lg_sl ([.ref (adK 5), .int (nI k)]) ++ List.replicate (2 - (lg_sl ([.ref (adK 5), .int (nI k)])).length) Slot.unset).toArray = ls at hl ⊢
  have hl : lv_has ls 2 [(0, .ref (adK 5)), (1, .int (nI k))] := hl
  refine q_name (fun Q hQ => ?_)
  generalize ([.ref (adK 5), .int (nI k)] : List Value).toArray = args at hts hQ ⊢
  refine lv_aload_n hx hb dJ0_charAt_5068e_0 rfl (lv_at hl 0 rfl) ?_
  refine vp_callSi (W.runV (As := []) (rest := []) ⟨hx, hb, hml, hown, hts⟩ (c_j_latin5 l dC dI ky adK adV) (cwV 0 hts gJ0_charAt_5068e_J0_isLatin1_aae02 rfl rfl rfl (by decide +kernel) ⟨(Nat.le_of_ble_eq_true rfl), (Nat.le_of_ble_eq_true rfl)⟩) (pre_PEV hE hS hK hP [] rfl (vk_recv hE.1 (i := 5) (by decide) hS)) rfl rfl hl.1 rfl (lv_room (Nat.le_of_ble_eq_true rfl)) dJ0_charAt_5068e_1 ⟨(Nat.le_of_ble_eq_true rfl), (Nat.le_of_ble_eq_true rfl)⟩) (fun r1 p2 => ?_)
  subst p2
  refine lv_if_eq (tgt := 16) hx hb dJ0_charAt_5068e_4 (by decide) (fun c3 => absurd c3 (by decide)) (fun c3 => ?_)
  refine lv_aload_n hx hb dJ0_charAt_5068e_7 rfl (lv_at hl 0 rfl) ?_
  refine vk_getf hx hb (hE.1.1 5 (by decide)).2.2.1 hS hown (hts (.fieldLink RJ0 9 "java/lang/String" "value" "[B") (List.mem_of_getElem? (i := 1) rfl)) (fun _ h9 => h9) dJ0_charAt_5068e_8 ?_
  refine lv_iload_n hx hb dJ0_charAt_5068e_11 rfl (lv_at hl 1 rfl) ?_
  refine r_call_i (wr := []) (va_runS (As := [.ref (adV 5), .int (nI k)]) (rest := []) ⟨hx, hb, hml, hown, hts⟩ (c_j_chL5 l dC dI ky s.heap.size adK adV k hk) (va_cwS 2 hts gJ0_charAt_5068e_J1_charAt_3b067 rfl rfl rfl (by decide +kernel) ⟨(Nat.le_of_ble_eq_true rfl), (Nat.le_of_ble_eq_true rfl)⟩) (pre_UES hE hS hA hK hP hD [] (by decide) rfl) rfl rfl hl.1 rfl (lv_room (Nat.le_of_ble_eq_true rfl)) dJ0_charAt_5068e_12 ⟨(Nat.le_of_ble_eq_true rfl), (Nat.le_of_ble_eq_true rfl)⟩) hP hD hS hA [] [] rfl rfl (by decide) (by decide) (fun r6 u4 H locs p5 hP hD hS => ?_)
  try dsimp only at p5
  have p7 := p5
  refine W.widen (k := 0) (n := 0) (Nat.le_of_ble_eq_true rfl) (Nat.le_of_ble_eq_true rfl) ?_
  have hP : va_P (dC, dI) vwCl [] H := hP
  have hD : va_D A [] := hD
  rw [hQ]
  exact W.zret (v := r6) hx hb hr p7 (fun t9 ht9 hW9 => ⟨⟨r6, (), rfl, p7, by rw [ht9]; exact hP, va_K.moved hW9.alike hK, hD⟩, hS.F ht9⟩) hS.2.2 dJ0_charAt_5068e_15
set_option maxRecDepth 20000 in
theorem lf_j_coder6_1   : (nI 0) = nI 0 := by
  try have k_0 := ia_n 0 (by first | decide | omega)
  try simp only [ia_lt, ia_le, ia_eq, ia_m1, ia_0, ia_1, ne_eq, true_and, and_true, false_and, and_false, or_false, false_or, or_true, true_or, not_true_eq_false, not_false_eq_true] at *
  all_goals omega
set_option maxHeartbeats 4000000 in
set_option maxRecDepth 100000 in
theorem c_j_coder6 (l : Launch) (dC : Nat → ClassId) (dI : Nat → Nat → Nat) (ky : Nat → ClassId) (adK : Nat → Nat) (adV : Nat → Nat)  : Met l yJ0_coder_7d493 wsJ0_coder_7d493 ({ frames := 0, cells := 0, slots := 0, locals := 0 }) (PcPE dC dI ky adK adV [.ref (adK 6)] []) (vp_Si (fun r : Int32 => r = nI 0)) 0 0 (fun _ => False) := by
  refine Met.ofW (cc := cJ0_coder_7d493) (maxL := 1) (ret := (some .byte)) (by decide) rfl ?_
  intro p e s m args below meth c s₁ B hml hv
  obtain ⟨rfl, hP, hK, hE⟩ := hv
  have hx := B.exec
  have hb := B.bytes
  have hr := B.returns
  have hts := atoms_spec (ws := wsJ0_coder_7d493) B.pre
  have hown : s.vm.findClass RJ0 = some m.cls := findClass_of_methodNamed B.named
  have hlocks := B.notSynchronized
  have hl := lv_entry ([.ref (adK 6)]) (n := 1) (Nat.le_of_ble_eq_true rfl)
  rw [lg_entry_eq]
  generalize (lg_sl ([.ref (adK 6)]) ++ List.replicate (1 - (lg_sl ([.ref (adK 6)])).length) Slot.unset).toArray = ls at hl ⊢
  have hl : lv_has ls 1 [(0, .ref (adK 6))] := hl
  refine q_name (fun Q hQ => ?_)
  generalize ([.ref (adK 6)] : List Value).toArray = args at hts hQ ⊢
  refine va_gets hx hb hE.2.1 va_S.rf hown (hts (.fieldLink RJ0 38 "java/lang/String" "COMPACT_STRINGS" "Z") (List.mem_of_getElem? (i := 1) rfl)) (fun _ h9 => h9) dJ0_coder_7d493_0 ?_
  refine r_ti (nI 1) (by decide) ?_
  refine lv_if_eq (tgt := 13) hx hb dJ0_coder_7d493_3 (by decide) (fun c1 => absurd c1 (by decide)) (fun c1 => ?_)
  refine lv_aload_n hx hb dJ0_coder_7d493_6 rfl (lv_at hl 0 rfl) ?_
  refine vk_getf hx hb (hE.1.1 6 (by decide)).2.1 va_S.rf hown (hts (.fieldLink RJ0 15 "java/lang/String" "coder" "B") (List.mem_of_getElem? (i := 2) rfl)) (fun _ h9 => h9) dJ0_coder_7d493_7 ?_
  refine r_ti (nI 0) (by decide) ?_
  refine lv_goto (tgt := 14) hx hb dJ0_coder_7d493_10 (by decide) ?_
  rw [hQ]
  exact W.zret (v := nI 0) hx hb hr (by decide) (fun t9 ht9 hW9 => ⟨nI 0, rfl, (lf_j_coder6_1), ht9⟩) (fun _ h => absurd h List.not_mem_nil) dJ0_coder_7d493_14
set_option maxRecDepth 20000 in
theorem lf_j_latin6_1   : (nI 1) = nI 1 := by
  try have k_0 := ia_n 1 (by first | decide | omega)
  try simp only [ia_lt, ia_le, ia_eq, ia_m1, ia_0, ia_1, ne_eq, true_and, and_true, false_and, and_false, or_false, false_or, or_true, true_or, not_true_eq_false, not_false_eq_true] at *
  all_goals omega
set_option maxHeartbeats 4000000 in
set_option maxRecDepth 100000 in
theorem c_j_latin6 (l : Launch) (dC : Nat → ClassId) (dI : Nat → Nat → Nat) (ky : Nat → ClassId) (adK : Nat → Nat) (adV : Nat → Nat)  : Met l yJ0_isLatin1_aae02 wsJ0_isLatin1_aae02 ({ frames := 0, cells := 0, slots := 0, locals := 0 }) (PcPE dC dI ky adK adV [.ref (adK 6)] []) (vp_Si (fun r : Int32 => r = nI 1)) 0 0 (fun _ => False) := by
  refine Met.ofW (cc := cJ0_isLatin1_aae02) (maxL := 1) (ret := (some .boolean)) (by decide) rfl ?_
  intro p e s m args below meth c s₁ B hml hv
  obtain ⟨rfl, hP, hK, hE⟩ := hv
  have hx := B.exec
  have hb := B.bytes
  have hr := B.returns
  have hts := atoms_spec (ws := wsJ0_isLatin1_aae02) B.pre
  have hown : s.vm.findClass RJ0 = some m.cls := findClass_of_methodNamed B.named
  have hlocks := B.notSynchronized
  have hl := lv_entry ([.ref (adK 6)]) (n := 1) (Nat.le_of_ble_eq_true rfl)
  rw [lg_entry_eq]
  generalize (lg_sl ([.ref (adK 6)]) ++ List.replicate (1 - (lg_sl ([.ref (adK 6)])).length) Slot.unset).toArray = ls at hl ⊢
  have hl : lv_has ls 1 [(0, .ref (adK 6))] := hl
  refine q_name (fun Q hQ => ?_)
  generalize ([.ref (adK 6)] : List Value).toArray = args at hts hQ ⊢
  refine va_gets hx hb hE.2.1 va_S.rf hown (hts (.fieldLink RJ0 38 "java/lang/String" "COMPACT_STRINGS" "Z") (List.mem_of_getElem? (i := 1) rfl)) (fun _ h9 => h9) dJ0_isLatin1_aae02_0 ?_
  refine r_ti (nI 1) (by decide) ?_
  refine lv_if_eq (tgt := 17) hx hb dJ0_isLatin1_aae02_3 (by decide) (fun c1 => absurd c1 (by decide)) (fun c1 => ?_)
  refine lv_aload_n hx hb dJ0_isLatin1_aae02_6 rfl (lv_at hl 0 rfl) ?_
  refine vk_getf hx hb (hE.1.1 6 (by decide)).2.1 va_S.rf hown (hts (.fieldLink RJ0 15 "java/lang/String" "coder" "B") (List.mem_of_getElem? (i := 2) rfl)) (fun _ h9 => h9) dJ0_isLatin1_aae02_7 ?_
  refine r_ti (nI 0) (by decide) ?_
  refine lv_if_ne (tgt := 17) hx hb dJ0_isLatin1_aae02_10 (by decide) (fun c2 => absurd c2 (by decide)) (fun c2 => ?_)
  refine lv_iconst (v := nI 1) hx hb dJ0_isLatin1_aae02_13 (by decide) ?_
  refine lv_goto (tgt := 18) hx hb dJ0_isLatin1_aae02_14 (by decide) ?_
  rw [hQ]
  exact W.zret (v := nI 1) hx hb hr (by decide) (fun t9 ht9 hW9 => ⟨nI 1, rfl, (lf_j_latin6_1), ht9⟩) (fun _ h => absurd h List.not_mem_nil) dJ0_isLatin1_aae02_18
set_option maxRecDepth 20000 in
theorem lf_j_length6_1   : (nI 7) = nI 7 := by
  try have k_0 := ia_n 7 (by first | decide | omega)
  try simp only [ia_lt, ia_le, ia_eq, ia_m1, ia_0, ia_1, ne_eq, true_and, and_true, false_and, and_false, or_false, false_or, or_true, true_or, not_true_eq_false, not_false_eq_true] at *
  all_goals omega
set_option maxHeartbeats 4000000 in
set_option maxRecDepth 100000 in
theorem c_j_length6 (l : Launch) (dC : Nat → ClassId) (dI : Nat → Nat → Nat) (ky : Nat → ClassId) (adK : Nat → Nat) (adV : Nat → Nat)  : Met l yJ0_length_8abf5 wsJ0_length_8abf5 ({ frames := 1, cells := 0, slots := 0, locals := 20 }) (PcPE dC dI ky adK adV [.ref (adK 6)] []) (vp_Si (fun r : Int32 => r = nI 7)) 0 0 (fun _ => False) := by
  refine Met.ofW (cc := cJ0_length_8abf5) (maxL := 1) (ret := (some .int)) (by decide) rfl ?_
  intro p e s m args below meth c s₁ B hml hv
  obtain ⟨rfl, hP, hK, hE⟩ := hv
  have hx := B.exec
  have hb := B.bytes
  have hr := B.returns
  have hts := atoms_spec (ws := wsJ0_length_8abf5) B.pre
  have hown : s.vm.findClass RJ0 = some m.cls := findClass_of_methodNamed B.named
  have hlocks := B.notSynchronized
  have hl := lv_entry ([.ref (adK 6)]) (n := 1) (Nat.le_of_ble_eq_true rfl)
  rw [lg_entry_eq]
  generalize (lg_sl ([.ref (adK 6)]) ++ List.replicate (1 - (lg_sl ([.ref (adK 6)])).length) Slot.unset).toArray = ls at hl ⊢
  have hl : lv_has ls 1 [(0, .ref (adK 6))] := hl
  refine q_name (fun Q hQ => ?_)
  generalize ([.ref (adK 6)] : List Value).toArray = args at hts hQ ⊢
  refine lv_aload_n hx hb dJ0_length_8abf5_0 rfl (lv_at hl 0 rfl) ?_
  refine vk_getf hx hb (hE.1.1 6 (by decide)).2.2.1 va_S.rf hown (hts (.fieldLink RJ0 9 "java/lang/String" "value" "[B") (List.mem_of_getElem? (i := 1) rfl)) (fun _ h9 => h9) dJ0_length_8abf5_1 ?_
  refine r_tlen hx hb (hE.1.1 6 (by decide)).2.2.2 va_S.rf dJ0_length_8abf5_4 ?_
  refine r_ti (nI 7) (by decide) ?_
  refine lv_aload_n hx hb dJ0_length_8abf5_5 rfl (lv_at hl 0 rfl) ?_
  refine vp_callSi (W.runV (As := []) (rest := [.int (nI 7)]) ⟨hx, hb, hml, hown, hts⟩ (c_j_coder6 l dC dI ky adK adV) (cwV 0 hts gJ0_length_8abf5_J0_coder_7d493 rfl rfl rfl (by decide +kernel) ⟨(Nat.le_of_ble_eq_true rfl), (Nat.le_of_ble_eq_true rfl)⟩) (pre_PEV hE va_S.rf hK hP [] rfl (vk_recv hE.1 (i := 6) (by decide) va_S.rf)) rfl rfl hl.1 rfl (lv_room (Nat.le_of_ble_eq_true rfl)) dJ0_length_8abf5_6 ⟨(Nat.le_of_ble_eq_true rfl), (Nat.le_of_ble_eq_true rfl)⟩) (fun r1 p2 => ?_)
  subst p2
  refine lv_ishr hx hb dJ0_length_8abf5_9 ?_
  refine r_ti (nI 7) (by decide) ?_
  rw [hQ]
  exact W.iret (v := nI 7) hx hb hr (fun t9 ht9 hW9 => ⟨nI 7, rfl, (lf_j_length6_1), ht9⟩) (fun _ h => absurd h List.not_mem_nil) dJ0_length_8abf5_10
set_option maxRecDepth 20000 in
theorem lf_j_chL6_1   : 7 < 1000 := by
  try simp only [ia_lt, ia_le, ia_eq, ia_m1, ia_0, ia_1, ne_eq, true_and, and_true, false_and, and_false, or_false, false_or, or_true, true_or, not_true_eq_false, not_false_eq_true] at *
  all_goals omega
set_option maxRecDepth 20000 in
theorem lf_j_chL6_2 (k : Nat) (hk : k < 7) : k < 7 := by
  try simp only [ia_lt, ia_le, ia_eq, ia_m1, ia_0, ia_1, ne_eq, true_and, and_true, false_and, and_false, or_false, false_or, or_true, true_or, not_true_eq_false, not_false_eq_true] at *
  all_goals omega
set_option maxHeartbeats 4000000 in
set_option maxRecDepth 100000 in
theorem c_j_chL6 (l : Launch) (dC : Nat → ClassId) (dI : Nat → Nat → Nat) (ky : Nat → ClassId) (sz : Nat) (adK : Nat → Nat) (adV : Nat → Nat) (k : Nat) (hk : k < 7) : Met l yJ1_charAt_3b067 wsJ1_charAt_3b067 ({ frames := 2, cells := 0, slots := 0, locals := 43 }) (PcUE dC dI ky adK adV [.ref (adV 6), .int (nI k)] [] sz) (va_Qi (fun (r : Int32) (_ : Unit) => narrow .char (.int r) = .int r) (BU dC dI ky (fun (_ : Unit) => []) (va_A [] sz)) (va_A [] sz)) 0 0 (va_A [] sz) := by
  refine Met.ofW (cc := cJ1_charAt_3b067) (maxL := 2) (ret := (some .char)) (by decide) rfl ?_
  intro p e s m args below meth c s₁ B hml hv
  obtain ⟨rfl, hsz, hP, hK, hD0, hE⟩ := hv
  have hx := B.exec
  have hb := B.bytes
  have hr := B.returns
  have hts := atoms_spec (ws := wsJ1_charAt_3b067) B.pre
  have hown : s.vm.findClass RJ1 = some m.cls := findClass_of_methodNamed B.named
  have hlocks := B.notSynchronized
  subst hsz
  have hD := hD0.self (sz := s.heap.size)
  generalize hAe : va_A [] s.heap.size = A at hD hE ⊢
  have hA : ∀ q : Nat, s.heap.size ≤ q → A q := fun q h => by rw [← hAe]; exact Or.inr h
  have hS : va_S A s.heap s.heap [] := va_S.rf
  have hl := lv_entry ([.ref (adV 6), .int (nI k)]) (n := 2) (Nat.le_of_ble_eq_true rfl)
  rw [lg_entry_eq]
  generalize (lg_sl ([.ref (adV 6), .int (nI k)]) ++ List.replicate (2 - (lg_sl ([.ref (adV 6), .int (nI k)])).length) Slot.unset).toArray = ls at hl ⊢
  have hl : lv_has ls 2 [(0, .ref (adV 6)), (1, .int (nI k))] := hl
  refine q_name (fun Q hQ => ?_)
  generalize ([.ref (adV 6), .int (nI k)] : List Value).toArray = args at hts hQ ⊢
  refine lv_iload_n hx hb dJ1_charAt_3b067_0 rfl (lv_at hl 1 rfl) ?_
  refine lv_aload_n hx hb dJ1_charAt_3b067_1 rfl (lv_at hl 0 rfl) ?_
  refine r_tlen hx hb (hE.1.1 6 (by decide)).2.2.2 hS dJ1_charAt_3b067_2 ?_
  refine r_ti (nI 7) (by decide) ?_
  refine r_call_v (wr := []) (va_runS (As := [.int (nI k), .int (nI 7)]) (rest := []) ⟨hx, hb, hml, hown, hts⟩ (c_j_x0 l dC dI ky s.heap.size adK adV k 7 hk (lf_j_chL6_1)) (va_cwS 2 hts gJ1_charAt_3b067_J0_checkIndex_df160 rfl rfl rfl (by decide +kernel) ⟨(Nat.le_of_ble_eq_true rfl), (Nat.le_of_ble_eq_true rfl)⟩) (pre_UES hE hS hA hK hP hD [] (by decide) rfl) rfl rfl hl.1 rfl (lv_room (Nat.le_of_ble_eq_true rfl)) dJ1_charAt_3b067_3 ⟨(Nat.le_of_ble_eq_true rfl), (Nat.le_of_ble_eq_true rfl)⟩) hP hD hS hA [] [] rfl rfl (by decide) (by decide) (fun  u1 H locs p2 hP hD hS => ?_)
  refine W.widen (k := 0) (n := 0) (Nat.le_of_ble_eq_true rfl) (Nat.le_of_ble_eq_true rfl) ?_
  have hP : va_P (dC, dI) vwCl [] H := hP
  have hD : va_D A [] := hD
  refine lv_aload_n hx hb dJ1_charAt_3b067_6 rfl (lv_at hl 0 rfl) ?_
  refine lv_iload_n hx hb dJ1_charAt_3b067_7 rfl (lv_at hl 1 rfl) ?_
  refine r_tb hx hb (hE.1.1 6 (by decide)).2.2.2 hS k (lf_j_chL6_2 k hk) (by decide) dJ1_charAt_3b067_8 ?_
  refine lv_topi (fun y3 e4 => ?_)
  refine lv_sipush (v := nI 255) hx hb dJ1_charAt_3b067_9 (by decide) ?_
  refine lv_iand hx hb dJ1_charAt_3b067_12 ?_
  refine lv_topi (fun y5 e6 => ?_)
  obtain ⟨y7, e8⟩ : ∃ z9 : Int32, z9 = ((y5).toUInt32 % 65536).toInt32 := ⟨_, rfl⟩
  refine lv_i2c (v := y7) hx hb dJ1_charAt_3b067_13 e8.symm ?_
  rw [hQ]
  exact W.zret (v := y7) hx hb hr (by rw [e8]; exact ch_nar _) (fun t9 ht9 hW9 => ⟨⟨y7, (), rfl, (by rw [e8]; exact ch_nar _), by rw [ht9]; exact hP, va_K.moved hW9.alike hK, hD⟩, hS.F ht9⟩) hS.2.2 dJ1_charAt_3b067_14
set_option maxHeartbeats 4000000 in
set_option maxRecDepth 100000 in
theorem c_j_ch6 (l : Launch) (dC : Nat → ClassId) (dI : Nat → Nat → Nat) (ky : Nat → ClassId) (sz : Nat) (adK : Nat → Nat) (adV : Nat → Nat) (k : Nat) (hk : k < 7) : Met l yJ0_charAt_5068e wsJ0_charAt_5068e ({ frames := 3, cells := 0, slots := 0, locals := 64 }) (PcUE dC dI ky adK adV [.ref (adK 6), .int (nI k)] [] sz) (va_Qi (fun (r : Int32) (_ : Unit) => narrow .char (.int r) = .int r) (BU dC dI ky (fun (_ : Unit) => []) (va_A [] sz)) (va_A [] sz)) 0 0 (va_A [] sz) := by
  refine Met.ofW (cc := cJ0_charAt_5068e) (maxL := 2) (ret := (some .char)) (by decide) rfl ?_
  intro p e s m args below meth c s₁ B hml hv
  obtain ⟨rfl, hsz, hP, hK, hD0, hE⟩ := hv
  have hx := B.exec
  have hb := B.bytes
  have hr := B.returns
  have hts := atoms_spec (ws := wsJ0_charAt_5068e) B.pre
  have hown : s.vm.findClass RJ0 = some m.cls := findClass_of_methodNamed B.named
  have hlocks := B.notSynchronized
  subst hsz
  have hD := hD0.self (sz := s.heap.size)
  generalize hAe : va_A [] s.heap.size = A at hD hE ⊢
  have hA : ∀ q : Nat, s.heap.size ≤ q → A q := fun q h => by rw [← hAe]; exact Or.inr h
  have hS : va_S A s.heap s.heap [] := va_S.rf
  have hl := lv_entry ([.ref (adK 6), .int (nI k)]) (n := 2) (Nat.le_of_ble_eq_true rfl)
  rw [lg_entry_eq]
  generalize (lg_sl ([.ref (adK 6), .int (nI k)]) ++ List.replicate (2 - (lg_sl ([.ref (adK 6), .int (nI k)])).length) Slot.unset).toArray = ls at hl ⊢
  have hl : lv_has ls 2 [(0, .ref (adK 6)), (1, .int (nI k))] := hl
  refine q_name (fun Q hQ => ?_)
  generalize ([.ref (adK 6), .int (nI k)] : List Value).toArray = args at hts hQ ⊢
  refine lv_aload_n hx hb dJ0_charAt_5068e_0 rfl (lv_at hl 0 rfl) ?_
  refine vp_callSi (W.runV (As := []) (rest := []) ⟨hx, hb, hml, hown, hts⟩ (c_j_latin6 l dC dI ky adK adV) (cwV 0 hts gJ0_charAt_5068e_J0_isLatin1_aae02 rfl rfl rfl (by decide +kernel) ⟨(Nat.le_of_ble_eq_true rfl), (Nat.le_of_ble_eq_true rfl)⟩) (pre_PEV hE hS hK hP [] rfl (vk_recv hE.1 (i := 6) (by decide) hS)) rfl rfl hl.1 rfl (lv_room (Nat.le_of_ble_eq_true rfl)) dJ0_charAt_5068e_1 ⟨(Nat.le_of_ble_eq_true rfl), (Nat.le_of_ble_eq_true rfl)⟩) (fun r1 p2 => ?_)
  subst p2
  refine lv_if_eq (tgt := 16) hx hb dJ0_charAt_5068e_4 (by decide) (fun c3 => absurd c3 (by decide)) (fun c3 => ?_)
  refine lv_aload_n hx hb dJ0_charAt_5068e_7 rfl (lv_at hl 0 rfl) ?_
  refine vk_getf hx hb (hE.1.1 6 (by decide)).2.2.1 hS hown (hts (.fieldLink RJ0 9 "java/lang/String" "value" "[B") (List.mem_of_getElem? (i := 1) rfl)) (fun _ h9 => h9) dJ0_charAt_5068e_8 ?_
  refine lv_iload_n hx hb dJ0_charAt_5068e_11 rfl (lv_at hl 1 rfl) ?_
  refine r_call_i (wr := []) (va_runS (As := [.ref (adV 6), .int (nI k)]) (rest := []) ⟨hx, hb, hml, hown, hts⟩ (c_j_chL6 l dC dI ky s.heap.size adK adV k hk) (va_cwS 2 hts gJ0_charAt_5068e_J1_charAt_3b067 rfl rfl rfl (by decide +kernel) ⟨(Nat.le_of_ble_eq_true rfl), (Nat.le_of_ble_eq_true rfl)⟩) (pre_UES hE hS hA hK hP hD [] (by decide) rfl) rfl rfl hl.1 rfl (lv_room (Nat.le_of_ble_eq_true rfl)) dJ0_charAt_5068e_12 ⟨(Nat.le_of_ble_eq_true rfl), (Nat.le_of_ble_eq_true rfl)⟩) hP hD hS hA [] [] rfl rfl (by decide) (by decide) (fun r6 u4 H locs p5 hP hD hS => ?_)
  try dsimp only at p5
  have p7 := p5
  refine W.widen (k := 0) (n := 0) (Nat.le_of_ble_eq_true rfl) (Nat.le_of_ble_eq_true rfl) ?_
  have hP : va_P (dC, dI) vwCl [] H := hP
  have hD : va_D A [] := hD
  rw [hQ]
  exact W.zret (v := r6) hx hb hr p7 (fun t9 ht9 hW9 => ⟨⟨r6, (), rfl, p7, by rw [ht9]; exact hP, va_K.moved hW9.alike hK, hD⟩, hS.F ht9⟩) hS.2.2 dJ0_charAt_5068e_15
