theorem dL_law_0 : decode cL_law 0 = .ok (.new 8, 3) := by decide +kernel
theorem dL_law_3 : decode cL_law 3 = .ok (.dup, 1) := by decide +kernel
theorem dL_law_4 : decode cL_law 4 = .ok (.invokespecial 18, 3) := by decide +kernel
theorem dL_law_7 : decode cL_law 7 = .ok (.astore_n 1, 1) := by decide +kernel
theorem dL_law_8 : decode cL_law 8 = .ok (.new 19, 3) := by decide +kernel
theorem dL_law_11 : decode cL_law 11 = .ok (.dup, 1) := by decide +kernel
theorem dL_law_12 : decode cL_law 12 = .ok (.invokespecial 21, 3) := by decide +kernel
theorem dL_law_15 : decode cL_law 15 = .ok (.astore_n 2, 1) := by decide +kernel
theorem dL_law_16 : decode cL_law 16 = .ok (.iconst 1, 1) := by decide +kernel
theorem dL_law_17 : decode cL_law 17 = .ok (.newarray .long, 2) := by decide +kernel
theorem dL_law_19 : decode cL_law 19 = .ok (.astore_n 3, 1) := by decide +kernel
theorem dL_law_20 : decode cL_law 20 = .ok (.iconst 0, 1) := by decide +kernel
theorem dL_law_21 : decode cL_law 21 = .ok (.istore 4, 2) := by decide +kernel
theorem dL_law_1384 : decode cL_law 1384 = .ok (.iconst 1, 1) := by decide +kernel
theorem dL_law_1385 : decode cL_law 1385 = .ok (.ireturn, 1) := by decide +kernel
theorem pm_st {α : Type} (w wm : List α) (x : α) : ((w ++ wm) ++ [x]).Perm ((wm ++ [x]) ++ w) := by
  classical
  refine List.perm_iff_count.mpr (fun a9 => ?_)
  simp only [List.count_append]
  omega
set_option maxHeartbeats 8000000 in
set_option maxRecDepth 100000 in
theorem whole_start {p : Program} {e : Env} {s : State} {m : MethodId} {below : List Frame} {meth : Method} {c : Code} (l : Launch) (hst : l.stackTraces = false) {b L : Nat} {xs : Nat → Int32} (hL : L ≤ 3072) (C0 : lw_At p s m meth c b L xs) : W p l e room_1 s m #[Value.ref b] below meth c s.heap [] 0 0 (lw_Z below #[Value.ref b] s) (entryFrame m ([Value.ref b] : List Value).toArray 7) := by
  obtain ⟨hx, hb, hr, hml, hown, hts0, hX, hbl, hlocks, hgv⟩ := id C0
  have hown : s.vm.findClass RL = some m.cls := hown
  have hts := hts0
  obtain ⟨A, hAdef⟩ : ∃ A : Nat → Prop, A = fun q => s.heap.size ≤ q := ⟨_, rfl⟩
  have hA : ∀ q : Nat, s.heap.size ≤ q → A q := fun q h => by rw [hAdef]; exact h
  have hbA : ¬ A b := by rw [hAdef]; exact Nat.not_le.mpr hbl
  have hin11 : ∀ w ∈ u_ws RX11 TX11 18, w ∈ lw_tbl := in_wsX110
  have hin12 : ∀ w ∈ u_ws RX12 TX12 52, w ∈ lw_tbl := in_wsX120
  obtain ⟨c0, iS0, hKn0⟩ := u_known (C := RX0) (T := TX0) (N := 7) (n := 7) hts in_wsX00 (hts (.instantiable RX0 7) (List.mem_append_right _ (List.mem_append_left _ (List.mem_of_getElem? (i := 205) rfl))))
  obtain ⟨c1, iS1, hKn1⟩ := u_known (C := RX1) (T := TX1) (N := 1) (n := 1) hts in_wsX10 (hts (.instantiable RX1 1) (List.mem_append_right _ (List.mem_append_right _ (List.mem_append_left _ (List.mem_of_getElem? (i := 60) rfl)))))
  obtain ⟨c2, iS2, hKn2⟩ := u_known (C := RX2) (T := TX2) (N := 3) (n := 3) hts in_wsX20 (hts (.instantiable RX2 3) (List.mem_append_right _ (List.mem_append_right _ (List.mem_append_left _ (List.mem_of_getElem? (i := 70) rfl)))))
  obtain ⟨c3, iS3, hKn3⟩ := u_known (C := RX3) (T := TX3) (N := 3) (n := 3) hts in_wsX30 (hts (.instantiable RX3 3) (List.mem_append_right _ (List.mem_append_right _ (List.mem_append_left _ (List.mem_of_getElem? (i := 90) rfl)))))
  obtain ⟨c4, iS4, hKn4⟩ := u_known (C := RX4) (T := TX4) (N := 3) (n := 3) hts in_wsX40 (hts (.instantiable RX4 3) (List.mem_append_right _ (List.mem_append_right _ (List.mem_append_left _ (List.mem_of_getElem? (i := 30) rfl)))))
  obtain ⟨c5, iS5, hKn5⟩ := u_known (C := RX5) (T := TX5) (N := 11) (n := 11) hts in_wsX50 (hts (.instantiable RX5 11) (List.mem_append_right _ (List.mem_append_left _ (List.mem_of_getElem? (i := 35) rfl))))
  obtain ⟨c6, iS6, hKn6⟩ := u_known (C := RX6) (T := TX6) (N := 4) (n := 4) hts in_wsX60 (hts (.instantiable RX6 4) (List.mem_append_right _ (List.mem_append_right _ (List.mem_append_left _ (List.mem_of_getElem? (i := 10) rfl)))))
  obtain ⟨c7, iS7, hKn7⟩ := u_known (C := RX7) (T := TX7) (N := 19) (n := 19) hts in_wsX70 (hts (.instantiable RX7 19) (List.mem_append_right _ (List.mem_append_left _ (List.mem_of_getElem? (i := 86) rfl))))
  obtain ⟨c8, iS8, hKn8⟩ := u_known (C := RX8) (T := TX8) (N := 1) (n := 1) hts in_wsX80 (hts (.instantiable RX8 1) (List.mem_append_right _ (List.mem_append_left _ (List.mem_of_getElem? (i := 195) rfl))))
  obtain ⟨c9, iS9, hKn9⟩ := u_known (C := RX9) (T := TX9) (N := 3) (n := 3) hts in_wsX90 (hts (.instantiable RX9 3) (List.mem_append_right _ (List.mem_append_left _ (List.mem_of_getElem? (i := 233) rfl))))
  obtain ⟨c10, iS10, hKn10⟩ := u_known (C := RX10) (T := TX10) (N := 2) (n := 2) hts in_wsX100 (hts (.instantiable RX10 2) (List.mem_append_right _ (List.mem_append_right _ (List.mem_append_left _ (List.mem_of_getElem? (i := 46) rfl)))))
  obtain ⟨c11, iS11, hKn11⟩ := u_known (C := RX11) (T := TX11) (N := 18) (n := 18) hts in_wsX110 (hts (.instantiable RX11 18) (List.mem_append_right _ (List.mem_append_left _ (List.mem_of_getElem? (i := 27) rfl))))
  obtain ⟨c12, iS12, hKn12⟩ := u_known (C := RX12) (T := TX12) (N := 52) (n := 52) hts in_wsX120 (hts (.instantiable RX12 52) (List.mem_append_right _ (List.mem_append_right _ (List.mem_append_right _ (List.mem_append_right _ (List.mem_append_right _ (List.mem_append_right _ (List.mem_append_left _ (List.mem_of_getElem? (i := 51) rfl)))))))))
  obtain ⟨dC, dI, hKc⟩ : ∃ (dC : Nat → ClassId) (dI : Nat → Nat → Nat), ∀ (k : Nat) (q : vw_C), vwCl[k]? = some q → u_Kn s q.1 q.2.1 q.2.2 (dC k) (dI k) := by
    refine ⟨fun k => [c0, c1, c2, c3, c4, c5, c6, c7, c8, c9, c10, c11, c12].getD k c0, fun k => [iS0, iS1, iS2, iS3, iS4, iS5, iS6, iS7, iS8, iS9, iS10, iS11, iS12].getD k iS0, ?_⟩
    intro k q hq
    match k, hq with
    | 0, hq => cases hq; exact hKn0
    | 1, hq => cases hq; exact hKn1
    | 2, hq => cases hq; exact hKn2
    | 3, hq => cases hq; exact hKn3
    | 4, hq => cases hq; exact hKn4
    | 5, hq => cases hq; exact hKn5
    | 6, hq => cases hq; exact hKn6
    | 7, hq => cases hq; exact hKn7
    | 8, hq => cases hq; exact hKn8
    | 9, hq => cases hq; exact hKn9
    | 10, hq => cases hq; exact hKn10
    | 11, hq => cases hq; exact hKn11
    | 12, hq => cases hq; exact hKn12
    | k + 13, hq => simp [vwCl] at hq
  obtain ⟨a0, ha0⟩ := k_arr (hts (.arrayClass .int) (List.mem_append_right _ (List.mem_append_left _ (List.mem_of_getElem? (i := 192) rfl))))
  obtain ⟨a1, ha1⟩ := k_arr (hts (.arrayClass .long) (List.mem_append_right _ (List.mem_append_left _ (List.mem_of_getElem? (i := 193) rfl))))
  obtain ⟨a2, ha2⟩ := k_arr (hts (.arrayClass .byte) (List.mem_append_right _ (List.mem_append_left _ (List.mem_of_getElem? (i := 84) rfl))))
  obtain ⟨a3, ha3⟩ := k_arr (hts (.arrayClass .boolean) (List.mem_append_right _ (List.mem_append_right _ (List.mem_append_right _ (List.mem_append_right _ (List.mem_append_right _ (List.mem_append_right _ (List.mem_append_left _ (List.mem_of_getElem? (i := 227) rfl)))))))))
  have hov4 : (Cond.arrayOver (.object "PorridgeSea$Sea")).before #[Value.ref b] s = true := hts0 _ (by decide +kernel)
  obtain ⟨a4, ha4⟩ := k_over hov4
  have hov5 : (Cond.arrayOver (.object "PorridgeSea$Image")).before #[Value.ref b] s = true := hts0 _ (by decide +kernel)
  obtain ⟨a5, ha5⟩ := k_over hov5
  obtain ⟨ky, hK⟩ : ∃ ky : Nat → ClassId, Kk dC dI ky s := by
    refine ⟨fun k => [a0, a1, a2, a3, a4, a5].getD k a0, hKc, ?_⟩
    intro k q hq
    match k, hq with
    | 0, hq => cases hq; exact ⟨ha0.1, ha0.2⟩
    | 1, hq => cases hq; exact ⟨ha1.1, ha1.2⟩
    | 2, hq => cases hq; exact ⟨ha2.1, ha2.2⟩
    | 3, hq => cases hq; exact ⟨ha3.1, ha3.2⟩
    | 4, hq => cases hq; exact ⟨ha4.1, ha4.2⟩
    | 5, hq => cases hq; exact ⟨ha5.1, ha5.2⟩
    | k + 6, hq => simp [tyA] at hq
  have hEx : Ext s := ⟨va_AO.of hov4, va_AO.of hov5, va_Nw.of rfl (hts0 (.methodLinkNest RX11 35 yX8_init "PorridgeSea") (by decide +kernel)), va_Nw.of rfl (hts0 (.methodLinkNest RX11 80 yX1_init "PorridgeSea") (by decide +kernel))⟩
  have hAn : ∀ a, a < s.heap.size → ¬ A a := fun a h => by rw [hAdef]; exact Nat.not_le.mpr h
  have hflat := flat_of_before _ hgv
  have hTh : ThE s s.heap := ⟨vx_Zqof (hts0 _ (by decide +kernel)) (hts0 _ (by decide +kernel)) (hflat _ (by decide +kernel)) (fun _ _ h => h), vx_Zqof (hts0 _ (by decide +kernel)) (hts0 _ (by decide +kernel)) (hflat _ (by decide +kernel)) (fun _ _ h => h), vk_of hKn11.2.1 (hts0 _ (by decide +kernel)), vk_of hKn11.2.1 (hts0 _ (by decide +kernel)), va_Nw.of rfl (hts0 _ (by decide +kernel)), va_Nw.of rfl (hts0 _ (by decide +kernel)), va_Nw.of rfl (hts0 _ (by decide +kernel)), va_Nw.of rfl (hts0 _ (by decide +kernel))⟩
  obtain ⟨adK, adV, hE⟩ : ∃ adK adV : Nat → Nat, SEnv adK adV A s s.heap := senv_of hts0 hflat hAn
  have hS : va_S A s.heap s.heap [] := va_S.rf
  have hP : va_P (dC, dI) vwCl [] s.heap := fun k q h => by simp at h
  have hD : va_D A [] := ⟨fun i j p q h => by simp at h, fun k q h => by simp at h⟩
  have hl := lv_entry ([.ref b]) (n := 7) (Nat.le_of_ble_eq_true rfl)
  rw [lg_entry_eq]
  generalize (lg_sl ([.ref b]) ++ List.replicate (7 - (lg_sl ([.ref b])).length) Slot.unset).toArray = ls at hl ⊢
  have hl : lv_has ls 7 [(0, .ref b)] := hl
  refine va_new (ci := 11) (fs := [.null, .int (nI 0), .int (nI 0), .null, .null, .null, .null, .null, .null, .null, .null, .null, .null, .null, .null, .null, .int (nI 0), .int (nI 0)]) (C := RX11) (T := TX11) (N := 18) hx hb hts hin11 tyX11 tyX11_ok hown (hts (.classLink RL 8 RX11) (List.mem_append_right _ (List.mem_append_left _ (List.mem_of_getElem? (i := 26) rfl)))) (hts (.instantiable RX11 18) (List.mem_append_right _ (List.mem_append_left _ (List.mem_of_getElem? (i := 27) rfl)))) (hts (.initialized RX11) (List.mem_append_right _ (List.mem_append_left _ (List.mem_of_getElem? (i := 1) rfl)))) hK hP hD hS hA rfl (by decide +kernel) (Nat.le_of_ble_eq_true rfl) (Nat.le_of_ble_eq_true rfl) dL_law_0 (fun t H hP hD hS => ?_)
  refine W.widen (k := 1) (n := 18) (Nat.le_of_ble_eq_true rfl) (Nat.le_of_ble_eq_true rfl) ?_
  refine lv_dup hx hb dL_law_3 rfl ?_
  have hP : va_P (dC, dI) vwCl (HAppend.hAppend (α := va_W) (β := va_W) (γ := va_W) ([] : va_W) [(t, .inr (11, [.null, .int (nI 0), .int (nI 0), .null, .null, .null, .null, .null, .null, .null, .null, .null, .null, .null, .null, .null, .int (nI 0), .int (nI 0)]))]) H := hP
  have hD : va_D A (HAppend.hAppend (α := va_W) (β := va_W) (γ := va_W) ([] : va_W) [(t, .inr (11, [.null, .int (nI 0), .int (nI 0), .null, .null, .null, .null, .null, .null, .null, .null, .null, .null, .null, .null, .null, .int (nI 0), .int (nI 0)]))]) := hD
  refine r_callB_v (rs := ([] : va_W)) (wb := [(t, .inr (11, [.null, .int (nI 0), .int (nI 0), .null, .null, .null, .null, .null, .null, .null, .null, .null, .null, .null, .null, .null, .int (nI 0), .int (nI 0)]))]) (wr := []) (va_runI (As := []) (rest := [.ref t]) ⟨hx, hb, hml, hown, hts⟩ (c_i_PS l dC dI ky H.size t) (cwI 0 hts gl_X11_init rfl rfl rfl (hts (.initialized RX11) (List.mem_append_right _ (List.mem_append_left _ (List.mem_of_getElem? (i := 1) rfl)))) (hts (.methodLink RL 18 yX11_init) (List.mem_append_right _ (List.mem_append_left _ (List.mem_of_getElem? (i := 28) rfl)))) (hts (.instanceMethod yX11_init) (List.mem_append_right _ (List.mem_append_left _ (List.mem_of_getElem? (i := 29) rfl)))) rfl (by decide +kernel) ⟨(Nat.le_of_ble_eq_true rfl), (Nat.le_of_ble_eq_true rfl)⟩) (pre_XS hEx hK hP.right hD.right [0] (by decide) rfl) rfl rfl hl.1 rfl (lv_room (Nat.le_of_ble_eq_true rfl)) dL_law_4 ⟨(Nat.le_of_ble_eq_true rfl), (Nat.le_of_ble_eq_true rfl)⟩) hP hD hS hA [0] [] rfl rfl (by decide) (by decide) (fun u H locs hpost11 hP hD hS => ?_)
  refine W.widen (k := 148) (n := 2684) (Nat.le_of_ble_eq_true rfl) (Nat.le_of_ble_eq_true rfl) ?_
  obtain ⟨w0, rfl⟩ : ∃ z, z = u := ⟨_, rfl⟩
  have hP : va_P (dC, dI) vwCl w0 H := hP
  have hD : va_D A w0 := hD
  refine lv_astore_n (lv' := [(1, .ref t), (0, .ref b)]) hx hb dL_law_7 rfl hl (by decide) rfl (fun ls hl => ?_)
  refine va_new (ci := 12) (fs := [.int (nI 0), .null, .int (nI 0), .int (nI 0), .int (nI 0), .int (nI 0), .int (nI 0), .int (nI 0), .int (nI 0), .int (nI 0), .int (nI 0), .int (nI 0), .long 0, .int (nI 0), .null, .null, .null, .null, .null, .null, .null, .null, .null, .null, .int (nI 0), .int (nI 0), .null, .null, .null, .int (nI 0), .int (nI 0), .int (nI 0), .null, .null, .int (nI 0), .null, .null, .int (nI 0), .int (nI 0), .int (nI 0), .null, .int (nI 0), .int (nI 0), .null, .null, .int (nI 0), .int (nI 0), .null, .int (nI 0), .int (nI 0), .int (nI 0), .int (nI 0)]) (C := RX12) (T := TX12) (N := 52) hx hb hts hin12 tyX12 tyX12_ok hown (hts (.classLink RL 19 RX12) (List.mem_append_right _ (List.mem_append_right _ (List.mem_append_right _ (List.mem_append_right _ (List.mem_append_right _ (List.mem_append_right _ (List.mem_append_left _ (List.mem_of_getElem? (i := 57) rfl))))))))) (hts (.instantiable RX12 52) (List.mem_append_right _ (List.mem_append_right _ (List.mem_append_right _ (List.mem_append_right _ (List.mem_append_right _ (List.mem_append_right _ (List.mem_append_left _ (List.mem_of_getElem? (i := 51) rfl))))))))) (hts (.initialized RX12) (List.mem_append_right _ (List.mem_append_left _ (List.mem_of_getElem? (i := 13) rfl)))) hK hP hD hS hA rfl (by decide +kernel) (Nat.le_of_ble_eq_true rfl) (Nat.le_of_ble_eq_true rfl) dL_law_8 (fun o H hP hD hS => ?_)
  refine W.widen (k := 149) (n := 2736) (Nat.le_of_ble_eq_true rfl) (Nat.le_of_ble_eq_true rfl) ?_
  refine lv_dup hx hb dL_law_11 rfl ?_
  have hP : va_P (dC, dI) vwCl (HAppend.hAppend (α := va_W) (β := va_W) (γ := va_W) w0 [(o, .inr (12, [.int (nI 0), .null, .int (nI 0), .int (nI 0), .int (nI 0), .int (nI 0), .int (nI 0), .int (nI 0), .int (nI 0), .int (nI 0), .int (nI 0), .int (nI 0), .long 0, .int (nI 0), .null, .null, .null, .null, .null, .null, .null, .null, .null, .null, .int (nI 0), .int (nI 0), .null, .null, .null, .int (nI 0), .int (nI 0), .int (nI 0), .null, .null, .int (nI 0), .null, .null, .int (nI 0), .int (nI 0), .int (nI 0), .null, .int (nI 0), .int (nI 0), .null, .null, .int (nI 0), .int (nI 0), .null, .int (nI 0), .int (nI 0), .int (nI 0), .int (nI 0)]))]) H := hP
  have hD : va_D A (HAppend.hAppend (α := va_W) (β := va_W) (γ := va_W) w0 [(o, .inr (12, [.int (nI 0), .null, .int (nI 0), .int (nI 0), .int (nI 0), .int (nI 0), .int (nI 0), .int (nI 0), .int (nI 0), .int (nI 0), .int (nI 0), .int (nI 0), .long 0, .int (nI 0), .null, .null, .null, .null, .null, .null, .null, .null, .null, .null, .int (nI 0), .int (nI 0), .null, .null, .null, .int (nI 0), .int (nI 0), .int (nI 0), .null, .null, .int (nI 0), .null, .null, .int (nI 0), .int (nI 0), .int (nI 0), .null, .int (nI 0), .int (nI 0), .null, .null, .int (nI 0), .int (nI 0), .null, .int (nI 0), .int (nI 0), .int (nI 0), .int (nI 0)]))]) := hD
  refine r_callB_v (rs := w0) (wb := [(o, .inr (12, [.int (nI 0), .null, .int (nI 0), .int (nI 0), .int (nI 0), .int (nI 0), .int (nI 0), .int (nI 0), .int (nI 0), .int (nI 0), .int (nI 0), .int (nI 0), .long 0, .int (nI 0), .null, .null, .null, .null, .null, .null, .null, .null, .null, .null, .int (nI 0), .int (nI 0), .null, .null, .null, .int (nI 0), .int (nI 0), .int (nI 0), .null, .null, .int (nI 0), .null, .null, .int (nI 0), .int (nI 0), .int (nI 0), .null, .int (nI 0), .int (nI 0), .null, .null, .int (nI 0), .int (nI 0), .null, .int (nI 0), .int (nI 0), .int (nI 0), .int (nI 0)]))]) (wr := []) (va_runI (As := []) (rest := [.ref o]) ⟨hx, hb, hml, hown, hts⟩ (c_i_Model l dC dI ky H.size o) (cwI 0 hts gl_X12_init rfl rfl rfl (hts (.initialized RX12) (List.mem_append_right _ (List.mem_append_left _ (List.mem_of_getElem? (i := 13) rfl)))) (hts (.methodLink RL 21 yX12_init) (List.mem_append_right _ (List.mem_append_right _ (List.mem_append_right _ (List.mem_append_right _ (List.mem_append_right _ (List.mem_append_right _ (List.mem_append_left _ (List.mem_of_getElem? (i := 58) rfl))))))))) (hts (.instanceMethod yX12_init) (List.mem_append_right _ (List.mem_append_right _ (List.mem_append_right _ (List.mem_append_right _ (List.mem_append_right _ (List.mem_append_right _ (List.mem_append_left _ (List.mem_of_getElem? (i := 59) rfl))))))))) rfl (by decide +kernel) ⟨(Nat.le_of_ble_eq_true rfl), (Nat.le_of_ble_eq_true rfl)⟩) (pre_US hK hP.right hD.right [0] (by decide) rfl) rfl rfl hl.1 rfl (lv_room (Nat.le_of_ble_eq_true rfl)) dL_law_12 ⟨(Nat.le_of_ble_eq_true rfl), (Nat.le_of_ble_eq_true rfl)⟩) hP hD hS hA [0] [] rfl rfl (by decide) (by decide) (fun u H locs hpost12 hP hD hS => ?_)
  refine W.widen (k := 171) (n := 6146) (Nat.le_of_ble_eq_true rfl) (Nat.le_of_ble_eq_true rfl) ?_
  obtain ⟨wm, rfl⟩ : ∃ z, z = u := ⟨_, rfl⟩
  have hP : va_P (dC, dI) vwCl (w0 ++ wm) H := hP
  have hD : va_D A (w0 ++ wm) := hD
  refine lv_astore_n (lv' := [(2, .ref o), (1, .ref t), (0, .ref b)]) hx hb dL_law_15 rfl hl (by decide) rfl (fun ls hl => ?_)
  refine lv_iconst (v := nI 1) hx hb dL_law_16 (by decide) ?_
  refine r_newJ hx hb (hts (.arrayClass .long) (List.mem_append_right _ (List.mem_append_left _ (List.mem_of_getElem? (i := 193) rfl)))) hK hP hD hS hA (by decide) (by decide) (Nat.le_of_ble_eq_true rfl) (Nat.le_of_ble_eq_true rfl) dL_law_17 (fun out H hP hD hS => ?_)
  refine W.widen (k := 172) (n := 6147) (Nat.le_of_ble_eq_true rfl) (Nat.le_of_ble_eq_true rfl) ?_
  refine lv_astore_n (lv' := [(3, .ref out), (2, .ref o), (1, .ref t), (0, .ref b)]) hx hb dL_law_19 rfl hl (by decide) rfl (fun ls hl => ?_)
  refine lv_iconst (v := nI 0) hx hb dL_law_20 (by decide) ?_
  refine lv_istore (lv' := [(4, .int (nI 0)), (3, .ref out), (2, .ref o), (1, .ref t), (0, .ref b)]) hx hb dL_law_21 hl (by decide) rfl (fun ls hl => ?_)
  have hLI : LI dC dI ky A t o out H := ⟨0, nI 0, nI 0, fun _ => 0, fun _ => 0, hd0f, hd0f, hd0f, nI 0, w0, wm, fun _ => 0, hpost11, hpost12, hP.perm (pm_st w0 wm _), hD.perm (pm_st w0 wm _), ⟨fun _ => rfl, fun _ => rfl⟩, ⟨fun _ => rfl, fun _ => rfl⟩⟩
  refine law_loop (L := L) hx hb hml hown hts hK hA hE hst hTh hAn hX hbl hbA hL (fun H locs ls cells slots h1 h2 hS => ?_) (L + 1) 0 H _ ls 172 6147 (by omega) (by omega) (by omega) (by omega) hLI hS hl
  refine lv_iconst (v := 1) hx hb dL_law_1384 (by decide) ?_
  refine va_forget (fun q h => by have h9 := hS.2.2 q h; rw [hAdef] at h9; exact h9) ?_
  refine W.widen (k := 601024) (n := 7293034) (by omega) (by omega) ?_
  exact lw_ret hx hb hr hlocks dL_law_1385
