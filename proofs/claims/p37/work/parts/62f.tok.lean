def nER (bt : Nat → Nat) (n m p : Nat) : Nat := if tK bt n m p ≠ 3 then 1 else 2
theorem tK_le (bt : Nat → Nat) (n m p : Nat) : tK bt n m p ≤ 62 := by
  unfold tK qK
  split
  · omega
  · split
    · omega
    · split
      · split
        · omega
        · split <;> omega
      · split
        · rename_i h
          unfold cSg at h
          omega
        · omega
theorem tN_lt {bt : Nat → Nat} {n m p : Nat} (h : tK bt n m p = 3) : tN bt n p < 1000 := by
  unfold tK qK at h
  unfold tN
  split at h
  · omega
  · split at h
    · omega
    · split at h
      · split at h
        · omega
        · split at h
          · rename_i h1
            have h2 := nvn_lt h1.1
            have h3 : 10 ^ (rn bt n (sk bt n p) - sk bt n p) ≤ 10 ^ 3 := Nat.pow_le_pow_right (by decide) h1.2
            omega
          · omega
      · split at h
        · rename_i h1
          unfold cSg at h1
          omega
        · omega
section Take
variable {bt : Nat → Nat} {n m p bg pl lo hi v : Nat} {kind word num : Int32} {lets : Int64}
theorem RT_k (h : RT bt n m p kind bg pl word num lets) {c : Nat} (hc : c < 1000) : kind = nI c ↔ tK bt n m p = c := by
  have h1 := tK_le bt n m p
  rw [h.1, ia_eq, ia_n _ (by omega), ia_n _ (by omega)]
  omega
theorem num_F1 (h : RT bt n m p kind bg pl word num lets) (hk : kind ≠ nI 3) : pNum bt n m lo hi p = .error (nER bt n m p, tF bt n m p) ∧ nI 1 = nI (nER bt n m p) ∧ nI bg = nI (tF bt n m p) := by
  have h1 : tK bt n m p ≠ 3 := fun e => hk ((RT_k h (by decide)).mpr e)
  unfold pNum nER
  rw [if_pos h1, if_pos h1, h.2.1]
  exact ⟨rfl, rfl, rfl⟩
theorem num_F2 (h : RT bt n m p kind bg pl word num lets) (hk : kind = nI 3) (hn : num.toInt < ((lo : Nat) : Int) ∨ ((hi : Nat) : Int) < num.toInt) : pNum bt n m lo hi p = .error (nER bt n m p, tF bt n m p) ∧ nI 2 = nI (nER bt n m p) ∧ nI bg = nI (tF bt n m p) := by
  have h1 : tK bt n m p = 3 := (RT_k h (by decide)).mp hk
  have h2 := tN_lt h1
  rw [h.2.2.2.2.1 h1, ia_n _ (by omega)] at hn
  have h7 : ¬ (tK bt n m p ≠ 3) := fun z => z h1
  have h8 : tN bt n p < lo ∨ hi < tN bt n p := by omega
  unfold pNum nER
  rw [if_neg h7, if_neg h7, if_pos h8, h.2.1]
  exact ⟨rfl, rfl, rfl⟩
theorem num_T (h : RT bt n m p kind bg pl word num lets) (hk : kind = nI 3) (hn : num = nI v) (hv : v < 1001) (h1 : lo ≤ v) (h2 : v ≤ hi) : pNum bt n m lo hi p = .ok v := by
  have h3 : tK bt n m p = 3 := (RT_k h (by decide)).mp hk
  have h4 := tN_lt h3
  have h5 := h.2.2.2.2.1 h3
  rw [hn, ia_eq, ia_n _ (by omega), ia_n _ (by omega)] at h5
  have h6 : tN bt n p = v := by omega
  have h7 : ¬ (tK bt n m p ≠ 3) := fun z => z h3
  have h8 : ¬ (v < lo ∨ hi < v) := by omega
  unfold pNum
  rw [if_neg h7, h6, if_neg h8]
end Take
set_option maxRecDepth 20000 in
theorem lf_f_refuseAt_1   : (nI 0) = nI 0 := by
  try have k_0 := ia_n 0 (by first | decide | omega)
  try simp only [ia_lt, ia_le, ia_eq, ia_m1, ia_0, ia_1, ne_eq, true_and, and_true, false_and, and_false, or_false, false_or, or_true, true_or, not_true_eq_false, not_false_eq_true] at *
  all_goals omega
set_option maxHeartbeats 4000000 in
set_option maxRecDepth 100000 in
theorem c_f_refuseAt (l : Launch) (dC : Nat → ClassId) (dI : Nat → Nat → Nat) (ky : Nat → ClassId) (sz : Nat) (reader : Nat) (rtape : Nat) (rlength : Nat) (rmostBytes : Nat) (rplace : Nat) (rkind : Int32) (rbegin : Nat) (rword : Int32) (rnumber : Int32) (rletters : Int64) (rfaultKind : Int32) (rfaultPlace : Int32) (x : Int32) (y : Int32) (iv_rreader_0 : rlength ≤ 940) (iv_rreader_1 : rplace ≤ rlength) (iv_rreader_2 : rmostBytes ≤ 900) (iv_rreader_3 : rbegin ≤ 940) : Met l yX5_refuseAt wsX5_refuseAt ({ frames := 0, cells := 0, slots := 0, locals := 0 }) (PcU dC dI ky [.ref reader, .int x, .int y] [(reader, .inr (5, [.ref rtape, .int (nI rlength), .int (nI rmostBytes), .int (nI rplace), .int rkind, .int (nI rbegin), .int rword, .int rnumber, .long rletters, .int rfaultKind, .int rfaultPlace]))] sz) (va_Qi (fun (r : Int32) (u : Int32 × Int32) => match u with | (rfaultKindG, rfaultPlaceG) => (r = nI 0) ∧ (rfaultKindG = x) ∧ (rfaultPlaceG = y)) (BU dC dI ky (fun (u : Int32 × Int32) => match u with | (rfaultKindG, rfaultPlaceG) => [(reader, .inr (5, [.ref rtape, .int (nI rlength), .int (nI rmostBytes), .int (nI rplace), .int rkind, .int (nI rbegin), .int rword, .int rnumber, .long rletters, .int rfaultKindG, .int rfaultPlaceG]))]) (va_A [(reader, .inr (5, [.ref rtape, .int (nI rlength), .int (nI rmostBytes), .int (nI rplace), .int rkind, .int (nI rbegin), .int rword, .int rnumber, .long rletters, .int rfaultKind, .int rfaultPlace]))] sz)) (va_A [(reader, .inr (5, [.ref rtape, .int (nI rlength), .int (nI rmostBytes), .int (nI rplace), .int rkind, .int (nI rbegin), .int rword, .int rnumber, .long rletters, .int rfaultKind, .int rfaultPlace]))] sz)) 0 0 (va_A [(reader, .inr (5, [.ref rtape, .int (nI rlength), .int (nI rmostBytes), .int (nI rplace), .int rkind, .int (nI rbegin), .int rword, .int rnumber, .long rletters, .int rfaultKind, .int rfaultPlace]))] sz) := by
  refine Met.ofW (cc := cX5_refuseAt) (maxL := 3) (ret := (some .boolean)) (by decide) rfl ?_
  intro p e s m args below meth c s₁ B hml hv
  obtain ⟨rfl, hsz, hP, hK, hD0⟩ := hv
  have hx := B.exec
  have hb := B.bytes
  have hr := B.returns
  have hts := atoms_spec (ws := wsX5_refuseAt) B.pre
  have hown : s.vm.findClass RX5 = some m.cls := findClass_of_methodNamed B.named
  have hlocks := B.notSynchronized
  have hin5 : ∀ w ∈ u_ws RX5 TX5 11, w ∈ wsX5_refuseAt := by decide +kernel
  subst hsz
  have hD := hD0.self (sz := s.heap.size)
  generalize hAe : va_A [(reader, .inr (5, [.ref rtape, .int (nI rlength), .int (nI rmostBytes), .int (nI rplace), .int rkind, .int (nI rbegin), .int rword, .int rnumber, .long rletters, .int rfaultKind, .int rfaultPlace]))] s.heap.size = A at hD ⊢
  have hA : ∀ q : Nat, s.heap.size ≤ q → A q := fun q h => by rw [← hAe]; exact Or.inr h
  have hS : va_S A s.heap s.heap [] := va_S.rf
  have hl := lv_entry ([.ref reader, .int x, .int y]) (n := 3) (Nat.le_of_ble_eq_true rfl)
  rw [lg_entry_eq]
  generalize (lg_sl ([.ref reader, .int x, .int y]) ++ List.replicate (3 - (lg_sl ([.ref reader, .int x, .int y])).length) Slot.unset).toArray = ls at hl ⊢
  have hl : lv_has ls 3 [(0, .ref reader), (1, .int x), (2, .int y)] := hl
  refine q_name (fun Q hQ => ?_)
  generalize ([.ref reader, .int x, .int y] : List Value).toArray = args at hts hQ ⊢
  refine lv_aload_n hx hb dX5_refuseAt_0 rfl (lv_at hl 0 rfl) ?_
  refine lv_iload_n hx hb dX5_refuseAt_1 rfl (lv_at hl 1 rfl) ?_
  refine va_put (D := (dC, dI)) (ci := 5) (v := .int x) (ty := .int) (C := RX5) (T := TX5) (N := 11) hx hb hts hin5 tyX5 tyX5_ok nmX5 hown hK hP hD hS 0 rfl rfl 9 (by decide) (hts (.fieldLink RX5 31 "PorridgeSea$Reader" "faultKind" "I") (List.mem_of_getElem? (i := 1) rfl)) (fun _ h9 => h9) rfl (by decide +kernel) rfl rfl (Nat.le_of_ble_eq_true rfl) dX5_refuseAt_2 (fun H locs hP hD hS => ?_)
  have hP : va_P (dC, dI) vwCl [(reader, .inr (5, [.ref rtape, .int (nI rlength), .int (nI rmostBytes), .int (nI rplace), .int rkind, .int (nI rbegin), .int rword, .int rnumber, .long rletters, .int x, .int rfaultPlace]))] H := hP
  have hD : va_D A [(reader, .inr (5, [.ref rtape, .int (nI rlength), .int (nI rmostBytes), .int (nI rplace), .int rkind, .int (nI rbegin), .int rword, .int rnumber, .long rletters, .int x, .int rfaultPlace]))] := hD
  refine lv_aload_n hx hb dX5_refuseAt_5 rfl (lv_at hl 0 rfl) ?_
  refine lv_iload_n hx hb dX5_refuseAt_6 rfl (lv_at hl 2 rfl) ?_
  refine va_put (D := (dC, dI)) (ci := 5) (v := .int y) (ty := .int) (C := RX5) (T := TX5) (N := 11) hx hb hts hin5 tyX5 tyX5_ok nmX5 hown hK hP hD hS 0 rfl rfl 10 (by decide) (hts (.fieldLink RX5 34 "PorridgeSea$Reader" "faultPlace" "I") (List.mem_of_getElem? (i := 2) rfl)) (fun _ h9 => h9) rfl (by decide +kernel) rfl rfl (Nat.le_of_ble_eq_true rfl) dX5_refuseAt_7 (fun H locs hP hD hS => ?_)
  have hP : va_P (dC, dI) vwCl [(reader, .inr (5, [.ref rtape, .int (nI rlength), .int (nI rmostBytes), .int (nI rplace), .int rkind, .int (nI rbegin), .int rword, .int rnumber, .long rletters, .int x, .int y]))] H := hP
  have hD : va_D A [(reader, .inr (5, [.ref rtape, .int (nI rlength), .int (nI rmostBytes), .int (nI rplace), .int rkind, .int (nI rbegin), .int rword, .int rnumber, .long rletters, .int x, .int y]))] := hD
  refine lv_iconst (v := nI 0) hx hb dX5_refuseAt_10 (by decide) ?_
  rw [hQ]
  exact W.zret (v := nI 0) hx hb hr (by decide) (fun t9 ht9 hW9 => ⟨⟨nI 0, (x, y), rfl, ⟨(lf_f_refuseAt_1), rfl, rfl⟩, by rw [ht9]; exact hP, va_K.moved hW9.alike hK, hD⟩, hS.F ht9⟩) hS.2.2 dX5_refuseAt_11
set_option maxRecDepth 20000 in
theorem lf_f_refuse_1   : (nI 0) = nI 0 := by
  try have k_0 := ia_n 0 (by first | decide | omega)
  try simp only [ia_lt, ia_le, ia_eq, ia_m1, ia_0, ia_1, ne_eq, true_and, and_true, false_and, and_false, or_false, false_or, or_true, true_or, not_true_eq_false, not_false_eq_true] at *
  all_goals omega
set_option maxRecDepth 20000 in
theorem lf_f_refuse_2 (rbegin : Nat) (rfaultPlaceG_5 : Int32) (iv_rreader_3 : rbegin ≤ 940) (p8 : rfaultPlaceG_5 = (nI rbegin)) : rfaultPlaceG_5 = nI rbegin := by
  have b_rfaultPlaceG_5 := ia_b rfaultPlaceG_5
  try have k_0 := ia_n rbegin (by first | decide | omega)
  try simp only [ia_lt, ia_le, ia_eq, ia_m1, ia_0, ia_1, ne_eq, true_and, and_true, false_and, and_false, or_false, false_or, or_true, true_or, not_true_eq_false, not_false_eq_true] at *
  all_goals omega
set_option maxHeartbeats 4000000 in
set_option maxRecDepth 100000 in
theorem c_f_refuse (l : Launch) (dC : Nat → ClassId) (dI : Nat → Nat → Nat) (ky : Nat → ClassId) (sz : Nat) (reader : Nat) (rtape : Nat) (rlength : Nat) (rmostBytes : Nat) (rplace : Nat) (rkind : Int32) (rbegin : Nat) (rword : Int32) (rnumber : Int32) (rletters : Int64) (rfaultKind : Int32) (rfaultPlace : Int32) (x : Int32) (iv_rreader_0 : rlength ≤ 940) (iv_rreader_1 : rplace ≤ rlength) (iv_rreader_2 : rmostBytes ≤ 900) (iv_rreader_3 : rbegin ≤ 940) : Met l yX5_refuse wsX5_refuse ({ frames := 1, cells := 0, slots := 0, locals := 22 }) (PcU dC dI ky [.ref reader, .int x] [(reader, .inr (5, [.ref rtape, .int (nI rlength), .int (nI rmostBytes), .int (nI rplace), .int rkind, .int (nI rbegin), .int rword, .int rnumber, .long rletters, .int rfaultKind, .int rfaultPlace]))] sz) (va_Qi (fun (r : Int32) (u : Int32 × Int32) => match u with | (rfaultKindG, rfaultPlaceG) => (r = nI 0) ∧ (rfaultKindG = x) ∧ (rfaultPlaceG = nI rbegin)) (BU dC dI ky (fun (u : Int32 × Int32) => match u with | (rfaultKindG, rfaultPlaceG) => [(reader, .inr (5, [.ref rtape, .int (nI rlength), .int (nI rmostBytes), .int (nI rplace), .int rkind, .int (nI rbegin), .int rword, .int rnumber, .long rletters, .int rfaultKindG, .int rfaultPlaceG]))]) (va_A [(reader, .inr (5, [.ref rtape, .int (nI rlength), .int (nI rmostBytes), .int (nI rplace), .int rkind, .int (nI rbegin), .int rword, .int rnumber, .long rletters, .int rfaultKind, .int rfaultPlace]))] sz)) (va_A [(reader, .inr (5, [.ref rtape, .int (nI rlength), .int (nI rmostBytes), .int (nI rplace), .int rkind, .int (nI rbegin), .int rword, .int rnumber, .long rletters, .int rfaultKind, .int rfaultPlace]))] sz)) 0 0 (va_A [(reader, .inr (5, [.ref rtape, .int (nI rlength), .int (nI rmostBytes), .int (nI rplace), .int rkind, .int (nI rbegin), .int rword, .int rnumber, .long rletters, .int rfaultKind, .int rfaultPlace]))] sz) := by
  refine Met.ofW (cc := cX5_refuse) (maxL := 2) (ret := (some .boolean)) (by decide) rfl ?_
  intro p e s m args below meth c s₁ B hml hv
  obtain ⟨rfl, hsz, hP, hK, hD0⟩ := hv
  have hx := B.exec
  have hb := B.bytes
  have hr := B.returns
  have hts := atoms_spec (ws := wsX5_refuse) B.pre
  have hown : s.vm.findClass RX5 = some m.cls := findClass_of_methodNamed B.named
  have hlocks := B.notSynchronized
  have hin5 : ∀ w ∈ u_ws RX5 TX5 11, w ∈ wsX5_refuse := by decide +kernel
  subst hsz
  have hD := hD0.self (sz := s.heap.size)
  generalize hAe : va_A [(reader, .inr (5, [.ref rtape, .int (nI rlength), .int (nI rmostBytes), .int (nI rplace), .int rkind, .int (nI rbegin), .int rword, .int rnumber, .long rletters, .int rfaultKind, .int rfaultPlace]))] s.heap.size = A at hD ⊢
  have hA : ∀ q : Nat, s.heap.size ≤ q → A q := fun q h => by rw [← hAe]; exact Or.inr h
  have hS : va_S A s.heap s.heap [] := va_S.rf
  have hl := lv_entry ([.ref reader, .int x]) (n := 2) (Nat.le_of_ble_eq_true rfl)
  rw [lg_entry_eq]
  generalize (lg_sl ([.ref reader, .int x]) ++ List.replicate (2 - (lg_sl ([.ref reader, .int x])).length) Slot.unset).toArray = ls at hl ⊢
  have hl : lv_has ls 2 [(0, .ref reader), (1, .int x)] := hl
  refine q_name (fun Q hQ => ?_)
  generalize ([.ref reader, .int x] : List Value).toArray = args at hts hQ ⊢
  refine lv_aload_n hx hb dX5_refuse_0 rfl (lv_at hl 0 rfl) ?_
  refine lv_iload_n hx hb dX5_refuse_1 rfl (lv_at hl 1 rfl) ?_
  refine lv_aload_n hx hb dX5_refuse_2 rfl (lv_at hl 0 rfl) ?_
  refine va_get (D := (dC, dI)) (ci := 5) (v := .int (nI rbegin)) (C := RX5) (T := TX5) (N := 11) hx hb hts hin5 hown hK hP 0 rfl rfl 5 (by decide) (hts (.fieldLink RX5 40 "PorridgeSea$Reader" "begin" "I") (List.mem_of_getElem? (i := 1) rfl)) (fun _ h9 => h9) rfl dX5_refuse_3 ?_
  refine r_call_i (wr := []) (va_runV (As := [.int x, .int (nI rbegin)]) (rest := []) ⟨hx, hb, hml, hown, hts⟩ (c_f_refuseAt l dC dI ky s.heap.size reader rtape rlength rmostBytes rplace rkind rbegin rword rnumber rletters rfaultKind rfaultPlace x (nI rbegin) iv_rreader_0 iv_rreader_1 iv_rreader_2 iv_rreader_3) (cwV 2 hts gX5_refuse_X5_refuseAt rfl rfl rfl (by decide +kernel) ⟨(Nat.le_of_ble_eq_true rfl), (Nat.le_of_ble_eq_true rfl)⟩) (pre_UV hK hP hD [0] (by decide) rfl (ci := 5) (q0 := 0) rfl rfl) rfl rfl hl.1 rfl (lv_room (Nat.le_of_ble_eq_true rfl)) dX5_refuse_6 ⟨(Nat.le_of_ble_eq_true rfl), (Nat.le_of_ble_eq_true rfl)⟩) hP hD hS hA [0] [] rfl rfl (by decide) (by decide) (fun r3 u1 H locs p2 hP hD hS => ?_)
  obtain ⟨rfaultKindG_4, rfaultPlaceG_5⟩ := u1
  try dsimp only at p2
  obtain ⟨p6, p7, p8⟩ := p2
  refine W.widen (k := 0) (n := 0) (Nat.le_of_ble_eq_true rfl) (Nat.le_of_ble_eq_true rfl) ?_
  have hP : va_P (dC, dI) vwCl [(reader, .inr (5, [.ref rtape, .int (nI rlength), .int (nI rmostBytes), .int (nI rplace), .int rkind, .int (nI rbegin), .int rword, .int rnumber, .long rletters, .int rfaultKindG_4, .int rfaultPlaceG_5]))] H := hP
  have hD : va_D A [(reader, .inr (5, [.ref rtape, .int (nI rlength), .int (nI rmostBytes), .int (nI rplace), .int rkind, .int (nI rbegin), .int rword, .int rnumber, .long rletters, .int rfaultKindG_4, .int rfaultPlaceG_5]))] := hD
  subst p6
  rw [hQ]
  exact W.zret (v := nI 0) hx hb hr (by decide) (fun t9 ht9 hW9 => ⟨⟨nI 0, (rfaultKindG_4, rfaultPlaceG_5), rfl, ⟨(lf_f_refuse_1), p7, (lf_f_refuse_2 rbegin rfaultPlaceG_5 iv_rreader_3 p8)⟩, by rw [ht9]; exact hP, va_K.moved hW9.alike hK, hD⟩, hS.F ht9⟩) hS.2.2 dX5_refuse_9
set_option maxRecDepth 20000 in
theorem lf_f_nextWord_1 (rword : Int32)  : rword = rword := by
  have b_rword := ia_b rword
  try simp only [ia_lt, ia_le, ia_eq, ia_m1, ia_0, ia_1, ne_eq, true_and, and_true, false_and, and_false, or_false, false_or, or_true, true_or, not_true_eq_false, not_false_eq_true] at *
  all_goals omega
set_option maxHeartbeats 4000000 in
set_option maxRecDepth 100000 in
theorem c_f_nextWord (l : Launch) (dC : Nat → ClassId) (dI : Nat → Nat → Nat) (ky : Nat → ClassId) (reader : Nat) (rtape : Nat) (rlength : Nat) (rmostBytes : Nat) (rplace : Nat) (rkind : Int32) (rbegin : Nat) (rword : Int32) (rnumber : Int32) (rletters : Int64) (rfaultKind : Int32) (rfaultPlace : Int32) (iv_rreader_0 : rlength ≤ 940) (iv_rreader_1 : rplace ≤ rlength) (iv_rreader_2 : rmostBytes ≤ 900) (iv_rreader_3 : rbegin ≤ 940) : Met l yX5_nextWord wsX5_nextWord ({ frames := 0, cells := 0, slots := 0, locals := 0 }) (PcP dC dI ky [.ref reader] [(reader, .inr (5, [.ref rtape, .int (nI rlength), .int (nI rmostBytes), .int (nI rplace), .int rkind, .int (nI rbegin), .int rword, .int rnumber, .long rletters, .int rfaultKind, .int rfaultPlace]))]) (vp_Si (fun r : Int32 => r = rword)) 0 0 (fun _ => False) := by
  refine Met.ofW (cc := cX5_nextWord) (maxL := 1) (ret := (some .int)) (by decide) rfl ?_
  intro p e s m args below meth c s₁ B hml hv
  obtain ⟨rfl, hP, hK⟩ := hv
  have hx := B.exec
  have hb := B.bytes
  have hr := B.returns
  have hts := atoms_spec (ws := wsX5_nextWord) B.pre
  have hown : s.vm.findClass RX5 = some m.cls := findClass_of_methodNamed B.named
  have hlocks := B.notSynchronized
  have hin5 : ∀ w ∈ u_ws RX5 TX5 11, w ∈ wsX5_nextWord := by decide +kernel
  have hl := lv_entry ([.ref reader]) (n := 1) (Nat.le_of_ble_eq_true rfl)
  rw [lg_entry_eq]
  generalize (lg_sl ([.ref reader]) ++ List.replicate (1 - (lg_sl ([.ref reader])).length) Slot.unset).toArray = ls at hl ⊢
  have hl : lv_has ls 1 [(0, .ref reader)] := hl
  refine q_name (fun Q hQ => ?_)
  generalize ([.ref reader] : List Value).toArray = args at hts hQ ⊢
  refine lv_aload_n hx hb dX5_nextWord_0 rfl (lv_at hl 0 rfl) ?_
  refine va_get (D := (dC, dI)) (ci := 5) (v := .int rword) (C := RX5) (T := TX5) (N := 11) hx hb hts hin5 hown hK hP 0 rfl rfl 6 (by decide) (hts (.fieldLink RX5 43 "PorridgeSea$Reader" "word" "I") (List.mem_of_getElem? (i := 1) rfl)) (fun _ h9 => h9) rfl dX5_nextWord_1 ?_
  rw [hQ]
  exact W.iret (v := rword) hx hb hr (fun t9 ht9 hW9 => ⟨rword, rfl, (lf_f_nextWord_1 rword), ht9⟩) (fun _ h => absurd h List.not_mem_nil) dX5_nextWord_4
set_option maxRecDepth 20000 in
theorem lf_f_open_1 (bc : Nat) (hbc : bc ≤ 940) : 0 ≤ bc := by
  try simp only [ia_lt, ia_le, ia_eq, ia_m1, ia_0, ia_1, ne_eq, true_and, and_true, false_and, and_false, or_false, false_or, or_true, true_or, not_true_eq_false, not_false_eq_true] at *
  all_goals omega
set_option maxRecDepth 20000 in
theorem lf_f_open_2   : 0 = 0 := by
  try simp only [ia_lt, ia_le, ia_eq, ia_m1, ia_0, ia_1, ne_eq, true_and, and_true, false_and, and_false, or_false, false_or, or_true, true_or, not_true_eq_false, not_false_eq_true] at *
  all_goals omega
set_option maxHeartbeats 4000000 in
set_option maxRecDepth 100000 in
theorem c_f_open (l : Launch) (dC : Nat → ClassId) (dI : Nat → Nat → Nat) (ky : Nat → ClassId) (sz : Nat) (adK : Nat → Nat) (adV : Nat → Nat) (bt : Nat → Nat) (reader : Nat) (rtape : Nat) (rlength : Nat) (rmostBytes : Nat) (rplace : Nat) (rkind : Int32) (rbegin : Nat) (rword : Int32) (rnumber : Int32) (rletters : Int64) (rfaultKind : Int32) (rfaultPlace : Int32) (rtapeF : Nat → Int32) (bc : Nat) (mb : Nat) (iv_rreader_0 : rlength ≤ 940) (iv_rreader_1 : rplace ≤ rlength) (iv_rreader_2 : rmostBytes ≤ 900) (iv_rreader_3 : rbegin ≤ 940) (hTC : TC bt rtapeF) (hbc : bc ≤ 940) (hmb : mb ≤ 900) : Met l yX5_open wsX5_open ({ frames := 6, cells := 0, slots := 0, locals := 131 }) (PcUE dC dI ky adK adV [.ref reader, .int (nI bc), .int (nI mb)] [(reader, .inr (5, [.ref rtape, .int (nI rlength), .int (nI rmostBytes), .int (nI rplace), .int rkind, .int (nI rbegin), .int rword, .int rnumber, .long rletters, .int rfaultKind, .int rfaultPlace])), (rtape, .inl (ky 2, 940, .inl rtapeF))] sz) (va_Qv (fun (u : Nat × Nat × Nat × Int32 × Nat × Int32 × Int32 × Int64 × Int32 × Int32) => match u with | (rlengthG, rmostBytesG, rplaceG, rkindG, rbeginG, rwordG, rnumberG, rlettersG, rfaultKindG, rfaultPlaceG) => (rlengthG ≤ 940) ∧ (rplaceG ≤ rlengthG) ∧ (rmostBytesG ≤ 900) ∧ (rbeginG ≤ 940) ∧ (RT bt rlengthG rmostBytesG 0 rkindG rbeginG rplaceG rwordG rnumberG rlettersG) ∧ (rfaultKindG = nI 0) ∧ (rlengthG = bc) ∧ (rmostBytesG = mb)) (BU dC dI ky (fun (u : Nat × Nat × Nat × Int32 × Nat × Int32 × Int32 × Int64 × Int32 × Int32) => match u with | (rlengthG, rmostBytesG, rplaceG, rkindG, rbeginG, rwordG, rnumberG, rlettersG, rfaultKindG, rfaultPlaceG) => [(reader, .inr (5, [.ref rtape, .int (nI rlengthG), .int (nI rmostBytesG), .int (nI rplaceG), .int rkindG, .int (nI rbeginG), .int rwordG, .int rnumberG, .long rlettersG, .int rfaultKindG, .int rfaultPlaceG])), (rtape, .inl (ky 2, 940, .inl rtapeF))]) (va_A [(reader, .inr (5, [.ref rtape, .int (nI rlength), .int (nI rmostBytes), .int (nI rplace), .int rkind, .int (nI rbegin), .int rword, .int rnumber, .long rletters, .int rfaultKind, .int rfaultPlace])), (rtape, .inl (ky 2, 940, .inl rtapeF))] sz)) (va_A [(reader, .inr (5, [.ref rtape, .int (nI rlength), .int (nI rmostBytes), .int (nI rplace), .int rkind, .int (nI rbegin), .int rword, .int rnumber, .long rletters, .int rfaultKind, .int rfaultPlace])), (rtape, .inl (ky 2, 940, .inl rtapeF))] sz)) 0 0 (va_A [(reader, .inr (5, [.ref rtape, .int (nI rlength), .int (nI rmostBytes), .int (nI rplace), .int rkind, .int (nI rbegin), .int rword, .int rnumber, .long rletters, .int rfaultKind, .int rfaultPlace])), (rtape, .inl (ky 2, 940, .inl rtapeF))] sz) := by
  refine Met.ofW (cc := cX5_open) (maxL := 3) (ret := none) (by decide) rfl ?_
  intro p e s m args below meth c s₁ B hml hv
  obtain ⟨rfl, hsz, hP, hK, hD0, hE⟩ := hv
  have hx := B.exec
  have hb := B.bytes
  have hr := B.returns
  have hts := atoms_spec (ws := wsX5_open) B.pre
  have hown : s.vm.findClass RX5 = some m.cls := findClass_of_methodNamed B.named
  have hlocks := B.notSynchronized
  have hin5 : ∀ w ∈ u_ws RX5 TX5 11, w ∈ wsX5_open := by decide +kernel
  subst hsz
  have hD := hD0.self (sz := s.heap.size)
  generalize hAe : va_A [(reader, .inr (5, [.ref rtape, .int (nI rlength), .int (nI rmostBytes), .int (nI rplace), .int rkind, .int (nI rbegin), .int rword, .int rnumber, .long rletters, .int rfaultKind, .int rfaultPlace])), (rtape, .inl (ky 2, 940, .inl rtapeF))] s.heap.size = A at hD hE ⊢
  have hA : ∀ q : Nat, s.heap.size ≤ q → A q := fun q h => by rw [← hAe]; exact Or.inr h
  have hS : va_S A s.heap s.heap [] := va_S.rf
  have hl := lv_entry ([.ref reader, .int (nI bc), .int (nI mb)]) (n := 3) (Nat.le_of_ble_eq_true rfl)
  rw [lg_entry_eq]
  generalize (lg_sl ([.ref reader, .int (nI bc), .int (nI mb)]) ++ List.replicate (3 - (lg_sl ([.ref reader, .int (nI bc), .int (nI mb)])).length) Slot.unset).toArray = ls at hl ⊢
  have hl : lv_has ls 3 [(0, .ref reader), (1, .int (nI bc)), (2, .int (nI mb))] := hl
  refine q_name (fun Q hQ => ?_)
  generalize ([.ref reader, .int (nI bc), .int (nI mb)] : List Value).toArray = args at hts hQ ⊢
  refine lv_aload_n hx hb dX5_open_0 rfl (lv_at hl 0 rfl) ?_
  refine lv_iload_n hx hb dX5_open_1 rfl (lv_at hl 1 rfl) ?_
  refine lv_sipush (v := nI 940) hx hb dX5_open_2 (by decide) ?_
  refine va_mmin hx hb (by rw [hml]; exact hl.1.symm) hown (hts _ (List.mem_of_getElem? (i := 1) rfl)) (hts _ (List.mem_of_getElem? (i := 2) rfl)) (hts _ (List.mem_of_getElem? (i := 3) rfl)) (hts _ (List.mem_of_getElem? (i := 4) rfl)) (Nat.le_of_ble_eq_true rfl) (Nat.le_of_ble_eq_true rfl) (Nat.le_of_ble_eq_true rfl) (Nat.le_of_ble_eq_true rfl) dX5_open_5 ?_
  refine r_ti (nI bc) (if_neg (nI_nlt (by omega) (by omega))) ?_
  refine va_put (D := (dC, dI)) (ci := 5) (v := .int (nI bc)) (ty := .int) (C := RX5) (T := TX5) (N := 11) hx hb hts hin5 tyX5 tyX5_ok nmX5 hown hK hP hD hS 0 rfl rfl 1 (by decide) (hts (.fieldLink RX5 21 "PorridgeSea$Reader" "length" "I") (List.mem_of_getElem? (i := 5) rfl)) (fun _ h9 => h9) rfl (by decide +kernel) rfl rfl (Nat.le_of_ble_eq_true rfl) dX5_open_8 (fun H locs hP hD hS => ?_)
  have hP : va_P (dC, dI) vwCl [(reader, .inr (5, [.ref rtape, .int (nI bc), .int (nI rmostBytes), .int (nI rplace), .int rkind, .int (nI rbegin), .int rword, .int rnumber, .long rletters, .int rfaultKind, .int rfaultPlace])), (rtape, .inl (ky 2, 940, .inl rtapeF))] H := hP
  have hD : va_D A [(reader, .inr (5, [.ref rtape, .int (nI bc), .int (nI rmostBytes), .int (nI rplace), .int rkind, .int (nI rbegin), .int rword, .int rnumber, .long rletters, .int rfaultKind, .int rfaultPlace])), (rtape, .inl (ky 2, 940, .inl rtapeF))] := hD
  refine lv_aload_n hx hb dX5_open_11 rfl (lv_at hl 0 rfl) ?_
  refine lv_iload_n hx hb dX5_open_12 rfl (lv_at hl 2 rfl) ?_
  refine va_put (D := (dC, dI)) (ci := 5) (v := .int (nI mb)) (ty := .int) (C := RX5) (T := TX5) (N := 11) hx hb hts hin5 tyX5 tyX5_ok nmX5 hown hK hP hD hS 0 rfl rfl 2 (by decide) (hts (.fieldLink RX5 25 "PorridgeSea$Reader" "mostBytes" "I") (List.mem_of_getElem? (i := 6) rfl)) (fun _ h9 => h9) rfl (by decide +kernel) rfl rfl (Nat.le_of_ble_eq_true rfl) dX5_open_13 (fun H locs hP hD hS => ?_)
  have hP : va_P (dC, dI) vwCl [(reader, .inr (5, [.ref rtape, .int (nI bc), .int (nI mb), .int (nI rplace), .int rkind, .int (nI rbegin), .int rword, .int rnumber, .long rletters, .int rfaultKind, .int rfaultPlace])), (rtape, .inl (ky 2, 940, .inl rtapeF))] H := hP
  have hD : va_D A [(reader, .inr (5, [.ref rtape, .int (nI bc), .int (nI mb), .int (nI rplace), .int rkind, .int (nI rbegin), .int rword, .int rnumber, .long rletters, .int rfaultKind, .int rfaultPlace])), (rtape, .inl (ky 2, 940, .inl rtapeF))] := hD
  refine lv_aload_n hx hb dX5_open_16 rfl (lv_at hl 0 rfl) ?_
  refine lv_iconst (v := nI 0) hx hb dX5_open_17 (by decide) ?_
  refine va_put (D := (dC, dI)) (ci := 5) (v := .int (nI 0)) (ty := .int) (C := RX5) (T := TX5) (N := 11) hx hb hts hin5 tyX5 tyX5_ok nmX5 hown hK hP hD hS 0 rfl rfl 3 (by decide) (hts (.fieldLink RX5 28 "PorridgeSea$Reader" "place" "I") (List.mem_of_getElem? (i := 7) rfl)) (fun _ h9 => h9) rfl (by decide +kernel) rfl rfl (Nat.le_of_ble_eq_true rfl) dX5_open_18 (fun H locs hP hD hS => ?_)
  have hP : va_P (dC, dI) vwCl [(reader, .inr (5, [.ref rtape, .int (nI bc), .int (nI mb), .int (nI 0), .int rkind, .int (nI rbegin), .int rword, .int rnumber, .long rletters, .int rfaultKind, .int rfaultPlace])), (rtape, .inl (ky 2, 940, .inl rtapeF))] H := hP
  have hD : va_D A [(reader, .inr (5, [.ref rtape, .int (nI bc), .int (nI mb), .int (nI 0), .int rkind, .int (nI rbegin), .int rword, .int rnumber, .long rletters, .int rfaultKind, .int rfaultPlace])), (rtape, .inl (ky 2, 940, .inl rtapeF))] := hD
  refine lv_aload_n hx hb dX5_open_21 rfl (lv_at hl 0 rfl) ?_
  refine lv_iconst (v := nI 0) hx hb dX5_open_22 (by decide) ?_
  refine va_put (D := (dC, dI)) (ci := 5) (v := .int (nI 0)) (ty := .int) (C := RX5) (T := TX5) (N := 11) hx hb hts hin5 tyX5 tyX5_ok nmX5 hown hK hP hD hS 0 rfl rfl 9 (by decide) (hts (.fieldLink RX5 31 "PorridgeSea$Reader" "faultKind" "I") (List.mem_of_getElem? (i := 8) rfl)) (fun _ h9 => h9) rfl (by decide +kernel) rfl rfl (Nat.le_of_ble_eq_true rfl) dX5_open_23 (fun H locs hP hD hS => ?_)
  have hP : va_P (dC, dI) vwCl [(reader, .inr (5, [.ref rtape, .int (nI bc), .int (nI mb), .int (nI 0), .int rkind, .int (nI rbegin), .int rword, .int rnumber, .long rletters, .int (nI 0), .int rfaultPlace])), (rtape, .inl (ky 2, 940, .inl rtapeF))] H := hP
  have hD : va_D A [(reader, .inr (5, [.ref rtape, .int (nI bc), .int (nI mb), .int (nI 0), .int rkind, .int (nI rbegin), .int rword, .int rnumber, .long rletters, .int (nI 0), .int rfaultPlace])), (rtape, .inl (ky 2, 940, .inl rtapeF))] := hD
  refine lv_aload_n hx hb dX5_open_26 rfl (lv_at hl 0 rfl) ?_
  refine lv_iconst (v := nI 0) hx hb dX5_open_27 (by decide) ?_
  refine va_put (D := (dC, dI)) (ci := 5) (v := .int (nI 0)) (ty := .int) (C := RX5) (T := TX5) (N := 11) hx hb hts hin5 tyX5 tyX5_ok nmX5 hown hK hP hD hS 0 rfl rfl 10 (by decide) (hts (.fieldLink RX5 34 "PorridgeSea$Reader" "faultPlace" "I") (List.mem_of_getElem? (i := 9) rfl)) (fun _ h9 => h9) rfl (by decide +kernel) rfl rfl (Nat.le_of_ble_eq_true rfl) dX5_open_28 (fun H locs hP hD hS => ?_)
  have hP : va_P (dC, dI) vwCl [(reader, .inr (5, [.ref rtape, .int (nI bc), .int (nI mb), .int (nI 0), .int rkind, .int (nI rbegin), .int rword, .int rnumber, .long rletters, .int (nI 0), .int (nI 0)])), (rtape, .inl (ky 2, 940, .inl rtapeF))] H := hP
  have hD : va_D A [(reader, .inr (5, [.ref rtape, .int (nI bc), .int (nI mb), .int (nI 0), .int rkind, .int (nI rbegin), .int rword, .int rnumber, .long rletters, .int (nI 0), .int (nI 0)])), (rtape, .inl (ky 2, 940, .inl rtapeF))] := hD
  refine lv_aload_n hx hb dX5_open_31 rfl (lv_at hl 0 rfl) ?_
  refine r_call_v (wr := []) (va_runV (As := []) (rest := []) ⟨hx, hb, hml, hown, hts⟩ (c_f_adv l dC dI ky H.size adK adV bt reader rtape bc mb 0 rkind rbegin rword rnumber rletters (nI 0) (nI 0) rtapeF 0 hbc (lf_f_open_1 bc hbc) hmb iv_rreader_3 hTC (lf_f_open_2)) (cwV 0 hts gX5_open_X5_advance rfl rfl rfl (by decide +kernel) ⟨(Nat.le_of_ble_eq_true rfl), (Nat.le_of_ble_eq_true rfl)⟩) (pre_UEV hE hS hA hK hP hD [0, 1] (by decide) rfl (va_recv hK hP (ci := 5) (q0 := 0) rfl rfl)) rfl rfl hl.1 rfl (lv_room (Nat.le_of_ble_eq_true rfl)) dX5_open_32 ⟨(Nat.le_of_ble_eq_true rfl), (Nat.le_of_ble_eq_true rfl)⟩) hP hD hS hA [0, 1] [] rfl rfl (by decide) (by decide) (fun  u1 H locs p2 hP hD hS => ?_)
  obtain ⟨rplaceG_3, rkindG_4, rbeginG_5, rwordG_6, rnumberG_7, rlettersG_8⟩ := u1
  try dsimp only at p2
  obtain ⟨p9, p10, p11⟩ := p2
  refine W.widen (k := 0) (n := 0) (Nat.le_of_ble_eq_true rfl) (Nat.le_of_ble_eq_true rfl) ?_
  have hP : va_P (dC, dI) vwCl [(reader, .inr (5, [.ref rtape, .int (nI bc), .int (nI mb), .int (nI rplaceG_3), .int rkindG_4, .int (nI rbeginG_5), .int rwordG_6, .int rnumberG_7, .long rlettersG_8, .int (nI 0), .int (nI 0)])), (rtape, .inl (ky 2, 940, .inl rtapeF))] H := hP
  have hD : va_D A [(reader, .inr (5, [.ref rtape, .int (nI bc), .int (nI mb), .int (nI rplaceG_3), .int rkindG_4, .int (nI rbeginG_5), .int rwordG_6, .int rnumberG_7, .long rlettersG_8, .int (nI 0), .int (nI 0)])), (rtape, .inl (ky 2, 940, .inl rtapeF))] := hD
  rw [hQ]
  exact W.vret hx hb hr (fun t9 ht9 hW9 => ⟨⟨(bc, mb, rplaceG_3, rkindG_4, rbeginG_5, rwordG_6, rnumberG_7, rlettersG_8, nI 0, nI 0), rfl, ⟨hbc, p9, hmb, p10, p11, rfl, rfl, rfl⟩, by rw [ht9]; exact hP, va_K.moved hW9.alike hK, hD⟩, hS.F ht9⟩) hS.2.2 dX5_open_35
set_option maxRecDepth 20000 in
theorem lf_f_takeNumber_1 (bt : Nat → Nat) (rlength : Nat) (rmostBytes : Nat) (rplace : Nat) (rkind : Int32) (rbegin : Nat) (rword : Int32) (rnumber : Int32) (rletters : Int64) (rtapeF : Nat → Int32) (gp : Nat) (lo : Nat) (hi : Nat) (rfaultKindG_6 : Int32) (rfaultPlaceG_7 : Int32) (iv_rreader_0 : rlength ≤ 940) (iv_rreader_1 : rplace ≤ rlength) (iv_rreader_2 : rmostBytes ≤ 900) (iv_rreader_3 : rbegin ≤ 940) (hTC : TC bt rtapeF) (hlo : lo ≤ 10) (hhi : hi ≤ 1000) (hRT : RT bt rlength rmostBytes gp rkind rbegin rplace rword rnumber rletters) (c1 : rkind = nI 3) (c2 : rnumber < nI lo) (p9 : rfaultKindG_6 = (nI 2)) (p10 : rfaultPlaceG_7 = nI rbegin) : pNum bt rlength rmostBytes lo hi gp = .error (nER bt rlength rmostBytes gp, tF bt rlength rmostBytes gp) ∧ rfaultKindG_6 = nI (nER bt rlength rmostBytes gp) ∧ rfaultPlaceG_7 = nI (tF bt rlength rmostBytes gp) := by
  have q1 : rnumber.toInt < ((lo : Nat) : Int) ∨ ((hi : Nat) : Int) < rnumber.toInt := by
    have b_rkind := ia_b rkind
    have b_rword := ia_b rword
    have b_rnumber := ia_b rnumber
    have b_rfaultKindG_6 := ia_b rfaultKindG_6
    have b_rfaultPlaceG_7 := ia_b rfaultPlaceG_7
    have b_rletters := Int64.toInt_lt rletters
    try have k_0 := ia_n 3 (by first | decide | omega)
    try have k_1 := ia_n lo (by first | decide | omega)
    try have k_2 := ia_n 2 (by first | decide | omega)
    try have k_3 := ia_n rbegin (by first | decide | omega)
    try have k_4 := ia_n (nER bt rlength rmostBytes gp) (by first | decide | omega)
    try have k_5 := ia_n (tF bt rlength rmostBytes gp) (by first | decide | omega)
    try simp only [ia_lt, ia_le, ia_eq, ia_m1, ia_0, ia_1, ne_eq, true_and, and_true, false_and, and_false, or_false, false_or, or_true, true_or, not_true_eq_false, not_false_eq_true] at *
    all_goals omega
  subst_vars
  exact num_F2 hRT (by first | rfl | assumption) q1
set_option maxRecDepth 20000 in
theorem lf_f_takeNumber_2 (bt : Nat → Nat) (rlength : Nat) (rmostBytes : Nat) (rplace : Nat) (rkind : Int32) (rbegin : Nat) (rword : Int32) (rnumber : Int32) (rletters : Int64) (rtapeF : Nat → Int32) (gp : Nat) (lo : Nat) (hi : Nat) (rplaceG_14 : Nat) (rkindG_15 : Int32) (rbeginG_16 : Nat) (rwordG_17 : Int32) (rnumberG_18 : Int32) (rlettersG_19 : Int64) (iv_rreader_0 : rlength ≤ 940) (iv_rreader_1 : rplace ≤ rlength) (iv_rreader_2 : rmostBytes ≤ 900) (iv_rreader_3 : rbegin ≤ 940) (hTC : TC bt rtapeF) (hlo : lo ≤ 10) (hhi : hi ≤ 1000) (hRT : RT bt rlength rmostBytes gp rkind rbegin rplace rword rnumber rletters) (c1 : rkind = nI 3) (c2 : ¬ rnumber < nI lo) (c11 : rnumber ≤ nI hi) (p20 : rplaceG_14 ≤ rlength) (p21 : rbeginG_16 ≤ 940) (p22 : RT bt rlength rmostBytes (tT bt rlength rmostBytes gp) rkindG_15 rbeginG_16 rplaceG_14 rwordG_17 rnumberG_18 rlettersG_19) : 0 ≤ rnumber.toInt ∧ rnumber.toInt < ((1001 : Nat) : Int) := by
  have b_rkind := ia_b rkind
  have b_rword := ia_b rword
  have b_rnumber := ia_b rnumber
  have b_rkindG_15 := ia_b rkindG_15
  have b_rwordG_17 := ia_b rwordG_17
  have b_rnumberG_18 := ia_b rnumberG_18
  have b_rletters := Int64.toInt_lt rletters
  have b_rlettersG_19 := Int64.toInt_lt rlettersG_19
  try have k_0 := ia_n 3 (by first | decide | omega)
  try have k_1 := ia_n lo (by first | decide | omega)
  try have k_2 := ia_n hi (by first | decide | omega)
  try simp only [ia_lt, ia_le, ia_eq, ia_m1, ia_0, ia_1, ne_eq, true_and, and_true, false_and, and_false, or_false, false_or, or_true, true_or, not_true_eq_false, not_false_eq_true] at *
  all_goals omega
set_option maxRecDepth 20000 in
theorem lf_f_takeNumber_3 (bt : Nat → Nat) (rlength : Nat) (rmostBytes : Nat) (rplace : Nat) (rkind : Int32) (rbegin : Nat) (rword : Int32) (rnumber : Int32) (rletters : Int64) (rfaultKind : Int32) (rfaultPlace : Int32) (rtapeF : Nat → Int32) (gp : Nat) (lo : Nat) (hi : Nat) (rplaceG_14 : Nat) (rkindG_15 : Int32) (rbeginG_16 : Nat) (rwordG_17 : Int32) (rnumberG_18 : Int32) (rlettersG_19 : Int64) (n23 : Nat) (iv_rreader_0 : rlength ≤ 940) (iv_rreader_1 : rplace ≤ rlength) (iv_rreader_2 : rmostBytes ≤ 900) (iv_rreader_3 : rbegin ≤ 940) (hTC : TC bt rtapeF) (hlo : lo ≤ 10) (hhi : hi ≤ 1000) (hRT : RT bt rlength rmostBytes gp rkind rbegin rplace rword rnumber rletters) (c1 : rkind = nI 3) (c2 : ¬ rnumber < nI lo) (c11 : rnumber ≤ nI hi) (p20 : rplaceG_14 ≤ rlength) (p21 : rbeginG_16 ≤ 940) (p22 : RT bt rlength rmostBytes (tT bt rlength rmostBytes gp) rkindG_15 rbeginG_16 rplaceG_14 rwordG_17 rnumberG_18 rlettersG_19) (h24 : n23 < 1001) (e25 : rnumber = nI n23) : pNum bt rlength rmostBytes lo hi gp = .ok n23 ∧ lo ≤ n23 ∧ n23 ≤ hi ∧ RT bt rlength rmostBytes (tT bt rlength rmostBytes gp) rkindG_15 rbeginG_16 rplaceG_14 rwordG_17 rnumberG_18 rlettersG_19 ∧ rfaultKind = rfaultKind ∧ rfaultPlace = rfaultPlace := by
  have q1 : lo ≤ n23 ∧ n23 ≤ hi := by
    have b_rkind := ia_b rkind
    have b_rword := ia_b rword
    have b_rnumber := ia_b rnumber
    have b_rfaultKind := ia_b rfaultKind
    have b_rfaultPlace := ia_b rfaultPlace
    have b_rkindG_15 := ia_b rkindG_15
    have b_rwordG_17 := ia_b rwordG_17
    have b_rnumberG_18 := ia_b rnumberG_18
    have b_rletters := Int64.toInt_lt rletters
    have b_rlettersG_19 := Int64.toInt_lt rlettersG_19
    try have k_0 := ia_n 3 (by first | decide | omega)
    try have k_1 := ia_n lo (by first | decide | omega)
    try have k_2 := ia_n hi (by first | decide | omega)
    try have k_3 := ia_n n23 (by first | decide | omega)
    try simp only [ia_lt, ia_le, ia_eq, ia_m1, ia_0, ia_1, ne_eq, true_and, and_true, false_and, and_false, or_false, false_or, or_true, true_or, not_true_eq_false, not_false_eq_true] at *
    all_goals omega
  exact ⟨num_T hRT ‹_› ‹_› (by omega) q1.1 q1.2, q1.1, q1.2, ‹_›, rfl, rfl⟩
set_option maxRecDepth 20000 in
theorem lf_f_takeNumber_4 (bt : Nat → Nat) (rlength : Nat) (rmostBytes : Nat) (rplace : Nat) (rkind : Int32) (rbegin : Nat) (rword : Int32) (rnumber : Int32) (rletters : Int64) (rtapeF : Nat → Int32) (gp : Nat) (lo : Nat) (hi : Nat) (rfaultKindG_29 : Int32) (rfaultPlaceG_30 : Int32) (iv_rreader_0 : rlength ≤ 940) (iv_rreader_1 : rplace ≤ rlength) (iv_rreader_2 : rmostBytes ≤ 900) (iv_rreader_3 : rbegin ≤ 940) (hTC : TC bt rtapeF) (hlo : lo ≤ 10) (hhi : hi ≤ 1000) (hRT : RT bt rlength rmostBytes gp rkind rbegin rplace rword rnumber rletters) (c1 : rkind = nI 3) (c2 : ¬ rnumber < nI lo) (c11 : ¬ rnumber ≤ nI hi) (p32 : rfaultKindG_29 = (nI 2)) (p33 : rfaultPlaceG_30 = nI rbegin) : pNum bt rlength rmostBytes lo hi gp = .error (nER bt rlength rmostBytes gp, tF bt rlength rmostBytes gp) ∧ rfaultKindG_29 = nI (nER bt rlength rmostBytes gp) ∧ rfaultPlaceG_30 = nI (tF bt rlength rmostBytes gp) := by
  have q1 : rnumber.toInt < ((lo : Nat) : Int) ∨ ((hi : Nat) : Int) < rnumber.toInt := by
    have b_rkind := ia_b rkind
    have b_rword := ia_b rword
    have b_rnumber := ia_b rnumber
    have b_rfaultKindG_29 := ia_b rfaultKindG_29
    have b_rfaultPlaceG_30 := ia_b rfaultPlaceG_30
    have b_rletters := Int64.toInt_lt rletters
    try have k_0 := ia_n 3 (by first | decide | omega)
    try have k_1 := ia_n lo (by first | decide | omega)
    try have k_2 := ia_n hi (by first | decide | omega)
    try have k_3 := ia_n 2 (by first | decide | omega)
    try have k_4 := ia_n rbegin (by first | decide | omega)
    try have k_5 := ia_n (nER bt rlength rmostBytes gp) (by first | decide | omega)
    try have k_6 := ia_n (tF bt rlength rmostBytes gp) (by first | decide | omega)
    try simp only [ia_lt, ia_le, ia_eq, ia_m1, ia_0, ia_1, ne_eq, true_and, and_true, false_and, and_false, or_false, false_or, or_true, true_or, not_true_eq_false, not_false_eq_true] at *
    all_goals omega
  subst_vars
  exact num_F2 hRT (by first | rfl | assumption) q1
set_option maxRecDepth 20000 in
theorem lf_f_takeNumber_5 (bt : Nat → Nat) (rlength : Nat) (rmostBytes : Nat) (rplace : Nat) (rkind : Int32) (rbegin : Nat) (rword : Int32) (rnumber : Int32) (rletters : Int64) (rtapeF : Nat → Int32) (gp : Nat) (lo : Nat) (hi : Nat) (rfaultKindG_37 : Int32) (rfaultPlaceG_38 : Int32) (iv_rreader_0 : rlength ≤ 940) (iv_rreader_1 : rplace ≤ rlength) (iv_rreader_2 : rmostBytes ≤ 900) (iv_rreader_3 : rbegin ≤ 940) (hTC : TC bt rtapeF) (hlo : lo ≤ 10) (hhi : hi ≤ 1000) (hRT : RT bt rlength rmostBytes gp rkind rbegin rplace rword rnumber rletters) (c1 : ¬ rkind = nI 3) (p40 : rfaultKindG_37 = (nI 1)) (p41 : rfaultPlaceG_38 = nI rbegin) : pNum bt rlength rmostBytes lo hi gp = .error (nER bt rlength rmostBytes gp, tF bt rlength rmostBytes gp) ∧ rfaultKindG_37 = nI (nER bt rlength rmostBytes gp) ∧ rfaultPlaceG_38 = nI (tF bt rlength rmostBytes gp) := by
  subst_vars
  exact num_F1 hRT ‹_›
set_option maxHeartbeats 4000000 in
set_option maxRecDepth 100000 in
theorem c_f_takeNumber (l : Launch) (dC : Nat → ClassId) (dI : Nat → Nat → Nat) (ky : Nat → ClassId) (sz : Nat) (adK : Nat → Nat) (adV : Nat → Nat) (bt : Nat → Nat) (reader : Nat) (rtape : Nat) (rlength : Nat) (rmostBytes : Nat) (rplace : Nat) (rkind : Int32) (rbegin : Nat) (rword : Int32) (rnumber : Int32) (rletters : Int64) (rfaultKind : Int32) (rfaultPlace : Int32) (rtapeF : Nat → Int32) (gp : Nat) (lo : Nat) (hi : Nat) (iv_rreader_0 : rlength ≤ 940) (iv_rreader_1 : rplace ≤ rlength) (iv_rreader_2 : rmostBytes ≤ 900) (iv_rreader_3 : rbegin ≤ 940) (hTC : TC bt rtapeF) (hlo : lo ≤ 10) (hhi : hi ≤ 1000) (hRT : RT bt rlength rmostBytes gp rkind rbegin rplace rword rnumber rletters) : Met l yX5_takeNumber wsX5_takeNumber ({ frames := 6, cells := 0, slots := 0, locals := 131 }) (PcUE dC dI ky adK adV [.ref reader, .int (nI lo), .int (nI hi)] [(reader, .inr (5, [.ref rtape, .int (nI rlength), .int (nI rmostBytes), .int (nI rplace), .int rkind, .int (nI rbegin), .int rword, .int rnumber, .long rletters, .int rfaultKind, .int rfaultPlace])), (rtape, .inl (ky 2, 940, .inl rtapeF))] sz) (va_Qi (fun (r : Int32) (u : Nat × Int32 × Nat × Int32 × Int32 × Int64 × Int32 × Int32) => match u with | (rplaceG, rkindG, rbeginG, rwordG, rnumberG, rlettersG, rfaultKindG, rfaultPlaceG) => ((r = (-1 : Int32) ∧ (pNum bt rlength rmostBytes lo hi gp = .error (nER bt rlength rmostBytes gp, tF bt rlength rmostBytes gp) ∧ rfaultKindG = nI (nER bt rlength rmostBytes gp) ∧ rfaultPlaceG = nI (tF bt rlength rmostBytes gp))) ∨ (∃ k9 : Nat, (pNum bt rlength rmostBytes lo hi gp = .ok k9 ∧ lo ≤ k9 ∧ k9 ≤ hi ∧ RT bt rlength rmostBytes (tT bt rlength rmostBytes gp) rkindG rbeginG rplaceG rwordG rnumberG rlettersG ∧ rfaultKindG = rfaultKind ∧ rfaultPlaceG = rfaultPlace) ∧ r = nI k9)) ∧ (rplaceG ≤ rlength) ∧ (rbeginG ≤ 940)) (BU dC dI ky (fun (u : Nat × Int32 × Nat × Int32 × Int32 × Int64 × Int32 × Int32) => match u with | (rplaceG, rkindG, rbeginG, rwordG, rnumberG, rlettersG, rfaultKindG, rfaultPlaceG) => [(reader, .inr (5, [.ref rtape, .int (nI rlength), .int (nI rmostBytes), .int (nI rplaceG), .int rkindG, .int (nI rbeginG), .int rwordG, .int rnumberG, .long rlettersG, .int rfaultKindG, .int rfaultPlaceG])), (rtape, .inl (ky 2, 940, .inl rtapeF))]) (va_A [(reader, .inr (5, [.ref rtape, .int (nI rlength), .int (nI rmostBytes), .int (nI rplace), .int rkind, .int (nI rbegin), .int rword, .int rnumber, .long rletters, .int rfaultKind, .int rfaultPlace])), (rtape, .inl (ky 2, 940, .inl rtapeF))] sz)) (va_A [(reader, .inr (5, [.ref rtape, .int (nI rlength), .int (nI rmostBytes), .int (nI rplace), .int rkind, .int (nI rbegin), .int rword, .int rnumber, .long rletters, .int rfaultKind, .int rfaultPlace])), (rtape, .inl (ky 2, 940, .inl rtapeF))] sz)) 0 0 (va_A [(reader, .inr (5, [.ref rtape, .int (nI rlength), .int (nI rmostBytes), .int (nI rplace), .int rkind, .int (nI rbegin), .int rword, .int rnumber, .long rletters, .int rfaultKind, .int rfaultPlace])), (rtape, .inl (ky 2, 940, .inl rtapeF))] sz) := by
  refine Met.ofW (cc := cX5_takeNumber) (maxL := 4) (ret := (some .int)) (by decide) rfl ?_
  intro p e s m args below meth c s₁ B hml hv
  obtain ⟨rfl, hsz, hP, hK, hD0, hE⟩ := hv
  have hx := B.exec
  have hb := B.bytes
  have hr := B.returns
  have hts := atoms_spec (ws := wsX5_takeNumber) B.pre
  have hown : s.vm.findClass RX5 = some m.cls := findClass_of_methodNamed B.named
  have hlocks := B.notSynchronized
  have hin5 : ∀ w ∈ u_ws RX5 TX5 11, w ∈ wsX5_takeNumber := by decide +kernel
  subst hsz
  have hD := hD0.self (sz := s.heap.size)
  generalize hAe : va_A [(reader, .inr (5, [.ref rtape, .int (nI rlength), .int (nI rmostBytes), .int (nI rplace), .int rkind, .int (nI rbegin), .int rword, .int rnumber, .long rletters, .int rfaultKind, .int rfaultPlace])), (rtape, .inl (ky 2, 940, .inl rtapeF))] s.heap.size = A at hD hE ⊢
  have hA : ∀ q : Nat, s.heap.size ≤ q → A q := fun q h => by rw [← hAe]; exact Or.inr h
  have hS : va_S A s.heap s.heap [] := va_S.rf
  have hl := lv_entry ([.ref reader, .int (nI lo), .int (nI hi)]) (n := 4) (Nat.le_of_ble_eq_true rfl)
  rw [lg_entry_eq]
  generalize (lg_sl ([.ref reader, .int (nI lo), .int (nI hi)]) ++ List.replicate (4 - (lg_sl ([.ref reader, .int (nI lo), .int (nI hi)])).length) Slot.unset).toArray = ls at hl ⊢
  have hl : lv_has ls 4 [(0, .ref reader), (1, .int (nI lo)), (2, .int (nI hi))] := hl
  refine q_name (fun Q hQ => ?_)
  generalize ([.ref reader, .int (nI lo), .int (nI hi)] : List Value).toArray = args at hts hQ ⊢
  refine lv_aload_n hx hb dX5_takeNumber_0 rfl (lv_at hl 0 rfl) ?_
  refine va_get (D := (dC, dI)) (ci := 5) (v := .int rkind) (C := RX5) (T := TX5) (N := 11) hx hb hts hin5 hown hK hP 0 rfl rfl 4 (by decide) (hts (.fieldLink RX5 46 "PorridgeSea$Reader" "kind" "I") (List.mem_of_getElem? (i := 1) rfl)) (fun _ h9 => h9) rfl dX5_takeNumber_1 ?_
  refine lv_iconst (v := nI 3) hx hb dX5_takeNumber_4 (by decide) ?_
  refine lv_icmp_eq (tgt := 16) hx hb dX5_takeNumber_5 (by decide) (fun c1 => ?_) (fun c1 => ?_)
  · refine lv_aload_n hx hb dX5_takeNumber_16 rfl (lv_at hl 0 rfl) ?_
    refine va_get (D := (dC, dI)) (ci := 5) (v := .int rnumber) (C := RX5) (T := TX5) (N := 11) hx hb hts hin5 hown hK hP 0 rfl rfl 7 (by decide) (hts (.fieldLink RX5 76 "PorridgeSea$Reader" "number" "I") (List.mem_of_getElem? (i := 2) rfl)) (fun _ h9 => h9) rfl dX5_takeNumber_17 ?_
    refine lv_iload_n hx hb dX5_takeNumber_20 rfl (lv_at hl 1 rfl) ?_
    refine lv_icmp_lt (tgt := 32) hx hb dX5_takeNumber_21 (by decide) (fun c2 => ?_) (fun c2 => ?_)
    · refine lv_aload_n hx hb dX5_takeNumber_32 rfl (lv_at hl 0 rfl) ?_
      refine lv_iconst (v := nI 2) hx hb dX5_takeNumber_33 (by decide) ?_
      refine r_call_i (wr := [(rtape, .inl (ky 2, 940, .inl rtapeF))]) (va_runV (As := [.int (nI 2)]) (rest := []) ⟨hx, hb, hml, hown, hts⟩ (c_f_refuse l dC dI ky s.heap.size reader rtape rlength rmostBytes rplace rkind rbegin rword rnumber rletters rfaultKind rfaultPlace (nI 2) iv_rreader_0 iv_rreader_1 iv_rreader_2 iv_rreader_3) (cwV 1 hts gX5_takeNumber_X5_refuse rfl rfl rfl (by decide +kernel) ⟨(Nat.le_of_ble_eq_true rfl), (Nat.le_of_ble_eq_true rfl)⟩) (pre_UV hK hP hD [0] (by decide) rfl (ci := 5) (q0 := 0) rfl rfl) rfl rfl hl.1 rfl (lv_room (Nat.le_of_ble_eq_true rfl)) dX5_takeNumber_34 ⟨(Nat.le_of_ble_eq_true rfl), (Nat.le_of_ble_eq_true rfl)⟩) hP hD hS hA [0] [1] rfl rfl (by decide) (by decide) (fun r5 u3 H locs p4 hP hD hS => ?_)
      obtain ⟨rfaultKindG_6, rfaultPlaceG_7⟩ := u3
      try dsimp only at p4
      obtain ⟨p8, p9, p10⟩ := p4
      refine W.widen (k := 0) (n := 0) (Nat.le_of_ble_eq_true rfl) (Nat.le_of_ble_eq_true rfl) ?_
      have hP : va_P (dC, dI) vwCl [(rtape, .inl (ky 2, 940, .inl rtapeF)), (reader, .inr (5, [.ref rtape, .int (nI rlength), .int (nI rmostBytes), .int (nI rplace), .int rkind, .int (nI rbegin), .int rword, .int rnumber, .long rletters, .int rfaultKindG_6, .int rfaultPlaceG_7]))] H := hP
      have hD : va_D A [(rtape, .inl (ky 2, 940, .inl rtapeF)), (reader, .inr (5, [.ref rtape, .int (nI rlength), .int (nI rmostBytes), .int (nI rplace), .int rkind, .int (nI rbegin), .int rword, .int rnumber, .long rletters, .int rfaultKindG_6, .int rfaultPlaceG_7]))] := hD
      subst p8
      refine lv_pop hx hb dX5_takeNumber_37 rfl ?_
      refine lv_iconst (v := (-1 : Int32)) hx hb dX5_takeNumber_38 (by decide) ?_
      rw [hQ]
      have hP9 := hP.sub (ws' := [(reader, .inr (5, [.ref rtape, .int (nI rlength), .int (nI rmostBytes), .int (nI rplace), .int rkind, .int (nI rbegin), .int rword, .int rnumber, .long rletters, .int rfaultKindG_6, .int rfaultPlaceG_7])), (rtape, .inl (ky 2, 940, .inl rtapeF))]) [1, 0] rfl
      have hD9 := hD.sub (ws' := [(reader, .inr (5, [.ref rtape, .int (nI rlength), .int (nI rmostBytes), .int (nI rplace), .int rkind, .int (nI rbegin), .int rword, .int rnumber, .long rletters, .int rfaultKindG_6, .int rfaultPlaceG_7])), (rtape, .inl (ky 2, 940, .inl rtapeF))]) [1, 0] (by decide) rfl
      exact W.iret (v := (-1 : Int32)) hx hb hr (fun t9 ht9 hW9 => ⟨⟨(-1 : Int32), (rplace, rkind, rbegin, rword, rnumber, rletters, rfaultKindG_6, rfaultPlaceG_7), rfl, ⟨(Or.inl ⟨rfl, (lf_f_takeNumber_1 bt rlength rmostBytes rplace rkind rbegin rword rnumber rletters rtapeF gp lo hi rfaultKindG_6 rfaultPlaceG_7 iv_rreader_0 iv_rreader_1 iv_rreader_2 iv_rreader_3 hTC hlo hhi hRT c1 c2 p9 p10)⟩), iv_rreader_1, iv_rreader_3⟩, by rw [ht9]; exact hP9, va_K.moved hW9.alike hK, hD9⟩, hS.F ht9⟩) hS.2.2 dX5_takeNumber_39
    · refine lv_aload_n hx hb dX5_takeNumber_24 rfl (lv_at hl 0 rfl) ?_
      refine va_get (D := (dC, dI)) (ci := 5) (v := .int rnumber) (C := RX5) (T := TX5) (N := 11) hx hb hts hin5 hown hK hP 0 rfl rfl 7 (by decide) (hts (.fieldLink RX5 76 "PorridgeSea$Reader" "number" "I") (List.mem_of_getElem? (i := 2) rfl)) (fun _ h9 => h9) rfl dX5_takeNumber_25 ?_
      refine lv_iload_n hx hb dX5_takeNumber_28 rfl (lv_at hl 2 rfl) ?_
      refine lv_icmp_le (tgt := 40) hx hb dX5_takeNumber_29 (by decide) (fun c11 => ?_) (fun c11 => ?_)
      · refine lv_aload_n hx hb dX5_takeNumber_40 rfl (lv_at hl 0 rfl) ?_
        refine va_get (D := (dC, dI)) (ci := 5) (v := .int rnumber) (C := RX5) (T := TX5) (N := 11) hx hb hts hin5 hown hK hP 0 rfl rfl 7 (by decide) (hts (.fieldLink RX5 76 "PorridgeSea$Reader" "number" "I") (List.mem_of_getElem? (i := 2) rfl)) (fun _ h9 => h9) rfl dX5_takeNumber_41 ?_
        refine lv_istore_n (lv' := [(3, .int rnumber), (0, .ref reader), (1, .int (nI lo)), (2, .int (nI hi))]) hx hb dX5_takeNumber_44 rfl hl (by decide) rfl (fun ls hl => ?_)
        refine lv_aload_n hx hb dX5_takeNumber_45 rfl (lv_at hl 1 rfl) ?_
        refine r_call_v (wr := []) (va_runV (As := []) (rest := []) ⟨hx, hb, hml, hown, hts⟩ (c_f_adv l dC dI ky s.heap.size adK adV bt reader rtape rlength rmostBytes rplace rkind rbegin rword rnumber rletters rfaultKind rfaultPlace rtapeF (tT bt rlength rmostBytes gp) iv_rreader_0 iv_rreader_1 iv_rreader_2 iv_rreader_3 hTC hRT.2.2.1) (cwV 0 hts gX5_takeNumber_X5_advance rfl rfl rfl (by decide +kernel) ⟨(Nat.le_of_ble_eq_true rfl), (Nat.le_of_ble_eq_true rfl)⟩) (pre_UEV hE hS hA hK hP hD [0, 1] (by decide) rfl (va_recv hK hP (ci := 5) (q0 := 0) rfl rfl)) rfl rfl hl.1 rfl (lv_room (Nat.le_of_ble_eq_true rfl)) dX5_takeNumber_46 ⟨(Nat.le_of_ble_eq_true rfl), (Nat.le_of_ble_eq_true rfl)⟩) hP hD hS hA [0, 1] [] rfl rfl (by decide) (by decide) (fun  u12 H locs p13 hP hD hS => ?_)
        obtain ⟨rplaceG_14, rkindG_15, rbeginG_16, rwordG_17, rnumberG_18, rlettersG_19⟩ := u12
        try dsimp only at p13
        obtain ⟨p20, p21, p22⟩ := p13
        refine W.widen (k := 0) (n := 0) (Nat.le_of_ble_eq_true rfl) (Nat.le_of_ble_eq_true rfl) ?_
        have hP : va_P (dC, dI) vwCl [(reader, .inr (5, [.ref rtape, .int (nI rlength), .int (nI rmostBytes), .int (nI rplaceG_14), .int rkindG_15, .int (nI rbeginG_16), .int rwordG_17, .int rnumberG_18, .long rlettersG_19, .int rfaultKind, .int rfaultPlace])), (rtape, .inl (ky 2, 940, .inl rtapeF))] H := hP
        have hD : va_D A [(reader, .inr (5, [.ref rtape, .int (nI rlength), .int (nI rmostBytes), .int (nI rplaceG_14), .int rkindG_15, .int (nI rbeginG_16), .int rwordG_17, .int rnumberG_18, .long rlettersG_19, .int rfaultKind, .int rfaultPlace])), (rtape, .inl (ky 2, 940, .inl rtapeF))] := hD
        refine lv_iload_n hx hb dX5_takeNumber_49 rfl (lv_at hl 0 rfl) ?_
        obtain ⟨n23, h24, e25⟩ := nat_of rnumber 1001 (by decide) (lf_f_takeNumber_2 bt rlength rmostBytes rplace rkind rbegin rword rnumber rletters rtapeF gp lo hi rplaceG_14 rkindG_15 rbeginG_16 rwordG_17 rnumberG_18 rlettersG_19 iv_rreader_0 iv_rreader_1 iv_rreader_2 iv_rreader_3 hTC hlo hhi hRT c1 c2 c11 p20 p21 p22)
        rw [e25]
        rw [hQ]
        exact W.iret (v := nI n23) hx hb hr (fun t9 ht9 hW9 => ⟨⟨nI n23, (rplaceG_14, rkindG_15, rbeginG_16, rwordG_17, rnumberG_18, rlettersG_19, rfaultKind, rfaultPlace), rfl, ⟨(Or.inr ⟨n23, (lf_f_takeNumber_3 bt rlength rmostBytes rplace rkind rbegin rword rnumber rletters rfaultKind rfaultPlace rtapeF gp lo hi rplaceG_14 rkindG_15 rbeginG_16 rwordG_17 rnumberG_18 rlettersG_19 n23 iv_rreader_0 iv_rreader_1 iv_rreader_2 iv_rreader_3 hTC hlo hhi hRT c1 c2 c11 p20 p21 p22 h24 e25), rfl⟩), p20, p21⟩, by rw [ht9]; exact hP, va_K.moved hW9.alike hK, hD⟩, hS.F ht9⟩) hS.2.2 dX5_takeNumber_50
      · refine lv_aload_n hx hb dX5_takeNumber_32 rfl (lv_at hl 0 rfl) ?_
        refine lv_iconst (v := nI 2) hx hb dX5_takeNumber_33 (by decide) ?_
        refine r_call_i (wr := [(rtape, .inl (ky 2, 940, .inl rtapeF))]) (va_runV (As := [.int (nI 2)]) (rest := []) ⟨hx, hb, hml, hown, hts⟩ (c_f_refuse l dC dI ky s.heap.size reader rtape rlength rmostBytes rplace rkind rbegin rword rnumber rletters rfaultKind rfaultPlace (nI 2) iv_rreader_0 iv_rreader_1 iv_rreader_2 iv_rreader_3) (cwV 1 hts gX5_takeNumber_X5_refuse rfl rfl rfl (by decide +kernel) ⟨(Nat.le_of_ble_eq_true rfl), (Nat.le_of_ble_eq_true rfl)⟩) (pre_UV hK hP hD [0] (by decide) rfl (ci := 5) (q0 := 0) rfl rfl) rfl rfl hl.1 rfl (lv_room (Nat.le_of_ble_eq_true rfl)) dX5_takeNumber_34 ⟨(Nat.le_of_ble_eq_true rfl), (Nat.le_of_ble_eq_true rfl)⟩) hP hD hS hA [0] [1] rfl rfl (by decide) (by decide) (fun r28 u26 H locs p27 hP hD hS => ?_)
        obtain ⟨rfaultKindG_29, rfaultPlaceG_30⟩ := u26
        try dsimp only at p27
        obtain ⟨p31, p32, p33⟩ := p27
        refine W.widen (k := 0) (n := 0) (Nat.le_of_ble_eq_true rfl) (Nat.le_of_ble_eq_true rfl) ?_
        have hP : va_P (dC, dI) vwCl [(rtape, .inl (ky 2, 940, .inl rtapeF)), (reader, .inr (5, [.ref rtape, .int (nI rlength), .int (nI rmostBytes), .int (nI rplace), .int rkind, .int (nI rbegin), .int rword, .int rnumber, .long rletters, .int rfaultKindG_29, .int rfaultPlaceG_30]))] H := hP
        have hD : va_D A [(rtape, .inl (ky 2, 940, .inl rtapeF)), (reader, .inr (5, [.ref rtape, .int (nI rlength), .int (nI rmostBytes), .int (nI rplace), .int rkind, .int (nI rbegin), .int rword, .int rnumber, .long rletters, .int rfaultKindG_29, .int rfaultPlaceG_30]))] := hD
        subst p31
        refine lv_pop hx hb dX5_takeNumber_37 rfl ?_
        refine lv_iconst (v := (-1 : Int32)) hx hb dX5_takeNumber_38 (by decide) ?_
        rw [hQ]
        have hP9 := hP.sub (ws' := [(reader, .inr (5, [.ref rtape, .int (nI rlength), .int (nI rmostBytes), .int (nI rplace), .int rkind, .int (nI rbegin), .int rword, .int rnumber, .long rletters, .int rfaultKindG_29, .int rfaultPlaceG_30])), (rtape, .inl (ky 2, 940, .inl rtapeF))]) [1, 0] rfl
        have hD9 := hD.sub (ws' := [(reader, .inr (5, [.ref rtape, .int (nI rlength), .int (nI rmostBytes), .int (nI rplace), .int rkind, .int (nI rbegin), .int rword, .int rnumber, .long rletters, .int rfaultKindG_29, .int rfaultPlaceG_30])), (rtape, .inl (ky 2, 940, .inl rtapeF))]) [1, 0] (by decide) rfl
        exact W.iret (v := (-1 : Int32)) hx hb hr (fun t9 ht9 hW9 => ⟨⟨(-1 : Int32), (rplace, rkind, rbegin, rword, rnumber, rletters, rfaultKindG_29, rfaultPlaceG_30), rfl, ⟨(Or.inl ⟨rfl, (lf_f_takeNumber_4 bt rlength rmostBytes rplace rkind rbegin rword rnumber rletters rtapeF gp lo hi rfaultKindG_29 rfaultPlaceG_30 iv_rreader_0 iv_rreader_1 iv_rreader_2 iv_rreader_3 hTC hlo hhi hRT c1 c2 c11 p32 p33)⟩), iv_rreader_1, iv_rreader_3⟩, by rw [ht9]; exact hP9, va_K.moved hW9.alike hK, hD9⟩, hS.F ht9⟩) hS.2.2 dX5_takeNumber_39
  · refine lv_aload_n hx hb dX5_takeNumber_8 rfl (lv_at hl 0 rfl) ?_
    refine lv_iconst (v := nI 1) hx hb dX5_takeNumber_9 (by decide) ?_
    refine r_call_i (wr := [(rtape, .inl (ky 2, 940, .inl rtapeF))]) (va_runV (As := [.int (nI 1)]) (rest := []) ⟨hx, hb, hml, hown, hts⟩ (c_f_refuse l dC dI ky s.heap.size reader rtape rlength rmostBytes rplace rkind rbegin rword rnumber rletters rfaultKind rfaultPlace (nI 1) iv_rreader_0 iv_rreader_1 iv_rreader_2 iv_rreader_3) (cwV 1 hts gX5_takeNumber_X5_refuse rfl rfl rfl (by decide +kernel) ⟨(Nat.le_of_ble_eq_true rfl), (Nat.le_of_ble_eq_true rfl)⟩) (pre_UV hK hP hD [0] (by decide) rfl (ci := 5) (q0 := 0) rfl rfl) rfl rfl hl.1 rfl (lv_room (Nat.le_of_ble_eq_true rfl)) dX5_takeNumber_10 ⟨(Nat.le_of_ble_eq_true rfl), (Nat.le_of_ble_eq_true rfl)⟩) hP hD hS hA [0] [1] rfl rfl (by decide) (by decide) (fun r36 u34 H locs p35 hP hD hS => ?_)
    obtain ⟨rfaultKindG_37, rfaultPlaceG_38⟩ := u34
    try dsimp only at p35
    obtain ⟨p39, p40, p41⟩ := p35
    refine W.widen (k := 0) (n := 0) (Nat.le_of_ble_eq_true rfl) (Nat.le_of_ble_eq_true rfl) ?_
    have hP : va_P (dC, dI) vwCl [(rtape, .inl (ky 2, 940, .inl rtapeF)), (reader, .inr (5, [.ref rtape, .int (nI rlength), .int (nI rmostBytes), .int (nI rplace), .int rkind, .int (nI rbegin), .int rword, .int rnumber, .long rletters, .int rfaultKindG_37, .int rfaultPlaceG_38]))] H := hP
    have hD : va_D A [(rtape, .inl (ky 2, 940, .inl rtapeF)), (reader, .inr (5, [.ref rtape, .int (nI rlength), .int (nI rmostBytes), .int (nI rplace), .int rkind, .int (nI rbegin), .int rword, .int rnumber, .long rletters, .int rfaultKindG_37, .int rfaultPlaceG_38]))] := hD
    subst p39
    refine lv_pop hx hb dX5_takeNumber_13 rfl ?_
    refine lv_iconst (v := (-1 : Int32)) hx hb dX5_takeNumber_14 (by decide) ?_
    rw [hQ]
    have hP9 := hP.sub (ws' := [(reader, .inr (5, [.ref rtape, .int (nI rlength), .int (nI rmostBytes), .int (nI rplace), .int rkind, .int (nI rbegin), .int rword, .int rnumber, .long rletters, .int rfaultKindG_37, .int rfaultPlaceG_38])), (rtape, .inl (ky 2, 940, .inl rtapeF))]) [1, 0] rfl
    have hD9 := hD.sub (ws' := [(reader, .inr (5, [.ref rtape, .int (nI rlength), .int (nI rmostBytes), .int (nI rplace), .int rkind, .int (nI rbegin), .int rword, .int rnumber, .long rletters, .int rfaultKindG_37, .int rfaultPlaceG_38])), (rtape, .inl (ky 2, 940, .inl rtapeF))]) [1, 0] (by decide) rfl
    exact W.iret (v := (-1 : Int32)) hx hb hr (fun t9 ht9 hW9 => ⟨⟨(-1 : Int32), (rplace, rkind, rbegin, rword, rnumber, rletters, rfaultKindG_37, rfaultPlaceG_38), rfl, ⟨(Or.inl ⟨rfl, (lf_f_takeNumber_5 bt rlength rmostBytes rplace rkind rbegin rword rnumber rletters rtapeF gp lo hi rfaultKindG_37 rfaultPlaceG_38 iv_rreader_0 iv_rreader_1 iv_rreader_2 iv_rreader_3 hTC hlo hhi hRT c1 p40 p41)⟩), iv_rreader_1, iv_rreader_3⟩, by rw [ht9]; exact hP9, va_K.moved hW9.alike hK, hD9⟩, hS.F ht9⟩) hS.2.2 dX5_takeNumber_15
set_option maxRecDepth 20000 in
theorem lf_f_takeSign_1 (bt : Nat → Nat) (rlength : Nat) (rmostBytes : Nat) (rplace : Nat) (rkind : Int32) (rbegin : Nat) (rword : Int32) (rnumber : Int32) (rletters : Int64) (rfaultKind : Int32) (rfaultPlace : Int32) (rtapeF : Nat → Int32) (gp : Nat) (x : Int32) (rplaceG_4 : Nat) (rkindG_5 : Int32) (rbeginG_6 : Nat) (rwordG_7 : Int32) (rnumberG_8 : Int32) (rlettersG_9 : Int64) (iv_rreader_0 : rlength ≤ 940) (iv_rreader_1 : rplace ≤ rlength) (iv_rreader_2 : rmostBytes ≤ 900) (iv_rreader_3 : rbegin ≤ 940) (hTC : TC bt rtapeF) (hRT : RT bt rlength rmostBytes gp rkind rbegin rplace rword rnumber rletters) (c1 : rkind = x) (p10 : rplaceG_4 ≤ rlength) (p11 : rbeginG_6 ≤ 940) (p12 : RT bt rlength rmostBytes (tT bt rlength rmostBytes gp) rkindG_5 rbeginG_6 rplaceG_4 rwordG_7 rnumberG_8 rlettersG_9) : ((nI 1) = nI 1 ∧ (nI (tK bt rlength rmostBytes gp) = x ∧ RT bt rlength rmostBytes (tT bt rlength rmostBytes gp) rkindG_5 rbeginG_6 rplaceG_4 rwordG_7 rnumberG_8 rlettersG_9 ∧ rfaultKind = rfaultKind ∧ rfaultPlace = rfaultPlace)) ∨ ((nI 1) = nI 0 ∧ (¬ nI (tK bt rlength rmostBytes gp) = x ∧ rfaultKind = nI 1 ∧ rfaultPlace = nI (tF bt rlength rmostBytes gp))) := by
  first
    | (refine Or.inl ⟨rfl, hRT.1.symm.trans ‹rkind = x›, ‹_›, rfl, rfl⟩; done)
    | (refine Or.inr ⟨rfl, fun h => absurd (hRT.1.trans h) ‹¬ rkind = x›, ‹_›, ?_⟩; rw [← hRT.2.1]; assumption)
set_option maxRecDepth 20000 in
theorem lf_f_takeSign_2 (bt : Nat → Nat) (rlength : Nat) (rmostBytes : Nat) (rplace : Nat) (rkind : Int32) (rbegin : Nat) (rword : Int32) (rnumber : Int32) (rletters : Int64) (rfaultKind : Int32) (rfaultPlace : Int32) (rtapeF : Nat → Int32) (gp : Nat) (x : Int32) (rfaultKindG_16 : Int32) (rfaultPlaceG_17 : Int32) (iv_rreader_0 : rlength ≤ 940) (iv_rreader_1 : rplace ≤ rlength) (iv_rreader_2 : rmostBytes ≤ 900) (iv_rreader_3 : rbegin ≤ 940) (hTC : TC bt rtapeF) (hRT : RT bt rlength rmostBytes gp rkind rbegin rplace rword rnumber rletters) (c1 : ¬ rkind = x) (p19 : rfaultKindG_16 = (nI 1)) (p20 : rfaultPlaceG_17 = nI rbegin) : ((nI 0) = nI 1 ∧ (nI (tK bt rlength rmostBytes gp) = x ∧ RT bt rlength rmostBytes (tT bt rlength rmostBytes gp) rkind rbegin rplace rword rnumber rletters ∧ rfaultKindG_16 = rfaultKind ∧ rfaultPlaceG_17 = rfaultPlace)) ∨ ((nI 0) = nI 0 ∧ (¬ nI (tK bt rlength rmostBytes gp) = x ∧ rfaultKindG_16 = nI 1 ∧ rfaultPlaceG_17 = nI (tF bt rlength rmostBytes gp))) := by
  first
    | (refine Or.inl ⟨rfl, hRT.1.symm.trans ‹rkind = x›, ‹_›, rfl, rfl⟩; done)
    | (refine Or.inr ⟨rfl, fun h => absurd (hRT.1.trans h) ‹¬ rkind = x›, ‹_›, ?_⟩; rw [← hRT.2.1]; assumption)
set_option maxHeartbeats 4000000 in
set_option maxRecDepth 100000 in
theorem c_f_takeSign (l : Launch) (dC : Nat → ClassId) (dI : Nat → Nat → Nat) (ky : Nat → ClassId) (sz : Nat) (adK : Nat → Nat) (adV : Nat → Nat) (bt : Nat → Nat) (reader : Nat) (rtape : Nat) (rlength : Nat) (rmostBytes : Nat) (rplace : Nat) (rkind : Int32) (rbegin : Nat) (rword : Int32) (rnumber : Int32) (rletters : Int64) (rfaultKind : Int32) (rfaultPlace : Int32) (rtapeF : Nat → Int32) (gp : Nat) (x : Int32) (iv_rreader_0 : rlength ≤ 940) (iv_rreader_1 : rplace ≤ rlength) (iv_rreader_2 : rmostBytes ≤ 900) (iv_rreader_3 : rbegin ≤ 940) (hTC : TC bt rtapeF) (hRT : RT bt rlength rmostBytes gp rkind rbegin rplace rword rnumber rletters) : Met l yX5_takeSign wsX5_takeSign ({ frames := 6, cells := 0, slots := 0, locals := 131 }) (PcUE dC dI ky adK adV [.ref reader, .int x] [(reader, .inr (5, [.ref rtape, .int (nI rlength), .int (nI rmostBytes), .int (nI rplace), .int rkind, .int (nI rbegin), .int rword, .int rnumber, .long rletters, .int rfaultKind, .int rfaultPlace])), (rtape, .inl (ky 2, 940, .inl rtapeF))] sz) (va_Qi (fun (r : Int32) (u : Nat × Int32 × Nat × Int32 × Int32 × Int64 × Int32 × Int32) => match u with | (rplaceG, rkindG, rbeginG, rwordG, rnumberG, rlettersG, rfaultKindG, rfaultPlaceG) => ((r = nI 1 ∧ (nI (tK bt rlength rmostBytes gp) = x ∧ RT bt rlength rmostBytes (tT bt rlength rmostBytes gp) rkindG rbeginG rplaceG rwordG rnumberG rlettersG ∧ rfaultKindG = rfaultKind ∧ rfaultPlaceG = rfaultPlace)) ∨ (r = nI 0 ∧ (¬ nI (tK bt rlength rmostBytes gp) = x ∧ rfaultKindG = nI 1 ∧ rfaultPlaceG = nI (tF bt rlength rmostBytes gp)))) ∧ (rplaceG ≤ rlength) ∧ (rbeginG ≤ 940)) (BU dC dI ky (fun (u : Nat × Int32 × Nat × Int32 × Int32 × Int64 × Int32 × Int32) => match u with | (rplaceG, rkindG, rbeginG, rwordG, rnumberG, rlettersG, rfaultKindG, rfaultPlaceG) => [(reader, .inr (5, [.ref rtape, .int (nI rlength), .int (nI rmostBytes), .int (nI rplaceG), .int rkindG, .int (nI rbeginG), .int rwordG, .int rnumberG, .long rlettersG, .int rfaultKindG, .int rfaultPlaceG])), (rtape, .inl (ky 2, 940, .inl rtapeF))]) (va_A [(reader, .inr (5, [.ref rtape, .int (nI rlength), .int (nI rmostBytes), .int (nI rplace), .int rkind, .int (nI rbegin), .int rword, .int rnumber, .long rletters, .int rfaultKind, .int rfaultPlace])), (rtape, .inl (ky 2, 940, .inl rtapeF))] sz)) (va_A [(reader, .inr (5, [.ref rtape, .int (nI rlength), .int (nI rmostBytes), .int (nI rplace), .int rkind, .int (nI rbegin), .int rword, .int rnumber, .long rletters, .int rfaultKind, .int rfaultPlace])), (rtape, .inl (ky 2, 940, .inl rtapeF))] sz)) 0 0 (va_A [(reader, .inr (5, [.ref rtape, .int (nI rlength), .int (nI rmostBytes), .int (nI rplace), .int rkind, .int (nI rbegin), .int rword, .int rnumber, .long rletters, .int rfaultKind, .int rfaultPlace])), (rtape, .inl (ky 2, 940, .inl rtapeF))] sz) := by
  refine Met.ofW (cc := cX5_takeSign) (maxL := 2) (ret := (some .boolean)) (by decide) rfl ?_
  intro p e s m args below meth c s₁ B hml hv
  obtain ⟨rfl, hsz, hP, hK, hD0, hE⟩ := hv
  have hx := B.exec
  have hb := B.bytes
  have hr := B.returns
  have hts := atoms_spec (ws := wsX5_takeSign) B.pre
  have hown : s.vm.findClass RX5 = some m.cls := findClass_of_methodNamed B.named
  have hlocks := B.notSynchronized
  have hin5 : ∀ w ∈ u_ws RX5 TX5 11, w ∈ wsX5_takeSign := by decide +kernel
  subst hsz
  have hD := hD0.self (sz := s.heap.size)
  generalize hAe : va_A [(reader, .inr (5, [.ref rtape, .int (nI rlength), .int (nI rmostBytes), .int (nI rplace), .int rkind, .int (nI rbegin), .int rword, .int rnumber, .long rletters, .int rfaultKind, .int rfaultPlace])), (rtape, .inl (ky 2, 940, .inl rtapeF))] s.heap.size = A at hD hE ⊢
  have hA : ∀ q : Nat, s.heap.size ≤ q → A q := fun q h => by rw [← hAe]; exact Or.inr h
  have hS : va_S A s.heap s.heap [] := va_S.rf
  have hl := lv_entry ([.ref reader, .int x]) (n := 2) (Nat.le_of_ble_eq_true rfl)
  rw [lg_entry_eq]
  generalize (lg_sl ([.ref reader, .int x]) ++ List.replicate (2 - (lg_sl ([.ref reader, .int x])).length) Slot.unset).toArray = ls at hl ⊢
  have hl : lv_has ls 2 [(0, .ref reader), (1, .int x)] := hl
  refine q_name (fun Q hQ => ?_)
  generalize ([.ref reader, .int x] : List Value).toArray = args at hts hQ ⊢
  refine lv_aload_n hx hb dX5_takeSign_0 rfl (lv_at hl 0 rfl) ?_
  refine va_get (D := (dC, dI)) (ci := 5) (v := .int rkind) (C := RX5) (T := TX5) (N := 11) hx hb hts hin5 hown hK hP 0 rfl rfl 4 (by decide) (hts (.fieldLink RX5 46 "PorridgeSea$Reader" "kind" "I") (List.mem_of_getElem? (i := 1) rfl)) (fun _ h9 => h9) rfl dX5_takeSign_1 ?_
  refine lv_iload_n hx hb dX5_takeSign_4 rfl (lv_at hl 1 rfl) ?_
  refine lv_icmp_eq (tgt := 14) hx hb dX5_takeSign_5 (by decide) (fun c1 => ?_) (fun c1 => ?_)
  · refine lv_aload_n hx hb dX5_takeSign_14 rfl (lv_at hl 0 rfl) ?_
    refine r_call_v (wr := []) (va_runV (As := []) (rest := []) ⟨hx, hb, hml, hown, hts⟩ (c_f_adv l dC dI ky s.heap.size adK adV bt reader rtape rlength rmostBytes rplace rkind rbegin rword rnumber rletters rfaultKind rfaultPlace rtapeF (tT bt rlength rmostBytes gp) iv_rreader_0 iv_rreader_1 iv_rreader_2 iv_rreader_3 hTC hRT.2.2.1) (cwV 0 hts gX5_takeSign_X5_advance rfl rfl rfl (by decide +kernel) ⟨(Nat.le_of_ble_eq_true rfl), (Nat.le_of_ble_eq_true rfl)⟩) (pre_UEV hE hS hA hK hP hD [0, 1] (by decide) rfl (va_recv hK hP (ci := 5) (q0 := 0) rfl rfl)) rfl rfl hl.1 rfl (lv_room (Nat.le_of_ble_eq_true rfl)) dX5_takeSign_15 ⟨(Nat.le_of_ble_eq_true rfl), (Nat.le_of_ble_eq_true rfl)⟩) hP hD hS hA [0, 1] [] rfl rfl (by decide) (by decide) (fun  u2 H locs p3 hP hD hS => ?_)
    obtain ⟨rplaceG_4, rkindG_5, rbeginG_6, rwordG_7, rnumberG_8, rlettersG_9⟩ := u2
    try dsimp only at p3
    obtain ⟨p10, p11, p12⟩ := p3
    refine W.widen (k := 0) (n := 0) (Nat.le_of_ble_eq_true rfl) (Nat.le_of_ble_eq_true rfl) ?_
    have hP : va_P (dC, dI) vwCl [(reader, .inr (5, [.ref rtape, .int (nI rlength), .int (nI rmostBytes), .int (nI rplaceG_4), .int rkindG_5, .int (nI rbeginG_6), .int rwordG_7, .int rnumberG_8, .long rlettersG_9, .int rfaultKind, .int rfaultPlace])), (rtape, .inl (ky 2, 940, .inl rtapeF))] H := hP
    have hD : va_D A [(reader, .inr (5, [.ref rtape, .int (nI rlength), .int (nI rmostBytes), .int (nI rplaceG_4), .int rkindG_5, .int (nI rbeginG_6), .int rwordG_7, .int rnumberG_8, .long rlettersG_9, .int rfaultKind, .int rfaultPlace])), (rtape, .inl (ky 2, 940, .inl rtapeF))] := hD
    refine lv_iconst (v := nI 1) hx hb dX5_takeSign_18 (by decide) ?_
    rw [hQ]
    exact W.zret (v := nI 1) hx hb hr (by decide) (fun t9 ht9 hW9 => ⟨⟨nI 1, (rplaceG_4, rkindG_5, rbeginG_6, rwordG_7, rnumberG_8, rlettersG_9, rfaultKind, rfaultPlace), rfl, ⟨(lf_f_takeSign_1 bt rlength rmostBytes rplace rkind rbegin rword rnumber rletters rfaultKind rfaultPlace rtapeF gp x rplaceG_4 rkindG_5 rbeginG_6 rwordG_7 rnumberG_8 rlettersG_9 iv_rreader_0 iv_rreader_1 iv_rreader_2 iv_rreader_3 hTC hRT c1 p10 p11 p12), p10, p11⟩, by rw [ht9]; exact hP, va_K.moved hW9.alike hK, hD⟩, hS.F ht9⟩) hS.2.2 dX5_takeSign_19
  · refine lv_aload_n hx hb dX5_takeSign_8 rfl (lv_at hl 0 rfl) ?_
    refine lv_iconst (v := nI 1) hx hb dX5_takeSign_9 (by decide) ?_
    refine r_call_i (wr := [(rtape, .inl (ky 2, 940, .inl rtapeF))]) (va_runV (As := [.int (nI 1)]) (rest := []) ⟨hx, hb, hml, hown, hts⟩ (c_f_refuse l dC dI ky s.heap.size reader rtape rlength rmostBytes rplace rkind rbegin rword rnumber rletters rfaultKind rfaultPlace (nI 1) iv_rreader_0 iv_rreader_1 iv_rreader_2 iv_rreader_3) (cwV 1 hts gX5_takeSign_X5_refuse rfl rfl rfl (by decide +kernel) ⟨(Nat.le_of_ble_eq_true rfl), (Nat.le_of_ble_eq_true rfl)⟩) (pre_UV hK hP hD [0] (by decide) rfl (ci := 5) (q0 := 0) rfl rfl) rfl rfl hl.1 rfl (lv_room (Nat.le_of_ble_eq_true rfl)) dX5_takeSign_10 ⟨(Nat.le_of_ble_eq_true rfl), (Nat.le_of_ble_eq_true rfl)⟩) hP hD hS hA [0] [1] rfl rfl (by decide) (by decide) (fun r15 u13 H locs p14 hP hD hS => ?_)
    obtain ⟨rfaultKindG_16, rfaultPlaceG_17⟩ := u13
    try dsimp only at p14
    obtain ⟨p18, p19, p20⟩ := p14
    refine W.widen (k := 0) (n := 0) (Nat.le_of_ble_eq_true rfl) (Nat.le_of_ble_eq_true rfl) ?_
    have hP : va_P (dC, dI) vwCl [(rtape, .inl (ky 2, 940, .inl rtapeF)), (reader, .inr (5, [.ref rtape, .int (nI rlength), .int (nI rmostBytes), .int (nI rplace), .int rkind, .int (nI rbegin), .int rword, .int rnumber, .long rletters, .int rfaultKindG_16, .int rfaultPlaceG_17]))] H := hP
    have hD : va_D A [(rtape, .inl (ky 2, 940, .inl rtapeF)), (reader, .inr (5, [.ref rtape, .int (nI rlength), .int (nI rmostBytes), .int (nI rplace), .int rkind, .int (nI rbegin), .int rword, .int rnumber, .long rletters, .int rfaultKindG_16, .int rfaultPlaceG_17]))] := hD
    subst p18
    rw [hQ]
    have hP9 := hP.sub (ws' := [(reader, .inr (5, [.ref rtape, .int (nI rlength), .int (nI rmostBytes), .int (nI rplace), .int rkind, .int (nI rbegin), .int rword, .int rnumber, .long rletters, .int rfaultKindG_16, .int rfaultPlaceG_17])), (rtape, .inl (ky 2, 940, .inl rtapeF))]) [1, 0] rfl
    have hD9 := hD.sub (ws' := [(reader, .inr (5, [.ref rtape, .int (nI rlength), .int (nI rmostBytes), .int (nI rplace), .int rkind, .int (nI rbegin), .int rword, .int rnumber, .long rletters, .int rfaultKindG_16, .int rfaultPlaceG_17])), (rtape, .inl (ky 2, 940, .inl rtapeF))]) [1, 0] (by decide) rfl
    exact W.zret (v := nI 0) hx hb hr (by decide) (fun t9 ht9 hW9 => ⟨⟨nI 0, (rplace, rkind, rbegin, rword, rnumber, rletters, rfaultKindG_16, rfaultPlaceG_17), rfl, ⟨(lf_f_takeSign_2 bt rlength rmostBytes rplace rkind rbegin rword rnumber rletters rfaultKind rfaultPlace rtapeF gp x rfaultKindG_16 rfaultPlaceG_17 iv_rreader_0 iv_rreader_1 iv_rreader_2 iv_rreader_3 hTC hRT c1 p19 p20), iv_rreader_1, iv_rreader_3⟩, by rw [ht9]; exact hP9, va_K.moved hW9.alike hK, hD9⟩, hS.F ht9⟩) hS.2.2 dX5_takeSign_13
