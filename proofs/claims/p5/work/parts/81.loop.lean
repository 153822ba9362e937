theorem dL_law_23 : decode cL_law 23 = .ok (.iload 4, 2) := by decide +kernel
theorem dL_law_25 : decode cL_law 25 = .ok (.aload_n 0, 1) := by decide +kernel
theorem dL_law_26 : decode cL_law 26 = .ok (.arraylength, 1) := by decide +kernel
theorem dL_law_27 : decode cL_law 27 = .ok (.bipush 6, 2) := by decide +kernel
theorem dL_law_29 : decode cL_law 29 = .ok (.isub, 1) := by decide +kernel
theorem dL_law_30 : decode cL_law 30 = .ok (.if_icmp .gt 1354, 3) := by decide +kernel
theorem dL_law_1378 : decode cL_law 1378 = .ok (.iinc 4 6, 3) := by decide +kernel
theorem dL_law_1381 : decode cL_law 1381 = .ok (.goto (-1358), 3) := by decide +kernel
theorem dL_law_33 : decode cL_law 33 = .ok (.aload_n 0, 1) := by decide +kernel
theorem dL_law_34 : decode cL_law 34 = .ok (.iload 4, 2) := by decide +kernel
theorem dL_law_36 : decode cL_law 36 = .ok (.iaload, 1) := by decide +kernel
theorem dL_law_37 : decode cL_law 37 = .ok (.bipush 63, 2) := by decide +kernel
theorem dL_law_39 : decode cL_law 39 = .ok (.iand, 1) := by decide +kernel
theorem dL_law_40 : decode cL_law 40 = .ok (.tableswitch 1338 0 39 #[176, 249, 274, 287, 300, 337, 374, 414, 439, 488, 525, 574, 623, 648, 673, 686, 723, 736, 773, 798, 811, 848, 885, 898, 923, 936, 961, 1001, 1026, 1039, 1064, 1089, 1126, 1175, 1200, 1225, 1238, 1263, 1288, 1313], 176) := by decide +kernel
theorem sw_law (x : Int32) : (x.toInt < 0 ∨ 39 < x.toInt) ∨ x = nI 0 ∨ x = nI 1 ∨ x = nI 2 ∨ x = nI 3 ∨ x = nI 4 ∨ x = nI 5 ∨ x = nI 6 ∨ x = nI 7 ∨ x = nI 8 ∨ x = nI 9 ∨ x = nI 10 ∨ x = nI 11 ∨ x = nI 12 ∨ x = nI 13 ∨ x = nI 14 ∨ x = nI 15 ∨ x = nI 16 ∨ x = nI 17 ∨ x = nI 18 ∨ x = nI 19 ∨ x = nI 20 ∨ x = nI 21 ∨ x = nI 22 ∨ x = nI 23 ∨ x = nI 24 ∨ x = nI 25 ∨ x = nI 26 ∨ x = nI 27 ∨ x = nI 28 ∨ x = nI 29 ∨ x = nI 30 ∨ x = nI 31 ∨ x = nI 32 ∨ x = nI 33 ∨ x = nI 34 ∨ x = nI 35 ∨ x = nI 36 ∨ x = nI 37 ∨ x = nI 38 ∨ x = nI 39 := by
  have hk : ∀ k : Nat, k < 2000 → (nI k).toInt = (k : Int) := fun k hk => ia_n k (by omega)
  simp only [ia_eq]
  rw [hk 0 (by decide), hk 1 (by decide), hk 2 (by decide), hk 3 (by decide), hk 4 (by decide), hk 5 (by decide), hk 6 (by decide), hk 7 (by decide), hk 8 (by decide), hk 9 (by decide), hk 10 (by decide), hk 11 (by decide), hk 12 (by decide), hk 13 (by decide), hk 14 (by decide), hk 15 (by decide), hk 16 (by decide), hk 17 (by decide), hk 18 (by decide), hk 19 (by decide), hk 20 (by decide), hk 21 (by decide), hk 22 (by decide), hk 23 (by decide), hk 24 (by decide), hk 25 (by decide), hk 26 (by decide), hk 27 (by decide), hk 28 (by decide), hk 29 (by decide), hk 30 (by decide), hk 31 (by decide), hk 32 (by decide), hk 33 (by decide), hk 34 (by decide), hk 35 (by decide), hk 36 (by decide), hk 37 (by decide), hk 38 (by decide), hk 39 (by decide)]
  omega
set_option maxHeartbeats 8000000 in
set_option maxRecDepth 100000 in
theorem law_loop {p : Program} {l : Launch} {e : Env} {s : State} {m : MethodId} {args : Array Value} {below : List Frame} {meth : Method} {c : Code} {Q : State → Prop} {dC : Nat → ClassId} {dI : Nat → Nat → Nat} {ky : Nat → ClassId} {A : Nat → Prop} {adK adV : Nat → Nat} {b L : Nat} {xs : Nat → Int32} {t o out : Nat} (hx : p.tables.exec = Jvm.exec) (hb : c.code = cL_law) (hml : c.maxLocals = 7) (hown : s.vm.findClass RL = some m.cls) (hts : ∀ w ∈ lw_tbl, w.before args s = true) (hK : Kk dC dI ky s) (hA : ∀ q, s.heap.size ≤ q → A q) (hE : SEnv adK adV A s s.heap) (hst : l.stackTraces = false) (hTh : ThE s s.heap) (hAn : ∀ a, a < s.heap.size → ¬ A a) (hX : va_X b L xs s s.heap) (hbl : b < s.heap.size) (hbA : ¬ A b) (hL : L ≤ 3072) (kend : ∀ (H : Heap) (locs : List Loc) (ls : Array Slot) (cells slots : Nat), cells ≤ 600000 → slots ≤ 7000000 → va_S A s.heap H locs → W p l e room_1 s m args below meth c H locs cells slots Q (F0 m 1384 ls [])) : ∀ (n i : Nat) (H : Heap) (locs : List Loc) (ls : Array Slot) (cells slots : Nat), L - i < n → i ≤ L → cells + (L - i) ≤ 600000 → slots + (L - i) ≤ 7000000 → LI dC dI ky A t o out H → va_S A s.heap H locs → lv_has ls 7 [(4, .int (nI i)), (3, .ref out), (2, .ref o), (1, .ref t), (0, .ref b)] → W p l e room_1 s m args below meth c H locs cells slots Q (F0 m 23 ls []) := by
  intro n
  induction n with
  | zero => intro i H locs ls cells slots h9; exact absurd h9 (Nat.not_lt_zero _)
  | succ n ih =>
    intro i H locs ls cells slots hn hiL hc1 hc2 hLI hS hl
    refine lv_iload hx hb dL_law_23 (lv_at hl 0 rfl) ?_
    refine lv_aload_n hx hb dL_law_25 rfl (lv_at hl 4 rfl) ?_
    refine va_slen hx hb hX hbl hbA hS dL_law_26 ?_
    refine r_ti (nI L) rfl ?_
    refine lv_bipush (v := nI 6) hx hb dL_law_27 (by decide) ?_
    refine lv_isub hx hb dL_law_29 ?_
    have hsub := ia_sub L 6 (by omega) (by decide)
    have hii := ia_n i (by omega)
    refine lv_icmp_gt (tgt := 1384) hx hb dL_law_30 (by decide) (fun _ => kend H locs ls cells slots (by omega) (by omega) hS) (fun hle => ?_)
    have hi : i + 6 ≤ L := by
      rw [ia_lt] at hle
      have h9 : (nI L - nI 6).toInt = (L : Int) - 6 := hsub
      have h8 : ¬ (nI L - nI 6).toInt < (nI i).toInt := hle
      omega
    have hcap : cells + 1 ≤ room_1.cells ∧ slots + 6 ≤ room_1.slots := ⟨by show cells + 1 ≤ 601024; omega, by show slots + 6 ≤ 7293034; omega⟩
    have kx : ∀ (H : Heap) (locs : List Loc) (ls : Array Slot), LI dC dI ky A t o out H → va_S A s.heap H locs → lv_has ls 7 [(4, .int (nI i)), (3, .ref out), (2, .ref o), (1, .ref t), (0, .ref b)] → W p l e room_1 s m args below meth c H locs (cells + 1) (slots + 6) Q (F0 m 1378 ls []) := (fun H locs ls hLI hS hl => by
      refine lv_iinc (v := nI (i + 6)) (lv' := [(4, .int (nI (i + 6))), (3, .ref out), (2, .ref o), (1, .ref t), (0, .ref b)]) hx hb dL_law_1378 hl (k := 0) rfl (show nI i + nI 6 = nI (i + 6) from nI_add _ _) (by decide) rfl (fun ls hl => ?_)
      refine lv_goto (tgt := 23) hx hb dL_law_1381 (by decide) ?_
      exact ih (i + 6) H locs ls (cells + 1) (slots + 6) (by omega) (by omega) (by omega) (by omega) hLI hS hl)
    have hLI0 := hLI
    obtain ⟨tapeLength, z0, z1, kisKeptF, bt, hd, hw0, hw1, lf, w, wm, fo, hCI, hMI, hP, hD, hz0, hz1⟩ := hLI
    obtain ⟨reader, sea, spareSea, seaText, book, sentence, spareSentence, route, meeting, sighting, draws, history, images, chartBytes, im0, im1, ringF, imF, hnext, hkept, w_ps, w_rd, w_sea, w_spare, w_txt, w_book, w_sent, w_ssent, w_route, w_meet, w_sight, w_draws, w_hist, w_ring, w_chart, w_ima, w_im0, w_im1, rfl, q_ps, q_rd, q_sea, q_spare, q_txt, q_book, q_sent, q_ssent, q_route, q_meet, q_sight, q_draws, q_hist, q_ring, q_chart, q_ima, q_im0, q_im1, him0, him1⟩ := hCI
    obtain ⟨kthrown, ktape, ksize, klimit, kto, kfrom, kkind, knumber, ksign, kplace, kword, ktold, know, kread, kkept, ksnaps, kaside, kname, kreadName, kkeptName, kisKept, konces, ksnapMany, khasCells, kpoured, kfar, ksides, ksideMany, kwayDays, khasWay, klines, kmet, kmetMany, ksunk, ktrying, ksunkMany, ksending, kfleets, ktext, ktexts, kseed, kline, kwritten, klineMany, khasWritten, knode, knodes, konesMany, kwithin, ktop, ktapeF, knowF, kreadF, kkeptF, ksnapsF, kasideF, knameF, kreadNameF, kkeptNameF, koncesF, kpouredF, kfarF, ksidesF, klinesF, kmetF, ksunkF, ktryingF, ktextF, klineF, kwrittenF, knodeF, rfl, iv_ko_0, iv_ko_1, iv_ko_2, iv_ko_3, iv_ko_4, iv_ko_5, iv_ko_6, iv_ko_7, iv_ko_8, iv_ko_9, iv_ko_10, iv_ko_11, iv_ko_12, iv_ko_13, iv_ko_14, ab_now, ab_read, ab_snaps, ab_aside, ab_poured, ab_far, ab_sunk, ab_trying, ab_node, sb_now, hTM, qm, qk0, qk1, kb0, kb1⟩ := hMI
    refine lv_aload_n hx hb dL_law_33 rfl (lv_at hl 4 rfl) ?_
    refine lv_iload hx hb dL_law_34 (lv_at hl 0 rfl) ?_
    refine r_sld hx hb hX hbl hbA hS i (by omega) (by omega) (xs i) rfl dL_law_36 ?_
    refine lv_bipush (v := nI 63) hx hb dL_law_37 (by decide) ?_
    refine lv_iand hx hb dL_law_39 ?_
    refine lv_topi (fun y9 hy9 => ?_)
    rcases sw_law y9 with hsw | e0 | e1 | e2 | e3 | e4 | e5 | e6 | e7 | e8 | e9 | e10 | e11 | e12 | e13 | e14 | e15 | e16 | e17 | e18 | e19 | e20 | e21 | e22 | e23 | e24 | e25 | e26 | e27 | e28 | e29 | e30 | e31 | e32 | e33 | e34 | e35 | e36 | e37 | e38 | e39
    · refine lv_tableOut (tgt := 1378) hx hb dL_law_40 hsw (by decide) ?_
      refine W.widen (k := cells + 1) (n := slots + 6) (by omega) (by omega) ?_
      exact kx H locs ls hLI0 hS hl
    · refine r_ti (nI 0) e0 ?_
      refine lv_tableIn (off := 176) (tgt := 216) hx hb dL_law_40 (by decide) (by decide) rfl (by decide) ?_
      exact lc_feed hx hb hml hown hts hK hA hE hst hTh hAn hX hbl hbA hL hcap hi q_ps q_rd q_sea q_spare q_txt q_book q_sent q_ssent q_route q_meet q_sight q_draws q_hist q_ring q_chart q_ima q_im0 q_im1 him0 him1 iv_ko_0 iv_ko_1 iv_ko_2 iv_ko_3 iv_ko_4 iv_ko_5 iv_ko_6 iv_ko_7 iv_ko_8 iv_ko_9 iv_ko_10 iv_ko_11 iv_ko_12 iv_ko_13 iv_ko_14 ab_now ab_read ab_snaps ab_aside ab_poured ab_far ab_sunk ab_trying ab_node sb_now hTM qm qk0 qk1 kb0 kb1 hz0 hz1 hP hD hS hl kx
    · refine r_ti (nI 1) e1 ?_
      refine lv_tableIn (off := 249) (tgt := 289) hx hb dL_law_40 (by decide) (by decide) rfl (by decide) ?_
      exact lc_end hx hb hml hown hts hK hA hE hst hTh hAn hX hbl hbA hL hcap hi q_ps q_rd q_sea q_spare q_txt q_book q_sent q_ssent q_route q_meet q_sight q_draws q_hist q_ring q_chart q_ima q_im0 q_im1 him0 him1 iv_ko_0 iv_ko_1 iv_ko_2 iv_ko_3 iv_ko_4 iv_ko_5 iv_ko_6 iv_ko_7 iv_ko_8 iv_ko_9 iv_ko_10 iv_ko_11 iv_ko_12 iv_ko_13 iv_ko_14 ab_now ab_read ab_snaps ab_aside ab_poured ab_far ab_sunk ab_trying ab_node sb_now hTM qm qk0 qk1 kb0 kb1 hz0 hz1 hP hD hS hl kx
    · refine r_ti (nI 2) e2 ?_
      refine lv_tableIn (off := 274) (tgt := 314) hx hb dL_law_40 (by decide) (by decide) rfl (by decide) ?_
      exact lc_sea hx hb hml hown hts hK hA hE hst hTh hAn hX hbl hbA hL hcap hi q_ps q_rd q_sea q_spare q_txt q_book q_sent q_ssent q_route q_meet q_sight q_draws q_hist q_ring q_chart q_ima q_im0 q_im1 him0 him1 iv_ko_0 iv_ko_1 iv_ko_2 iv_ko_3 iv_ko_4 iv_ko_5 iv_ko_6 iv_ko_7 iv_ko_8 iv_ko_9 iv_ko_10 iv_ko_11 iv_ko_12 iv_ko_13 iv_ko_14 ab_now ab_read ab_snaps ab_aside ab_poured ab_far ab_sunk ab_trying ab_node sb_now hTM qm qk0 qk1 kb0 kb1 hz0 hz1 hP hD hS hl kx
    · refine r_ti (nI 3) e3 ?_
      refine lv_tableIn (off := 287) (tgt := 327) hx hb dL_law_40 (by decide) (by decide) rfl (by decide) ?_
      exact lc_fault hx hb hml hown hts hK hA hE hst hTh hAn hX hbl hbA hL hcap hi q_ps q_rd q_sea q_spare q_txt q_book q_sent q_ssent q_route q_meet q_sight q_draws q_hist q_ring q_chart q_ima q_im0 q_im1 him0 him1 iv_ko_0 iv_ko_1 iv_ko_2 iv_ko_3 iv_ko_4 iv_ko_5 iv_ko_6 iv_ko_7 iv_ko_8 iv_ko_9 iv_ko_10 iv_ko_11 iv_ko_12 iv_ko_13 iv_ko_14 ab_now ab_read ab_snaps ab_aside ab_poured ab_far ab_sunk ab_trying ab_node sb_now hTM qm qk0 qk1 kb0 kb1 hz0 hz1 hP hD hS hl kx
    · refine r_ti (nI 4) e4 ?_
      refine lv_tableIn (off := 300) (tgt := 340) hx hb dL_law_40 (by decide) (by decide) rfl (by decide) ?_
      exact lc_thick hx hb hml hown hts hK hA hE hst hTh hAn hX hbl hbA hL hcap hi q_ps q_rd q_sea q_spare q_txt q_book q_sent q_ssent q_route q_meet q_sight q_draws q_hist q_ring q_chart q_ima q_im0 q_im1 him0 him1 iv_ko_0 iv_ko_1 iv_ko_2 iv_ko_3 iv_ko_4 iv_ko_5 iv_ko_6 iv_ko_7 iv_ko_8 iv_ko_9 iv_ko_10 iv_ko_11 iv_ko_12 iv_ko_13 iv_ko_14 ab_now ab_read ab_snaps ab_aside ab_poured ab_far ab_sunk ab_trying ab_node sb_now hTM qm qk0 qk1 kb0 kb1 hz0 hz1 hP hD hS hl kx
    · refine r_ti (nI 5) e5 ?_
      refine lv_tableIn (off := 337) (tgt := 377) hx hb dL_law_40 (by decide) (by decide) rfl (by decide) ?_
      exact lc_lump hx hb hml hown hts hK hA hE hst hTh hAn hX hbl hbA hL hcap hi q_ps q_rd q_sea q_spare q_txt q_book q_sent q_ssent q_route q_meet q_sight q_draws q_hist q_ring q_chart q_ima q_im0 q_im1 him0 him1 iv_ko_0 iv_ko_1 iv_ko_2 iv_ko_3 iv_ko_4 iv_ko_5 iv_ko_6 iv_ko_7 iv_ko_8 iv_ko_9 iv_ko_10 iv_ko_11 iv_ko_12 iv_ko_13 iv_ko_14 ab_now ab_read ab_snaps ab_aside ab_poured ab_far ab_sunk ab_trying ab_node sb_now hTM qm qk0 qk1 kb0 kb1 hz0 hz1 hP hD hS hl kx
    · refine r_ti (nI 6) e6 ?_
      refine lv_tableIn (off := 374) (tgt := 414) hx hb dL_law_40 (by decide) (by decide) rfl (by decide) ?_
      exact lc_boat hx hb hml hown hts hK hA hE hst hTh hAn hX hbl hbA hL hcap hi q_ps q_rd q_sea q_spare q_txt q_book q_sent q_ssent q_route q_meet q_sight q_draws q_hist q_ring q_chart q_ima q_im0 q_im1 him0 him1 iv_ko_0 iv_ko_1 iv_ko_2 iv_ko_3 iv_ko_4 iv_ko_5 iv_ko_6 iv_ko_7 iv_ko_8 iv_ko_9 iv_ko_10 iv_ko_11 iv_ko_12 iv_ko_13 iv_ko_14 ab_now ab_read ab_snaps ab_aside ab_poured ab_far ab_sunk ab_trying ab_node sb_now hTM qm qk0 qk1 kb0 kb1 hz0 hz1 hP hD hS hl kx
    · refine r_ti (nI 7) e7 ?_
      refine lv_tableIn (off := 414) (tgt := 454) hx hb dL_law_40 (by decide) (by decide) rfl (by decide) ?_
      exact lc_now hx hb hml hown hts hK hA hE hst hTh hAn hX hbl hbA hL hcap hi q_ps q_rd q_sea q_spare q_txt q_book q_sent q_ssent q_route q_meet q_sight q_draws q_hist q_ring q_chart q_ima q_im0 q_im1 him0 him1 iv_ko_0 iv_ko_1 iv_ko_2 iv_ko_3 iv_ko_4 iv_ko_5 iv_ko_6 iv_ko_7 iv_ko_8 iv_ko_9 iv_ko_10 iv_ko_11 iv_ko_12 iv_ko_13 iv_ko_14 ab_now ab_read ab_snaps ab_aside ab_poured ab_far ab_sunk ab_trying ab_node sb_now hTM qm qk0 qk1 kb0 kb1 hz0 hz1 hP hD hS hl kx
    · refine r_ti (nI 8) e8 ?_
      refine lv_tableIn (off := 439) (tgt := 479) hx hb dL_law_40 (by decide) (by decide) rfl (by decide) ?_
      exact lc_stir hx hb hml hown hts hK hA hE hst hTh hAn hX hbl hbA hL hcap hi q_ps q_rd q_sea q_spare q_txt q_book q_sent q_ssent q_route q_meet q_sight q_draws q_hist q_ring q_chart q_ima q_im0 q_im1 him0 him1 iv_ko_0 iv_ko_1 iv_ko_2 iv_ko_3 iv_ko_4 iv_ko_5 iv_ko_6 iv_ko_7 iv_ko_8 iv_ko_9 iv_ko_10 iv_ko_11 iv_ko_12 iv_ko_13 iv_ko_14 ab_now ab_read ab_snaps ab_aside ab_poured ab_far ab_sunk ab_trying ab_node sb_now hTM qm qk0 qk1 kb0 kb1 hz0 hz1 hP hD hS hl kx
    · refine r_ti (nI 9) e9 ?_
      refine lv_tableIn (off := 488) (tgt := 528) hx hb dL_law_40 (by decide) (by decide) rfl (by decide) ?_
      exact lc_row hx hb hml hown hts hK hA hE hst hTh hAn hX hbl hbA hL hcap hi q_ps q_rd q_sea q_spare q_txt q_book q_sent q_ssent q_route q_meet q_sight q_draws q_hist q_ring q_chart q_ima q_im0 q_im1 him0 him1 iv_ko_0 iv_ko_1 iv_ko_2 iv_ko_3 iv_ko_4 iv_ko_5 iv_ko_6 iv_ko_7 iv_ko_8 iv_ko_9 iv_ko_10 iv_ko_11 iv_ko_12 iv_ko_13 iv_ko_14 ab_now ab_read ab_snaps ab_aside ab_poured ab_far ab_sunk ab_trying ab_node sb_now hTM qm qk0 qk1 kb0 kb1 hz0 hz1 hP hD hS hl kx
    · refine r_ti (nI 10) e10 ?_
      refine lv_tableIn (off := 525) (tgt := 565) hx hb dL_law_40 (by decide) (by decide) rfl (by decide) ?_
      exact lc_flour hx hb hml hown hts hK hA hE hst hTh hAn hX hbl hbA hL hcap hi q_ps q_rd q_sea q_spare q_txt q_book q_sent q_ssent q_route q_meet q_sight q_draws q_hist q_ring q_chart q_ima q_im0 q_im1 him0 him1 iv_ko_0 iv_ko_1 iv_ko_2 iv_ko_3 iv_ko_4 iv_ko_5 iv_ko_6 iv_ko_7 iv_ko_8 iv_ko_9 iv_ko_10 iv_ko_11 iv_ko_12 iv_ko_13 iv_ko_14 ab_now ab_read ab_snaps ab_aside ab_poured ab_far ab_sunk ab_trying ab_node sb_now hTM qm qk0 qk1 kb0 kb1 hz0 hz1 hP hD hS hl kx
    · refine r_ti (nI 11) e11 ?_
      refine lv_tableIn (off := 574) (tgt := 614) hx hb dL_law_40 (by decide) (by decide) rfl (by decide) ?_
      exact lc_milk hx hb hml hown hts hK hA hE hst hTh hAn hX hbl hbA hL hcap hi q_ps q_rd q_sea q_spare q_txt q_book q_sent q_ssent q_route q_meet q_sight q_draws q_hist q_ring q_chart q_ima q_im0 q_im1 him0 him1 iv_ko_0 iv_ko_1 iv_ko_2 iv_ko_3 iv_ko_4 iv_ko_5 iv_ko_6 iv_ko_7 iv_ko_8 iv_ko_9 iv_ko_10 iv_ko_11 iv_ko_12 iv_ko_13 iv_ko_14 ab_now ab_read ab_snaps ab_aside ab_poured ab_far ab_sunk ab_trying ab_node sb_now hTM qm qk0 qk1 kb0 kb1 hz0 hz1 hP hD hS hl kx
    · refine r_ti (nI 12) e12 ?_
      refine lv_tableIn (off := 623) (tgt := 663) hx hb dL_law_40 (by decide) (by decide) rfl (by decide) ?_
      exact lc_stove hx hb hml hown hts hK hA hE hst hTh hAn hX hbl hbA hL hcap hi q_ps q_rd q_sea q_spare q_txt q_book q_sent q_ssent q_route q_meet q_sight q_draws q_hist q_ring q_chart q_ima q_im0 q_im1 him0 him1 iv_ko_0 iv_ko_1 iv_ko_2 iv_ko_3 iv_ko_4 iv_ko_5 iv_ko_6 iv_ko_7 iv_ko_8 iv_ko_9 iv_ko_10 iv_ko_11 iv_ko_12 iv_ko_13 iv_ko_14 ab_now ab_read ab_snaps ab_aside ab_poured ab_far ab_sunk ab_trying ab_node sb_now hTM qm qk0 qk1 kb0 kb1 hz0 hz1 hP hD hS hl kx
    · refine r_ti (nI 13) e13 ?_
      refine lv_tableIn (off := 648) (tgt := 688) hx hb dL_law_40 (by decide) (by decide) rfl (by decide) ?_
      exact lc_days hx hb hml hown hts hK hA hE hst hTh hAn hX hbl hbA hL hcap hi q_ps q_rd q_sea q_spare q_txt q_book q_sent q_ssent q_route q_meet q_sight q_draws q_hist q_ring q_chart q_ima q_im0 q_im1 him0 him1 iv_ko_0 iv_ko_1 iv_ko_2 iv_ko_3 iv_ko_4 iv_ko_5 iv_ko_6 iv_ko_7 iv_ko_8 iv_ko_9 iv_ko_10 iv_ko_11 iv_ko_12 iv_ko_13 iv_ko_14 ab_now ab_read ab_snaps ab_aside ab_poured ab_far ab_sunk ab_trying ab_node sb_now hTM qm qk0 qk1 kb0 kb1 hz0 hz1 hP hD hS hl kx
    · refine r_ti (nI 14) e14 ?_
      refine lv_tableIn (off := 673) (tgt := 713) hx hb dL_law_40 (by decide) (by decide) rfl (by decide) ?_
      exact lc_undo hx hb hml hown hts hK hA hE hst hTh hAn hX hbl hbA hL hcap hi q_ps q_rd q_sea q_spare q_txt q_book q_sent q_ssent q_route q_meet q_sight q_draws q_hist q_ring q_chart q_ima q_im0 q_im1 him0 him1 iv_ko_0 iv_ko_1 iv_ko_2 iv_ko_3 iv_ko_4 iv_ko_5 iv_ko_6 iv_ko_7 iv_ko_8 iv_ko_9 iv_ko_10 iv_ko_11 iv_ko_12 iv_ko_13 iv_ko_14 ab_now ab_read ab_snaps ab_aside ab_poured ab_far ab_sunk ab_trying ab_node sb_now hTM qm qk0 qk1 kb0 kb1 hz0 hz1 hP hD hS hl kx
    · refine r_ti (nI 15) e15 ?_
      refine lv_tableIn (off := 686) (tgt := 726) hx hb dL_law_40 (by decide) (by decide) rfl (by decide) ?_
      exact lc_cost hx hb hml hown hts hK hA hE hst hTh hAn hX hbl hbA hL hcap hi q_ps q_rd q_sea q_spare q_txt q_book q_sent q_ssent q_route q_meet q_sight q_draws q_hist q_ring q_chart q_ima q_im0 q_im1 him0 him1 iv_ko_0 iv_ko_1 iv_ko_2 iv_ko_3 iv_ko_4 iv_ko_5 iv_ko_6 iv_ko_7 iv_ko_8 iv_ko_9 iv_ko_10 iv_ko_11 iv_ko_12 iv_ko_13 iv_ko_14 ab_now ab_read ab_snaps ab_aside ab_poured ab_far ab_sunk ab_trying ab_node sb_now hTM qm qk0 qk1 kb0 kb1 hz0 hz1 hP hD hS hl kx
    · refine r_ti (nI 16) e16 ?_
      refine lv_tableIn (off := 723) (tgt := 763) hx hb dL_law_40 (by decide) (by decide) rfl (by decide) ?_
      exact lc_skin hx hb hml hown hts hK hA hE hst hTh hAn hX hbl hbA hL hcap hi q_ps q_rd q_sea q_spare q_txt q_book q_sent q_ssent q_route q_meet q_sight q_draws q_hist q_ring q_chart q_ima q_im0 q_im1 him0 him1 iv_ko_0 iv_ko_1 iv_ko_2 iv_ko_3 iv_ko_4 iv_ko_5 iv_ko_6 iv_ko_7 iv_ko_8 iv_ko_9 iv_ko_10 iv_ko_11 iv_ko_12 iv_ko_13 iv_ko_14 ab_now ab_read ab_snaps ab_aside ab_poured ab_far ab_sunk ab_trying ab_node sb_now hTM qm qk0 qk1 kb0 kb1 hz0 hz1 hP hD hS hl kx
    · refine r_ti (nI 17) e17 ?_
      refine lv_tableIn (off := 736) (tgt := 776) hx hb dL_law_40 (by decide) (by decide) rfl (by decide) ?_
      exact lc_way hx hb hml hown hts hK hA hE hst hTh hAn hX hbl hbA hL hcap hi q_ps q_rd q_sea q_spare q_txt q_book q_sent q_ssent q_route q_meet q_sight q_draws q_hist q_ring q_chart q_ima q_im0 q_im1 him0 him1 iv_ko_0 iv_ko_1 iv_ko_2 iv_ko_3 iv_ko_4 iv_ko_5 iv_ko_6 iv_ko_7 iv_ko_8 iv_ko_9 iv_ko_10 iv_ko_11 iv_ko_12 iv_ko_13 iv_ko_14 ab_now ab_read ab_snaps ab_aside ab_poured ab_far ab_sunk ab_trying ab_node sb_now hTM qm qk0 qk1 kb0 kb1 hz0 hz1 hP hD hS hl kx
    · refine r_ti (nI 18) e18 ?_
      refine lv_tableIn (off := 773) (tgt := 813) hx hb dL_law_40 (by decide) (by decide) rfl (by decide) ?_
      exact lc_wayAt hx hb hml hown hts hK hA hE hst hTh hAn hX hbl hbA hL hcap hi q_ps q_rd q_sea q_spare q_txt q_book q_sent q_ssent q_route q_meet q_sight q_draws q_hist q_ring q_chart q_ima q_im0 q_im1 him0 him1 iv_ko_0 iv_ko_1 iv_ko_2 iv_ko_3 iv_ko_4 iv_ko_5 iv_ko_6 iv_ko_7 iv_ko_8 iv_ko_9 iv_ko_10 iv_ko_11 iv_ko_12 iv_ko_13 iv_ko_14 ab_now ab_read ab_snaps ab_aside ab_poured ab_far ab_sunk ab_trying ab_node sb_now hTM qm qk0 qk1 kb0 kb1 hz0 hz1 hP hD hS hl kx
    · refine r_ti (nI 19) e19 ?_
      refine lv_tableIn (off := 798) (tgt := 838) hx hb dL_law_40 (by decide) (by decide) rfl (by decide) ?_
      exact lc_wayDays hx hb hml hown hts hK hA hE hst hTh hAn hX hbl hbA hL hcap hi q_ps q_rd q_sea q_spare q_txt q_book q_sent q_ssent q_route q_meet q_sight q_draws q_hist q_ring q_chart q_ima q_im0 q_im1 him0 him1 iv_ko_0 iv_ko_1 iv_ko_2 iv_ko_3 iv_ko_4 iv_ko_5 iv_ko_6 iv_ko_7 iv_ko_8 iv_ko_9 iv_ko_10 iv_ko_11 iv_ko_12 iv_ko_13 iv_ko_14 ab_now ab_read ab_snaps ab_aside ab_poured ab_far ab_sunk ab_trying ab_node sb_now hTM qm qk0 qk1 kb0 kb1 hz0 hz1 hP hD hS hl kx
    · refine r_ti (nI 20) e20 ?_
      refine lv_tableIn (off := 811) (tgt := 851) hx hb dL_law_40 (by decide) (by decide) rfl (by decide) ?_
      exact lc_meet hx hb hml hown hts hK hA hE hst hTh hAn hX hbl hbA hL hcap hi q_ps q_rd q_sea q_spare q_txt q_book q_sent q_ssent q_route q_meet q_sight q_draws q_hist q_ring q_chart q_ima q_im0 q_im1 him0 him1 iv_ko_0 iv_ko_1 iv_ko_2 iv_ko_3 iv_ko_4 iv_ko_5 iv_ko_6 iv_ko_7 iv_ko_8 iv_ko_9 iv_ko_10 iv_ko_11 iv_ko_12 iv_ko_13 iv_ko_14 ab_now ab_read ab_snaps ab_aside ab_poured ab_far ab_sunk ab_trying ab_node sb_now hTM qm qk0 qk1 kb0 kb1 hz0 hz1 hP hD hS hl kx
    · refine r_ti (nI 21) e21 ?_
      refine lv_tableIn (off := 848) (tgt := 888) hx hb dL_law_40 (by decide) (by decide) rfl (by decide) ?_
      exact lc_meetAt hx hb hml hown hts hK hA hE hst hTh hAn hX hbl hbA hL hcap hi q_ps q_rd q_sea q_spare q_txt q_book q_sent q_ssent q_route q_meet q_sight q_draws q_hist q_ring q_chart q_ima q_im0 q_im1 him0 him1 iv_ko_0 iv_ko_1 iv_ko_2 iv_ko_3 iv_ko_4 iv_ko_5 iv_ko_6 iv_ko_7 iv_ko_8 iv_ko_9 iv_ko_10 iv_ko_11 iv_ko_12 iv_ko_13 iv_ko_14 ab_now ab_read ab_snaps ab_aside ab_poured ab_far ab_sunk ab_trying ab_node sb_now hTM qm qk0 qk1 kb0 kb1 hz0 hz1 hP hD hS hl kx
    · refine r_ti (nI 22) e22 ?_
      refine lv_tableIn (off := 885) (tgt := 925) hx hb dL_law_40 (by decide) (by decide) rfl (by decide) ?_
      exact lc_sunk hx hb hml hown hts hK hA hE hst hTh hAn hX hbl hbA hL hcap hi q_ps q_rd q_sea q_spare q_txt q_book q_sent q_ssent q_route q_meet q_sight q_draws q_hist q_ring q_chart q_ima q_im0 q_im1 him0 him1 iv_ko_0 iv_ko_1 iv_ko_2 iv_ko_3 iv_ko_4 iv_ko_5 iv_ko_6 iv_ko_7 iv_ko_8 iv_ko_9 iv_ko_10 iv_ko_11 iv_ko_12 iv_ko_13 iv_ko_14 ab_now ab_read ab_snaps ab_aside ab_poured ab_far ab_sunk ab_trying ab_node sb_now hTM qm qk0 qk1 kb0 kb1 hz0 hz1 hP hD hS hl kx
    · refine r_ti (nI 23) e23 ?_
      refine lv_tableIn (off := 898) (tgt := 938) hx hb dL_law_40 (by decide) (by decide) rfl (by decide) ?_
      exact lc_sunkAt hx hb hml hown hts hK hA hE hst hTh hAn hX hbl hbA hL hcap hi q_ps q_rd q_sea q_spare q_txt q_book q_sent q_ssent q_route q_meet q_sight q_draws q_hist q_ring q_chart q_ima q_im0 q_im1 him0 him1 iv_ko_0 iv_ko_1 iv_ko_2 iv_ko_3 iv_ko_4 iv_ko_5 iv_ko_6 iv_ko_7 iv_ko_8 iv_ko_9 iv_ko_10 iv_ko_11 iv_ko_12 iv_ko_13 iv_ko_14 ab_now ab_read ab_snaps ab_aside ab_poured ab_far ab_sunk ab_trying ab_node sb_now hTM qm qk0 qk1 kb0 kb1 hz0 hz1 hP hD hS hl kx
    · refine r_ti (nI 24) e24 ?_
      refine lv_tableIn (off := 923) (tgt := 963) hx hb dL_law_40 (by decide) (by decide) rfl (by decide) ?_
      exact lc_send hx hb hml hown hts hK hA hE hst hTh hAn hX hbl hbA hL hcap hi q_ps q_rd q_sea q_spare q_txt q_book q_sent q_ssent q_route q_meet q_sight q_draws q_hist q_ring q_chart q_ima q_im0 q_im1 him0 him1 iv_ko_0 iv_ko_1 iv_ko_2 iv_ko_3 iv_ko_4 iv_ko_5 iv_ko_6 iv_ko_7 iv_ko_8 iv_ko_9 iv_ko_10 iv_ko_11 iv_ko_12 iv_ko_13 iv_ko_14 ab_now ab_read ab_snaps ab_aside ab_poured ab_far ab_sunk ab_trying ab_node sb_now hTM qm qk0 qk1 kb0 kb1 hz0 hz1 hP hD hS hl kx
    · refine r_ti (nI 25) e25 ?_
      refine lv_tableIn (off := 936) (tgt := 976) hx hb dL_law_40 (by decide) (by decide) rfl (by decide) ?_
      exact lc_land hx hb hml hown hts hK hA hE hst hTh hAn hX hbl hbA hL hcap hi q_ps q_rd q_sea q_spare q_txt q_book q_sent q_ssent q_route q_meet q_sight q_draws q_hist q_ring q_chart q_ima q_im0 q_im1 him0 him1 iv_ko_0 iv_ko_1 iv_ko_2 iv_ko_3 iv_ko_4 iv_ko_5 iv_ko_6 iv_ko_7 iv_ko_8 iv_ko_9 iv_ko_10 iv_ko_11 iv_ko_12 iv_ko_13 iv_ko_14 ab_now ab_read ab_snaps ab_aside ab_poured ab_far ab_sunk ab_trying ab_node sb_now hTM qm qk0 qk1 kb0 kb1 hz0 hz1 hP hD hS hl kx
    · refine r_ti (nI 26) e26 ?_
      refine lv_tableIn (off := 961) (tgt := 1001) hx hb dL_law_40 (by decide) (by decide) rfl (by decide) ?_
      exact lc_mean hx hb hml hown hts hK hA hE hst hTh hAn hX hbl hbA hL hcap hi q_ps q_rd q_sea q_spare q_txt q_book q_sent q_ssent q_route q_meet q_sight q_draws q_hist q_ring q_chart q_ima q_im0 q_im1 him0 him1 iv_ko_0 iv_ko_1 iv_ko_2 iv_ko_3 iv_ko_4 iv_ko_5 iv_ko_6 iv_ko_7 iv_ko_8 iv_ko_9 iv_ko_10 iv_ko_11 iv_ko_12 iv_ko_13 iv_ko_14 ab_now ab_read ab_snaps ab_aside ab_poured ab_far ab_sunk ab_trying ab_node sb_now hTM qm qk0 qk1 kb0 kb1 hz0 hz1 hP hD hS hl kx
    · refine r_ti (nI 27) e27 ?_
      refine lv_tableIn (off := 1001) (tgt := 1041) hx hb dL_law_40 (by decide) (by decide) rfl (by decide) ?_
      exact lc_fleet hx hb hml hown hts hK hA hE hst hTh hAn hX hbl hbA hL hcap hi q_ps q_rd q_sea q_spare q_txt q_book q_sent q_ssent q_route q_meet q_sight q_draws q_hist q_ring q_chart q_ima q_im0 q_im1 him0 him1 iv_ko_0 iv_ko_1 iv_ko_2 iv_ko_3 iv_ko_4 iv_ko_5 iv_ko_6 iv_ko_7 iv_ko_8 iv_ko_9 iv_ko_10 iv_ko_11 iv_ko_12 iv_ko_13 iv_ko_14 ab_now ab_read ab_snaps ab_aside ab_poured ab_far ab_sunk ab_trying ab_node sb_now hTM qm qk0 qk1 kb0 kb1 hz0 hz1 hP hD hS hl kx
    · refine r_ti (nI 28) e28 ?_
      refine lv_tableIn (off := 1026) (tgt := 1066) hx hb dL_law_40 (by decide) (by decide) rfl (by decide) ?_
      exact lc_fleets hx hb hml hown hts hK hA hE hst hTh hAn hX hbl hbA hL hcap hi q_ps q_rd q_sea q_spare q_txt q_book q_sent q_ssent q_route q_meet q_sight q_draws q_hist q_ring q_chart q_ima q_im0 q_im1 him0 him1 iv_ko_0 iv_ko_1 iv_ko_2 iv_ko_3 iv_ko_4 iv_ko_5 iv_ko_6 iv_ko_7 iv_ko_8 iv_ko_9 iv_ko_10 iv_ko_11 iv_ko_12 iv_ko_13 iv_ko_14 ab_now ab_read ab_snaps ab_aside ab_poured ab_far ab_sunk ab_trying ab_node sb_now hTM qm qk0 qk1 kb0 kb1 hz0 hz1 hP hD hS hl kx
    · refine r_ti (nI 29) e29 ?_
      refine lv_tableIn (off := 1039) (tgt := 1079) hx hb dL_law_40 (by decide) (by decide) rfl (by decide) ?_
      exact lc_chart hx hb hml hown hts hK hA hE hst hTh hAn hX hbl hbA hL hcap hi q_ps q_rd q_sea q_spare q_txt q_book q_sent q_ssent q_route q_meet q_sight q_draws q_hist q_ring q_chart q_ima q_im0 q_im1 him0 him1 iv_ko_0 iv_ko_1 iv_ko_2 iv_ko_3 iv_ko_4 iv_ko_5 iv_ko_6 iv_ko_7 iv_ko_8 iv_ko_9 iv_ko_10 iv_ko_11 iv_ko_12 iv_ko_13 iv_ko_14 ab_now ab_read ab_snaps ab_aside ab_poured ab_far ab_sunk ab_trying ab_node sb_now hTM qm qk0 qk1 kb0 kb1 hz0 hz1 hP hD hS hl kx
    · refine r_ti (nI 30) e30 ?_
      refine lv_tableIn (off := 1064) (tgt := 1104) hx hb dL_law_40 (by decide) (by decide) rfl (by decide) ?_
      exact lc_byteAt hx hb hml hown hts hK hA hE hst hTh hAn hX hbl hbA hL hcap hi q_ps q_rd q_sea q_spare q_txt q_book q_sent q_ssent q_route q_meet q_sight q_draws q_hist q_ring q_chart q_ima q_im0 q_im1 him0 him1 iv_ko_0 iv_ko_1 iv_ko_2 iv_ko_3 iv_ko_4 iv_ko_5 iv_ko_6 iv_ko_7 iv_ko_8 iv_ko_9 iv_ko_10 iv_ko_11 iv_ko_12 iv_ko_13 iv_ko_14 ab_now ab_read ab_snaps ab_aside ab_poured ab_far ab_sunk ab_trying ab_node sb_now hTM qm qk0 qk1 kb0 kb1 hz0 hz1 hP hD hS hl kx
    · refine r_ti (nI 31) e31 ?_
      refine lv_tableIn (off := 1089) (tgt := 1129) hx hb dL_law_40 (by decide) (by decide) rfl (by decide) ?_
      exact lc_drawn hx hb hml hown hts hK hA hE hst hTh hAn hX hbl hbA hL hcap hi q_ps q_rd q_sea q_spare q_txt q_book q_sent q_ssent q_route q_meet q_sight q_draws q_hist q_ring q_chart q_ima q_im0 q_im1 him0 him1 iv_ko_0 iv_ko_1 iv_ko_2 iv_ko_3 iv_ko_4 iv_ko_5 iv_ko_6 iv_ko_7 iv_ko_8 iv_ko_9 iv_ko_10 iv_ko_11 iv_ko_12 iv_ko_13 iv_ko_14 ab_now ab_read ab_snaps ab_aside ab_poured ab_far ab_sunk ab_trying ab_node sb_now hTM qm qk0 qk1 kb0 kb1 hz0 hz1 hP hD hS hl kx
    · refine r_ti (nI 32) e32 ?_
      refine lv_tableIn (off := 1126) (tgt := 1166) hx hb dL_law_40 (by decide) (by decide) rfl (by decide) ?_
      exact lc_odds hx hb hml hown hts hK hA hE hst hTh hAn hX hbl hbA hL hcap hi q_ps q_rd q_sea q_spare q_txt q_book q_sent q_ssent q_route q_meet q_sight q_draws q_hist q_ring q_chart q_ima q_im0 q_im1 him0 him1 iv_ko_0 iv_ko_1 iv_ko_2 iv_ko_3 iv_ko_4 iv_ko_5 iv_ko_6 iv_ko_7 iv_ko_8 iv_ko_9 iv_ko_10 iv_ko_11 iv_ko_12 iv_ko_13 iv_ko_14 ab_now ab_read ab_snaps ab_aside ab_poured ab_far ab_sunk ab_trying ab_node sb_now hTM qm qk0 qk1 kb0 kb1 hz0 hz1 hP hD hS hl kx
    · refine r_ti (nI 33) e33 ?_
      refine lv_tableIn (off := 1175) (tgt := 1215) hx hb dL_law_40 (by decide) (by decide) rfl (by decide) ?_
      exact lc_book hx hb hml hown hts hK hA hE hst hTh hAn hX hbl hbA hL hcap hi q_ps q_rd q_sea q_spare q_txt q_book q_sent q_ssent q_route q_meet q_sight q_draws q_hist q_ring q_chart q_ima q_im0 q_im1 him0 him1 iv_ko_0 iv_ko_1 iv_ko_2 iv_ko_3 iv_ko_4 iv_ko_5 iv_ko_6 iv_ko_7 iv_ko_8 iv_ko_9 iv_ko_10 iv_ko_11 iv_ko_12 iv_ko_13 iv_ko_14 ab_now ab_read ab_snaps ab_aside ab_poured ab_far ab_sunk ab_trying ab_node sb_now hTM qm qk0 qk1 kb0 kb1 hz0 hz1 hP hD hS hl kx
    · refine r_ti (nI 34) e34 ?_
      refine lv_tableIn (off := 1200) (tgt := 1240) hx hb dL_law_40 (by decide) (by decide) rfl (by decide) ?_
      exact lc_told hx hb hml hown hts hK hA hE hst hTh hAn hX hbl hbA hL hcap hi q_ps q_rd q_sea q_spare q_txt q_book q_sent q_ssent q_route q_meet q_sight q_draws q_hist q_ring q_chart q_ima q_im0 q_im1 him0 him1 iv_ko_0 iv_ko_1 iv_ko_2 iv_ko_3 iv_ko_4 iv_ko_5 iv_ko_6 iv_ko_7 iv_ko_8 iv_ko_9 iv_ko_10 iv_ko_11 iv_ko_12 iv_ko_13 iv_ko_14 ab_now ab_read ab_snaps ab_aside ab_poured ab_far ab_sunk ab_trying ab_node sb_now hTM qm qk0 qk1 kb0 kb1 hz0 hz1 hP hD hS hl kx
    · refine r_ti (nI 35) e35 ?_
      refine lv_tableIn (off := 1225) (tgt := 1265) hx hb dL_law_40 (by decide) (by decide) rfl (by decide) ?_
      exact lc_sentence hx hb hml hown hts hK hA hE hst hTh hAn hX hbl hbA hL hcap hi q_ps q_rd q_sea q_spare q_txt q_book q_sent q_ssent q_route q_meet q_sight q_draws q_hist q_ring q_chart q_ima q_im0 q_im1 him0 him1 iv_ko_0 iv_ko_1 iv_ko_2 iv_ko_3 iv_ko_4 iv_ko_5 iv_ko_6 iv_ko_7 iv_ko_8 iv_ko_9 iv_ko_10 iv_ko_11 iv_ko_12 iv_ko_13 iv_ko_14 ab_now ab_read ab_snaps ab_aside ab_poured ab_far ab_sunk ab_trying ab_node sb_now hTM qm qk0 qk1 kb0 kb1 hz0 hz1 hP hD hS hl kx
    · refine r_ti (nI 36) e36 ?_
      refine lv_tableIn (off := 1238) (tgt := 1278) hx hb dL_law_40 (by decide) (by decide) rfl (by decide) ?_
      exact lc_said hx hb hml hown hts hK hA hE hst hTh hAn hX hbl hbA hL hcap hi q_ps q_rd q_sea q_spare q_txt q_book q_sent q_ssent q_route q_meet q_sight q_draws q_hist q_ring q_chart q_ima q_im0 q_im1 him0 him1 iv_ko_0 iv_ko_1 iv_ko_2 iv_ko_3 iv_ko_4 iv_ko_5 iv_ko_6 iv_ko_7 iv_ko_8 iv_ko_9 iv_ko_10 iv_ko_11 iv_ko_12 iv_ko_13 iv_ko_14 ab_now ab_read ab_snaps ab_aside ab_poured ab_far ab_sunk ab_trying ab_node sb_now hTM qm qk0 qk1 kb0 kb1 hz0 hz1 hP hD hS hl kx
    · refine r_ti (nI 37) e37 ?_
      refine lv_tableIn (off := 1263) (tgt := 1303) hx hb dL_law_40 (by decide) (by decide) rfl (by decide) ?_
      exact lc_image hx hb hml hown hts hK hA hE hst hTh hAn hX hbl hbA hL hcap hi q_ps q_rd q_sea q_spare q_txt q_book q_sent q_ssent q_route q_meet q_sight q_draws q_hist q_ring q_chart q_ima q_im0 q_im1 him0 him1 iv_ko_0 iv_ko_1 iv_ko_2 iv_ko_3 iv_ko_4 iv_ko_5 iv_ko_6 iv_ko_7 iv_ko_8 iv_ko_9 iv_ko_10 iv_ko_11 iv_ko_12 iv_ko_13 iv_ko_14 ab_now ab_read ab_snaps ab_aside ab_poured ab_far ab_sunk ab_trying ab_node sb_now hTM qm qk0 qk1 kb0 kb1 hz0 hz1 hP hD hS hl kx
    · refine r_ti (nI 38) e38 ?_
      refine lv_tableIn (off := 1288) (tgt := 1328) hx hb dL_law_40 (by decide) (by decide) rfl (by decide) ?_
      exact lc_restore hx hb hml hown hts hK hA hE hst hTh hAn hX hbl hbA hL hcap hi q_ps q_rd q_sea q_spare q_txt q_book q_sent q_ssent q_route q_meet q_sight q_draws q_hist q_ring q_chart q_ima q_im0 q_im1 him0 him1 iv_ko_0 iv_ko_1 iv_ko_2 iv_ko_3 iv_ko_4 iv_ko_5 iv_ko_6 iv_ko_7 iv_ko_8 iv_ko_9 iv_ko_10 iv_ko_11 iv_ko_12 iv_ko_13 iv_ko_14 ab_now ab_read ab_snaps ab_aside ab_poured ab_far ab_sunk ab_trying ab_node sb_now hTM qm qk0 qk1 kb0 kb1 hz0 hz1 hP hD hS hl kx
    · refine r_ti (nI 39) e39 ?_
      refine lv_tableIn (off := 1313) (tgt := 1353) hx hb dL_law_40 (by decide) (by decide) rfl (by decide) ?_
      exact lc_count hx hb hml hown hts hK hA hE hst hTh hAn hX hbl hbA hL hcap hi q_ps q_rd q_sea q_spare q_txt q_book q_sent q_ssent q_route q_meet q_sight q_draws q_hist q_ring q_chart q_ima q_im0 q_im1 him0 him1 iv_ko_0 iv_ko_1 iv_ko_2 iv_ko_3 iv_ko_4 iv_ko_5 iv_ko_6 iv_ko_7 iv_ko_8 iv_ko_9 iv_ko_10 iv_ko_11 iv_ko_12 iv_ko_13 iv_ko_14 ab_now ab_read ab_snaps ab_aside ab_poured ab_far ab_sunk ab_trying ab_node sb_now hTM qm qk0 qk1 kb0 kb1 hz0 hz1 hP hD hS hl kx
