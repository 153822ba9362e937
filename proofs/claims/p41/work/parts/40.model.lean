theorem dX12_startRead_0 : decode cX12_startRead 0 = .ok (.iconst 0, 1) := by decide +kernel
theorem dX12_startRead_1 : decode cX12_startRead 1 = .ok (.istore_n 1, 1) := by decide +kernel
theorem dX12_startRead_2 : decode cX12_startRead 2 = .ok (.iload_n 1, 1) := by decide +kernel
theorem dX12_startRead_3 : decode cX12_startRead 3 = .ok (.bipush 67, 2) := by decide +kernel
theorem dX12_startRead_5 : decode cX12_startRead 5 = .ok (.if_icmp .ge 16, 3) := by decide +kernel
theorem dX12_startRead_8 : decode cX12_startRead 8 = .ok (.aload_n 0, 1) := by decide +kernel
theorem dX12_startRead_9 : decode cX12_startRead 9 = .ok (.getfield 101, 3) := by decide +kernel
theorem dX12_startRead_12 : decode cX12_startRead 12 = .ok (.iload_n 1, 1) := by decide +kernel
theorem dX12_startRead_13 : decode cX12_startRead 13 = .ok (.iconst 0, 1) := by decide +kernel
theorem dX12_startRead_14 : decode cX12_startRead 14 = .ok (.iastore, 1) := by decide +kernel
theorem dX12_startRead_15 : decode cX12_startRead 15 = .ok (.iinc 1 1, 3) := by decide +kernel
theorem dX12_startRead_18 : decode cX12_startRead 18 = .ok (.goto (-16), 3) := by decide +kernel
theorem dX12_startRead_21 : decode cX12_startRead 21 = .ok (.iconst 0, 1) := by decide +kernel
theorem dX12_startRead_22 : decode cX12_startRead 22 = .ok (.istore_n 1, 1) := by decide +kernel
theorem dX12_startRead_23 : decode cX12_startRead 23 = .ok (.iload_n 1, 1) := by decide +kernel
theorem dX12_startRead_24 : decode cX12_startRead 24 = .ok (.iconst 4, 1) := by decide +kernel
theorem dX12_startRead_25 : decode cX12_startRead 25 = .ok (.if_icmp .ge 16, 3) := by decide +kernel
theorem dX12_startRead_28 : decode cX12_startRead 28 = .ok (.aload_n 0, 1) := by decide +kernel
theorem dX12_startRead_29 : decode cX12_startRead 29 = .ok (.getfield 127, 3) := by decide +kernel
theorem dX12_startRead_32 : decode cX12_startRead 32 = .ok (.iload_n 1, 1) := by decide +kernel
theorem dX12_startRead_33 : decode cX12_startRead 33 = .ok (.iconst 0, 1) := by decide +kernel
theorem dX12_startRead_34 : decode cX12_startRead 34 = .ok (.bastore, 1) := by decide +kernel
theorem dX12_startRead_35 : decode cX12_startRead 35 = .ok (.iinc 1 1, 3) := by decide +kernel
theorem dX12_startRead_38 : decode cX12_startRead 38 = .ok (.goto (-15), 3) := by decide +kernel
theorem dX12_startRead_41 : decode cX12_startRead 41 = .ok (.aload_n 0, 1) := by decide +kernel
theorem dX12_startRead_42 : decode cX12_startRead 42 = .ok (.getfield 101, 3) := by decide +kernel
theorem dX12_startRead_45 : decode cX12_startRead 45 = .ok (.iconst 0, 1) := by decide +kernel
theorem dX12_startRead_46 : decode cX12_startRead 46 = .ok (.iconst 4, 1) := by decide +kernel
theorem dX12_startRead_47 : decode cX12_startRead 47 = .ok (.iastore, 1) := by decide +kernel
theorem dX12_startRead_48 : decode cX12_startRead 48 = .ok (.aload_n 0, 1) := by decide +kernel
theorem dX12_startRead_49 : decode cX12_startRead 49 = .ok (.getfield 101, 3) := by decide +kernel
theorem dX12_startRead_52 : decode cX12_startRead 52 = .ok (.iconst 1, 1) := by decide +kernel
theorem dX12_startRead_53 : decode cX12_startRead 53 = .ok (.iconst 4, 1) := by decide +kernel
theorem dX12_startRead_54 : decode cX12_startRead 54 = .ok (.iastore, 1) := by decide +kernel
theorem dX12_startRead_55 : decode cX12_startRead 55 = .ok (.aload_n 0, 1) := by decide +kernel
theorem dX12_startRead_56 : decode cX12_startRead 56 = .ok (.getfield 101, 3) := by decide +kernel
theorem dX12_startRead_59 : decode cX12_startRead 59 = .ok (.iconst 4, 1) := by decide +kernel
theorem dX12_startRead_60 : decode cX12_startRead 60 = .ok (.bipush 10, 2) := by decide +kernel
theorem dX12_startRead_62 : decode cX12_startRead 62 = .ok (.iastore, 1) := by decide +kernel
theorem dX12_startRead_63 : decode cX12_startRead 63 = .ok (.aload_n 0, 1) := by decide +kernel
theorem dX12_startRead_64 : decode cX12_startRead 64 = .ok (.getfield 101, 3) := by decide +kernel
theorem dX12_startRead_67 : decode cX12_startRead 67 = .ok (.iconst 5, 1) := by decide +kernel
theorem dX12_startRead_68 : decode cX12_startRead 68 = .ok (.iconst 1, 1) := by decide +kernel
theorem dX12_startRead_69 : decode cX12_startRead 69 = .ok (.iastore, 1) := by decide +kernel
theorem dX12_startRead_70 : decode cX12_startRead 70 = .ok (.aload_n 0, 1) := by decide +kernel
theorem dX12_startRead_71 : decode cX12_startRead 71 = .ok (.getfield 101, 3) := by decide +kernel
theorem dX12_startRead_74 : decode cX12_startRead 74 = .ok (.bipush 6, 2) := by decide +kernel
theorem dX12_startRead_76 : decode cX12_startRead 76 = .ok (.iconst 3, 1) := by decide +kernel
theorem dX12_startRead_77 : decode cX12_startRead 77 = .ok (.iastore, 1) := by decide +kernel
theorem dX12_startRead_78 : decode cX12_startRead 78 = .ok (.return_, 1) := by decide +kernel
theorem dX12_startSo_0 : decode cX12_startSo 0 = .ok (.bipush 67, 2) := by decide +kernel
theorem dX12_startSo_2 : decode cX12_startSo 2 = .ok (.istore_n 1, 1) := by decide +kernel
theorem dX12_startSo_3 : decode cX12_startSo 3 = .ok (.iload_n 1, 1) := by decide +kernel
theorem dX12_startSo_4 : decode cX12_startSo 4 = .ok (.sipush 373, 3) := by decide +kernel
theorem dX12_startSo_7 : decode cX12_startSo 7 = .ok (.if_icmp .ge 16, 3) := by decide +kernel
theorem dX12_startSo_10 : decode cX12_startSo 10 = .ok (.aload_n 0, 1) := by decide +kernel
theorem dX12_startSo_11 : decode cX12_startSo 11 = .ok (.getfield 98, 3) := by decide +kernel
theorem dX12_startSo_14 : decode cX12_startSo 14 = .ok (.iload_n 1, 1) := by decide +kernel
theorem dX12_startSo_15 : decode cX12_startSo 15 = .ok (.iconst 0, 1) := by decide +kernel
theorem dX12_startSo_16 : decode cX12_startSo 16 = .ok (.iastore, 1) := by decide +kernel
theorem dX12_startSo_17 : decode cX12_startSo 17 = .ok (.iinc 1 1, 3) := by decide +kernel
theorem dX12_startSo_20 : decode cX12_startSo 20 = .ok (.goto (-17), 3) := by decide +kernel
theorem dX12_startSo_23 : decode cX12_startSo 23 = .ok (.aload_n 0, 1) := by decide +kernel
theorem dX12_startSo_24 : decode cX12_startSo 24 = .ok (.getfield 98, 3) := by decide +kernel
theorem dX12_startSo_27 : decode cX12_startSo 27 = .ok (.bipush 68, 2) := by decide +kernel
theorem dX12_startSo_29 : decode cX12_startSo 29 = .ok (.aload_n 0, 1) := by decide +kernel
theorem dX12_startSo_30 : decode cX12_startSo 30 = .ok (.getfield 98, 3) := by decide +kernel
theorem dX12_startSo_33 : decode cX12_startSo 33 = .ok (.iconst 4, 1) := by decide +kernel
theorem dX12_startSo_34 : decode cX12_startSo 34 = .ok (.iaload, 1) := by decide +kernel
theorem dX12_startSo_35 : decode cX12_startSo 35 = .ok (.iastore, 1) := by decide +kernel
theorem dX12_startSo_36 : decode cX12_startSo 36 = .ok (.iconst 0, 1) := by decide +kernel
theorem dX12_startSo_37 : decode cX12_startSo 37 = .ok (.istore_n 1, 1) := by decide +kernel
theorem dX12_startSo_38 : decode cX12_startSo 38 = .ok (.iload_n 1, 1) := by decide +kernel
theorem dX12_startSo_39 : decode cX12_startSo 39 = .ok (.bipush 36, 2) := by decide +kernel
theorem dX12_startSo_41 : decode cX12_startSo 41 = .ok (.if_icmp .ge 27, 3) := by decide +kernel
theorem dX12_startSo_44 : decode cX12_startSo 44 = .ok (.aload_n 0, 1) := by decide +kernel
theorem dX12_startSo_45 : decode cX12_startSo 45 = .ok (.getfield 98, 3) := by decide +kernel
theorem dX12_startSo_48 : decode cX12_startSo 48 = .ok (.bipush 71, 2) := by decide +kernel
theorem dX12_startSo_50 : decode cX12_startSo 50 = .ok (.iload_n 1, 1) := by decide +kernel
theorem dX12_startSo_51 : decode cX12_startSo 51 = .ok (.iadd, 1) := by decide +kernel
theorem dX12_startSo_52 : decode cX12_startSo 52 = .ok (.aload_n 0, 1) := by decide +kernel
theorem dX12_startSo_53 : decode cX12_startSo 53 = .ok (.getfield 98, 3) := by decide +kernel
theorem dX12_startSo_56 : decode cX12_startSo 56 = .ok (.bipush 7, 2) := by decide +kernel
theorem dX12_startSo_58 : decode cX12_startSo 58 = .ok (.iload_n 1, 1) := by decide +kernel
theorem dX12_startSo_59 : decode cX12_startSo 59 = .ok (.iadd, 1) := by decide +kernel
theorem dX12_startSo_60 : decode cX12_startSo 60 = .ok (.iaload, 1) := by decide +kernel
theorem dX12_startSo_61 : decode cX12_startSo 61 = .ok (.iastore, 1) := by decide +kernel
theorem dX12_startSo_62 : decode cX12_startSo 62 = .ok (.iinc 1 1, 3) := by decide +kernel
theorem dX12_startSo_65 : decode cX12_startSo 65 = .ok (.goto (-27), 3) := by decide +kernel
theorem dX12_startSo_68 : decode cX12_startSo 68 = .ok (.iconst 0, 1) := by decide +kernel
theorem dX12_startSo_69 : decode cX12_startSo 69 = .ok (.istore_n 1, 1) := by decide +kernel
theorem dX12_startSo_70 : decode cX12_startSo 70 = .ok (.iload_n 1, 1) := by decide +kernel
theorem dX12_startSo_71 : decode cX12_startSo 71 = .ok (.bipush 6, 2) := by decide +kernel
theorem dX12_startSo_73 : decode cX12_startSo 73 = .ok (.if_icmp .ge 63, 3) := by decide +kernel
theorem dX12_startSo_76 : decode cX12_startSo 76 = .ok (.aload_n 0, 1) := by decide +kernel
theorem dX12_startSo_77 : decode cX12_startSo 77 = .ok (.getfield 98, 3) := by decide +kernel
theorem dX12_startSo_80 : decode cX12_startSo 80 = .ok (.bipush 107, 2) := by decide +kernel
theorem dX12_startSo_82 : decode cX12_startSo 82 = .ok (.iload_n 1, 1) := by decide +kernel
theorem dX12_startSo_83 : decode cX12_startSo 83 = .ok (.iadd, 1) := by decide +kernel
theorem dX12_startSo_84 : decode cX12_startSo 84 = .ok (.aload_n 0, 1) := by decide +kernel
theorem dX12_startSo_85 : decode cX12_startSo 85 = .ok (.getfield 98, 3) := by decide +kernel
theorem dX12_startSo_88 : decode cX12_startSo 88 = .ok (.bipush 43, 2) := by decide +kernel
theorem dX12_startSo_90 : decode cX12_startSo 90 = .ok (.iload_n 1, 1) := by decide +kernel
theorem dX12_startSo_91 : decode cX12_startSo 91 = .ok (.iadd, 1) := by decide +kernel
theorem dX12_startSo_92 : decode cX12_startSo 92 = .ok (.iaload, 1) := by decide +kernel
theorem dX12_startSo_93 : decode cX12_startSo 93 = .ok (.iastore, 1) := by decide +kernel
theorem dX12_startSo_94 : decode cX12_startSo 94 = .ok (.aload_n 0, 1) := by decide +kernel
theorem dX12_startSo_95 : decode cX12_startSo 95 = .ok (.getfield 98, 3) := by decide +kernel
theorem dX12_startSo_98 : decode cX12_startSo 98 = .ok (.bipush 113, 2) := by decide +kernel
theorem dX12_startSo_100 : decode cX12_startSo 100 = .ok (.iload_n 1, 1) := by decide +kernel
theorem dX12_startSo_101 : decode cX12_startSo 101 = .ok (.iadd, 1) := by decide +kernel
theorem dX12_startSo_102 : decode cX12_startSo 102 = .ok (.aload_n 0, 1) := by decide +kernel
theorem dX12_startSo_103 : decode cX12_startSo 103 = .ok (.getfield 98, 3) := by decide +kernel
theorem dX12_startSo_106 : decode cX12_startSo 106 = .ok (.bipush 49, 2) := by decide +kernel
theorem dX12_startSo_108 : decode cX12_startSo 108 = .ok (.iload_n 1, 1) := by decide +kernel
theorem dX12_startSo_109 : decode cX12_startSo 109 = .ok (.iadd, 1) := by decide +kernel
theorem dX12_startSo_110 : decode cX12_startSo 110 = .ok (.iaload, 1) := by decide +kernel
theorem dX12_startSo_111 : decode cX12_startSo 111 = .ok (.iastore, 1) := by decide +kernel
theorem dX12_startSo_112 : decode cX12_startSo 112 = .ok (.aload_n 0, 1) := by decide +kernel
theorem dX12_startSo_113 : decode cX12_startSo 113 = .ok (.getfield 98, 3) := by decide +kernel
theorem dX12_startSo_116 : decode cX12_startSo 116 = .ok (.bipush 119, 2) := by decide +kernel
theorem dX12_startSo_118 : decode cX12_startSo 118 = .ok (.iload_n 1, 1) := by decide +kernel
theorem dX12_startSo_119 : decode cX12_startSo 119 = .ok (.iadd, 1) := by decide +kernel
theorem dX12_startSo_120 : decode cX12_startSo 120 = .ok (.aload_n 0, 1) := by decide +kernel
theorem dX12_startSo_121 : decode cX12_startSo 121 = .ok (.getfield 98, 3) := by decide +kernel
theorem dX12_startSo_124 : decode cX12_startSo 124 = .ok (.bipush 61, 2) := by decide +kernel
theorem dX12_startSo_126 : decode cX12_startSo 126 = .ok (.iload_n 1, 1) := by decide +kernel
theorem dX12_startSo_127 : decode cX12_startSo 127 = .ok (.iadd, 1) := by decide +kernel
theorem dX12_startSo_128 : decode cX12_startSo 128 = .ok (.iaload, 1) := by decide +kernel
theorem dX12_startSo_129 : decode cX12_startSo 129 = .ok (.iastore, 1) := by decide +kernel
theorem dX12_startSo_130 : decode cX12_startSo 130 = .ok (.iinc 1 1, 3) := by decide +kernel
theorem dX12_startSo_133 : decode cX12_startSo 133 = .ok (.goto (-63), 3) := by decide +kernel
theorem dX12_startSo_136 : decode cX12_startSo 136 = .ok (.return_, 1) := by decide +kernel
theorem dX12_findIn_0 : decode cX12_findIn 0 = .ok (.iconst 0, 1) := by decide +kernel
theorem dX12_findIn_1 : decode cX12_findIn 1 = .ok (.istore 5, 2) := by decide +kernel
theorem dX12_findIn_3 : decode cX12_findIn 3 = .ok (.iload 5, 2) := by decide +kernel
theorem dX12_findIn_5 : decode cX12_findIn 5 = .ok (.iload_n 2, 1) := by decide +kernel
theorem dX12_findIn_6 : decode cX12_findIn 6 = .ok (.if_icmp .ge 23, 3) := by decide +kernel
theorem dX12_findIn_29 : decode cX12_findIn 29 = .ok (.iconst (-1), 1) := by decide +kernel
theorem dX12_findIn_30 : decode cX12_findIn 30 = .ok (.ireturn, 1) := by decide +kernel
theorem dX12_findIn_9 : decode cX12_findIn 9 = .ok (.aload_n 0, 1) := by decide +kernel
theorem dX12_findIn_10 : decode cX12_findIn 10 = .ok (.iload_n 1, 1) := by decide +kernel
theorem dX12_findIn_11 : decode cX12_findIn 11 = .ok (.iload 5, 2) := by decide +kernel
theorem dX12_findIn_13 : decode cX12_findIn 13 = .ok (.iadd, 1) := by decide +kernel
theorem dX12_findIn_14 : decode cX12_findIn 14 = .ok (.laload, 1) := by decide +kernel
theorem dX12_findIn_15 : decode cX12_findIn 15 = .ok (.lload_n 3, 1) := by decide +kernel
theorem dX12_findIn_16 : decode cX12_findIn 16 = .ok (.lcmp, 1) := by decide +kernel
theorem dX12_findIn_17 : decode cX12_findIn 17 = .ok (.ifCond .ne 6, 3) := by decide +kernel
theorem dX12_findIn_23 : decode cX12_findIn 23 = .ok (.iinc 5 1, 3) := by decide +kernel
theorem dX12_findIn_26 : decode cX12_findIn 26 = .ok (.goto (-23), 3) := by decide +kernel
theorem dX12_findIn_20 : decode cX12_findIn 20 = .ok (.iload 5, 2) := by decide +kernel
theorem dX12_findIn_22 : decode cX12_findIn 22 = .ok (.ireturn, 1) := by decide +kernel
def lo_RZ (j : Nat) : Int := if j < 4 then (0 : Int) else if j < 7 then (-2147483648 : Int) else if j < 43 then (0 : Int) else if j < 55 then (0 : Int) else if j < 67 then (-2147483648 : Int) else 0
def hi_RZ (j : Nat) : Int := if j < 4 then (6 : Int) else if j < 7 then (2147483647 : Int) else if j < 43 then (9 : Int) else if j < 55 then (35 : Int) else if j < 67 then (2147483647 : Int) else 0
def RZ (f : Nat → Int32) : Prop := ABnd 67 lo_RZ hi_RZ f
theorem rz_1 : ∀ j, j < 67 → lo_RZ j ≤ lo_RB j ∧ hi_RB j = hi_RZ j ∧ (2 ≤ j → lo_RB j = lo_RZ j) ∧ lo_RZ j ≤ 0 ∧ 0 ≤ hi_RZ j := by decide +kernel
theorem RZ_of {f : Nat → Int32} (h : RB f) : RZ f := by
  intro j hj
  have h1 : lo_RB j ≤ (f j).toInt ∧ (f j).toInt ≤ hi_RB j := h j hj
  have h2 := rz_1 j hj
  omega
theorem rz_zero {f : Nat → Int32} (h : RZ f) (i : Nat) (hi : i < 67) : RZ (upd f i (nI 0)) := ABnd_upd h i _ (by
  have h0 : (nI 0).toInt = 0 := by decide
  have h2 := rz_1 i hi
  rw [h0]; omega)
theorem RB_start {f : Nat → Int32} (h : RZ f) : RB (upd (upd f 0 (nI 4)) 1 (nI 4)) := by
  intro j hj
  have h4 : (nI 4).toInt = 4 := by decide
  have h2 := rz_1 j hj
  have h1 : lo_RZ j ≤ (f j).toInt ∧ (f j).toInt ≤ hi_RZ j := h j hj
  unfold upd
  by_cases e1 : j = 1
  · subst e1; rw [if_pos rfl, h4]; decide
  · rw [if_neg e1]
    by_cases e0 : j = 0
    · subst e0; rw [if_pos rfl, h4]; decide
    · rw [if_neg e0]
      have h3 := h2.2.2.1 (by omega)
      omega
theorem wd_step {w : Int64} {B : Int} (h : w.toInt < 27 * B) (hc : ¬ lg_cmp w 27 < 0) : (w / 27).toInt < B := by
  have h27 : (27 : Int64).toInt = 27 := by decide
  have h0 : 27 ≤ w.toInt := by
    by_cases hx : w < 27
    · exact absurd (show lg_cmp w 27 < 0 by unfold lg_cmp; rw [if_neg (Int64.lt_asymm hx), if_neg (Int64.ne_of_lt hx)]; decide) hc
    · have h5 := Int64.not_lt.mp hx
      have h6 := Int64.le_iff_toInt_le.mp h5
      rw [h27] at h6; exact h6
  have h1 : (w / 27).toInt = w.toInt / 27 := by
    rw [Int64.toInt_div_of_ne_right _ _ (by decide), h27, Int.tdiv_eq_ediv_of_nonneg (by omega)]
  rw [h1]; omega
theorem wd_one (w : Int64) (hc : ¬ lg_cmp w 27 < 0) : 1 ≤ (w / 27).toInt := by
  have h27 : (27 : Int64).toInt = 27 := by decide
  have h0 : 27 ≤ w.toInt := by
    by_cases hx : w < 27
    · exact absurd (show lg_cmp w 27 < 0 by unfold lg_cmp; rw [if_neg (Int64.lt_asymm hx), if_neg (Int64.ne_of_lt hx)]; decide) hc
    · have h5 := Int64.not_lt.mp hx
      have h6 := Int64.le_iff_toInt_le.mp h5
      rw [h27] at h6; exact h6
  have h1 : (w / 27).toInt = w.toInt / 27 := by
    rw [Int64.toInt_div_of_ne_right _ _ (by decide), h27, Int.tdiv_eq_ediv_of_nonneg (by omega)]
  rw [h1]; omega
set_option maxRecDepth 20000 in
theorem lf_x_startRead_1   : -2147483648 ≤ (nI 10).toInt := by
  try have k_0 := ia_n 10 (by first | decide | omega)
  try simp only [ia_lt, ia_le, ia_eq, ia_m1, ia_0, ia_1, ne_eq, true_and, and_true, false_and, and_false, or_false, false_or, or_true, true_or, not_true_eq_false, not_false_eq_true] at *
  all_goals omega
set_option maxRecDepth 20000 in
theorem lf_x_startRead_2   : (nI 10).toInt ≤ 2147483647 := by
  try have k_0 := ia_n 10 (by first | decide | omega)
  try simp only [ia_lt, ia_le, ia_eq, ia_m1, ia_0, ia_1, ne_eq, true_and, and_true, false_and, and_false, or_false, false_or, or_true, true_or, not_true_eq_false, not_false_eq_true] at *
  all_goals omega
set_option maxRecDepth 20000 in
theorem lf_x_startRead_3   : -2147483648 ≤ (nI 1).toInt := by
  try have k_0 := ia_n 1 (by first | decide | omega)
  try simp only [ia_lt, ia_le, ia_eq, ia_m1, ia_0, ia_1, ne_eq, true_and, and_true, false_and, and_false, or_false, false_or, or_true, true_or, not_true_eq_false, not_false_eq_true] at *
  all_goals omega
set_option maxRecDepth 20000 in
theorem lf_x_startRead_4   : (nI 1).toInt ≤ 2147483647 := by
  try have k_0 := ia_n 1 (by first | decide | omega)
  try simp only [ia_lt, ia_le, ia_eq, ia_m1, ia_0, ia_1, ne_eq, true_and, and_true, false_and, and_false, or_false, false_or, or_true, true_or, not_true_eq_false, not_false_eq_true] at *
  all_goals omega
set_option maxRecDepth 20000 in
theorem lf_x_startRead_5   : -2147483648 ≤ (nI 3).toInt := by
  try have k_0 := ia_n 3 (by first | decide | omega)
  try simp only [ia_lt, ia_le, ia_eq, ia_m1, ia_0, ia_1, ne_eq, true_and, and_true, false_and, and_false, or_false, false_or, or_true, true_or, not_true_eq_false, not_false_eq_true] at *
  all_goals omega
set_option maxRecDepth 20000 in
theorem lf_x_startRead_6   : (nI 3).toInt ≤ 2147483647 := by
  try have k_0 := ia_n 3 (by first | decide | omega)
  try simp only [ia_lt, ia_le, ia_eq, ia_m1, ia_0, ia_1, ne_eq, true_and, and_true, false_and, and_false, or_false, false_or, or_true, true_or, not_true_eq_false, not_false_eq_true] at *
  all_goals omega
set_option maxRecDepth 20000 in
theorem lf_x_startRead_7 (k24 : Nat) (n28 : Nat) (j26 : k24 ≤ 4) (hm30 : 4 - k24 < n28 + 1) (c31 : k24 < 4) : k24 < 4 := by
  try simp only [ia_lt, ia_le, ia_eq, ia_m1, ia_0, ia_1, ne_eq, true_and, and_true, false_and, and_false, or_false, false_or, or_true, true_or, not_true_eq_false, not_false_eq_true] at *
  all_goals omega
set_option maxRecDepth 20000 in
theorem lf_x_startRead_8 (k24 : Nat) (n28 : Nat) (j26 : k24 ≤ 4) (hm30 : 4 - k24 < n28 + 1) (c31 : k24 < 4) : (k24 + 1) ≤ 4 := by
  try simp only [ia_lt, ia_le, ia_eq, ia_m1, ia_0, ia_1, ne_eq, true_and, and_true, false_and, and_false, or_false, false_or, or_true, true_or, not_true_eq_false, not_false_eq_true] at *
  all_goals omega
set_option maxRecDepth 20000 in
theorem lf_x_startRead_9 (k24 : Nat) (n28 : Nat) (j26 : k24 ≤ 4) (hm30 : 4 - k24 < n28 + 1) (c31 : k24 < 4) : 4 - (k24 + 1) < n28 := by
  try simp only [ia_lt, ia_le, ia_eq, ia_m1, ia_0, ia_1, ne_eq, true_and, and_true, false_and, and_false, or_false, false_or, or_true, true_or, not_true_eq_false, not_false_eq_true] at *
  all_goals omega
set_option maxRecDepth 20000 in
theorem lf_x_startRead_10   : 0 ≤ 4 := by
  try simp only [ia_lt, ia_le, ia_eq, ia_m1, ia_0, ia_1, ne_eq, true_and, and_true, false_and, and_false, or_false, false_or, or_true, true_or, not_true_eq_false, not_false_eq_true] at *
  all_goals omega
set_option maxRecDepth 20000 in
theorem lf_x_startRead_11 (k9 : Nat) (n14 : Nat) (j11 : k9 ≤ 67) (hm16 : 67 - k9 < n14 + 1) (c17 : k9 < 67) : k9 < 67 := by
  try simp only [ia_lt, ia_le, ia_eq, ia_m1, ia_0, ia_1, ne_eq, true_and, and_true, false_and, and_false, or_false, false_or, or_true, true_or, not_true_eq_false, not_false_eq_true] at *
  all_goals omega
set_option maxRecDepth 20000 in
theorem lf_x_startRead_12 (k9 : Nat) (n14 : Nat) (j11 : k9 ≤ 67) (hm16 : 67 - k9 < n14 + 1) (c17 : k9 < 67) : (k9 + 1) ≤ 67 := by
  try simp only [ia_lt, ia_le, ia_eq, ia_m1, ia_0, ia_1, ne_eq, true_and, and_true, false_and, and_false, or_false, false_or, or_true, true_or, not_true_eq_false, not_false_eq_true] at *
  all_goals omega
set_option maxRecDepth 20000 in
theorem lf_x_startRead_13 (k9 : Nat) (n14 : Nat) (j11 : k9 ≤ 67) (hm16 : 67 - k9 < n14 + 1) (c17 : k9 < 67) : 67 - (k9 + 1) < n14 := by
  try simp only [ia_lt, ia_le, ia_eq, ia_m1, ia_0, ia_1, ne_eq, true_and, and_true, false_and, and_false, or_false, false_or, or_true, true_or, not_true_eq_false, not_false_eq_true] at *
  all_goals omega
set_option maxRecDepth 20000 in
theorem lf_x_startRead_14   : 0 ≤ 67 := by
  try simp only [ia_lt, ia_le, ia_eq, ia_m1, ia_0, ia_1, ne_eq, true_and, and_true, false_and, and_false, or_false, false_or, or_true, true_or, not_true_eq_false, not_false_eq_true] at *
  all_goals omega
set_option maxHeartbeats 4000000 in
set_option maxRecDepth 100000 in
theorem c_x_startRead (l : Launch) (dC : Nat → ClassId) (dI : Nat → Nat → Nat) (ky : Nat → ClassId) (sz : Nat) (o : Nat) (kthrown : Int32) (ktape : Nat) (ktaped : Nat) (ksize : Nat) (klimit : Nat) (kto : Nat) (kfrom : Nat) (kkind : Int32) (knumber : Int32) (ksign : Int32) (kfault : Int32) (kplace : Int32) (kword : Int64) (ktold : Int32) (know : Nat) (kread : Nat) (kkept : Nat) (ksnaps : Nat) (kaside : Nat) (kname : Nat) (kreadName : Nat) (kkeptName : Nat) (kisKept : Nat) (konces : Nat) (ksnapMany : Nat) (khasCells : Int32) (kpoured : Nat) (kfar : Nat) (ksides : Nat) (ksideMany : Nat) (kwayDays : Int32) (khasWay : Int32) (klines : Nat) (kmet : Nat) (kmetMany : Nat) (ksunk : Nat) (ktrying : Nat) (ksunkMany : Nat) (ksending : Int32) (kfleets : Int32) (ktext : Nat) (ktexts : Nat) (kseed : Int32) (kline : Nat) (kwritten : Nat) (klineMany : Nat) (khasWritten : Int32) (knode : Nat) (knodes : Nat) (konesMany : Nat) (kwithin : Nat) (ktop : Nat) (kreadF : Nat → Int32) (koncesF : Nat → Int32) (iv_ko_0 : ktaped ≤ 940) (iv_ko_1 : ksize ≤ 940) (iv_ko_2 : klimit ≤ 900) (iv_ko_3 : kto ≤ ksize) (iv_ko_4 : kfrom ≤ 940) (iv_ko_5 : ksnapMany ≤ 8) (iv_ko_6 : ksideMany ≤ 36) (iv_ko_7 : kmetMany ≤ 3) (iv_ko_8 : ksunkMany ≤ 36) (iv_ko_9 : ktexts ≤ 64) (iv_ko_10 : klineMany ≤ 40) (iv_ko_11 : knodes ≤ 60) (iv_ko_12 : konesMany ≤ 20) (iv_ko_13 : kwithin ≤ 8) (iv_ko_14 : ktop ≤ 59) (rz0 : RZ kreadF) : Met l yX12_startRead wsX12_startRead ({ frames := 0, cells := 0, slots := 0, locals := 0 }) (PcU dC dI ky [.ref o] [(o, .inr (12, [.int kthrown, .ref ktape, .int (nI ktaped), .int (nI ksize), .int (nI klimit), .int (nI kto), .int (nI kfrom), .int kkind, .int knumber, .int ksign, .int kfault, .int kplace, .long kword, .int ktold, .ref know, .ref kread, .ref kkept, .ref ksnaps, .ref kaside, .ref kname, .ref kreadName, .ref kkeptName, .ref kisKept, .ref konces, .int (nI ksnapMany), .int khasCells, .ref kpoured, .ref kfar, .ref ksides, .int (nI ksideMany), .int kwayDays, .int khasWay, .ref klines, .ref kmet, .int (nI kmetMany), .ref ksunk, .ref ktrying, .int (nI ksunkMany), .int ksending, .int kfleets, .ref ktext, .int (nI ktexts), .int kseed, .ref kline, .ref kwritten, .int (nI klineMany), .int khasWritten, .ref knode, .int (nI knodes), .int (nI konesMany), .int (nI kwithin), .int (nI ktop)])), (kread, .inl (ky 0, 67, .inl kreadF)), (konces, .inl (ky 3, 4, .inl koncesF))] sz) (va_Qv (fun (u : (Nat → Int32) × (Nat → Int32)) => match u with | (kreadG, koncesG) => RB kreadG) (BU dC dI ky (fun (u : (Nat → Int32) × (Nat → Int32)) => match u with | (kreadG, koncesG) => [(o, .inr (12, [.int kthrown, .ref ktape, .int (nI ktaped), .int (nI ksize), .int (nI klimit), .int (nI kto), .int (nI kfrom), .int kkind, .int knumber, .int ksign, .int kfault, .int kplace, .long kword, .int ktold, .ref know, .ref kread, .ref kkept, .ref ksnaps, .ref kaside, .ref kname, .ref kreadName, .ref kkeptName, .ref kisKept, .ref konces, .int (nI ksnapMany), .int khasCells, .ref kpoured, .ref kfar, .ref ksides, .int (nI ksideMany), .int kwayDays, .int khasWay, .ref klines, .ref kmet, .int (nI kmetMany), .ref ksunk, .ref ktrying, .int (nI ksunkMany), .int ksending, .int kfleets, .ref ktext, .int (nI ktexts), .int kseed, .ref kline, .ref kwritten, .int (nI klineMany), .int khasWritten, .ref knode, .int (nI knodes), .int (nI konesMany), .int (nI kwithin), .int (nI ktop)])), (kread, .inl (ky 0, 67, .inl kreadG)), (konces, .inl (ky 3, 4, .inl koncesG))]) (va_A [(o, .inr (12, [.int kthrown, .ref ktape, .int (nI ktaped), .int (nI ksize), .int (nI klimit), .int (nI kto), .int (nI kfrom), .int kkind, .int knumber, .int ksign, .int kfault, .int kplace, .long kword, .int ktold, .ref know, .ref kread, .ref kkept, .ref ksnaps, .ref kaside, .ref kname, .ref kreadName, .ref kkeptName, .ref kisKept, .ref konces, .int (nI ksnapMany), .int khasCells, .ref kpoured, .ref kfar, .ref ksides, .int (nI ksideMany), .int kwayDays, .int khasWay, .ref klines, .ref kmet, .int (nI kmetMany), .ref ksunk, .ref ktrying, .int (nI ksunkMany), .int ksending, .int kfleets, .ref ktext, .int (nI ktexts), .int kseed, .ref kline, .ref kwritten, .int (nI klineMany), .int khasWritten, .ref knode, .int (nI knodes), .int (nI konesMany), .int (nI kwithin), .int (nI ktop)])), (kread, .inl (ky 0, 67, .inl kreadF)), (konces, .inl (ky 3, 4, .inl koncesF))] sz)) (va_A [(o, .inr (12, [.int kthrown, .ref ktape, .int (nI ktaped), .int (nI ksize), .int (nI klimit), .int (nI kto), .int (nI kfrom), .int kkind, .int knumber, .int ksign, .int kfault, .int kplace, .long kword, .int ktold, .ref know, .ref kread, .ref kkept, .ref ksnaps, .ref kaside, .ref kname, .ref kreadName, .ref kkeptName, .ref kisKept, .ref konces, .int (nI ksnapMany), .int khasCells, .ref kpoured, .ref kfar, .ref ksides, .int (nI ksideMany), .int kwayDays, .int khasWay, .ref klines, .ref kmet, .int (nI kmetMany), .ref ksunk, .ref ktrying, .int (nI ksunkMany), .int ksending, .int kfleets, .ref ktext, .int (nI ktexts), .int kseed, .ref kline, .ref kwritten, .int (nI klineMany), .int khasWritten, .ref knode, .int (nI knodes), .int (nI konesMany), .int (nI kwithin), .int (nI ktop)])), (kread, .inl (ky 0, 67, .inl kreadF)), (konces, .inl (ky 3, 4, .inl koncesF))] sz)) 0 0 (va_A [(o, .inr (12, [.int kthrown, .ref ktape, .int (nI ktaped), .int (nI ksize), .int (nI klimit), .int (nI kto), .int (nI kfrom), .int kkind, .int knumber, .int ksign, .int kfault, .int kplace, .long kword, .int ktold, .ref know, .ref kread, .ref kkept, .ref ksnaps, .ref kaside, .ref kname, .ref kreadName, .ref kkeptName, .ref kisKept, .ref konces, .int (nI ksnapMany), .int khasCells, .ref kpoured, .ref kfar, .ref ksides, .int (nI ksideMany), .int kwayDays, .int khasWay, .ref klines, .ref kmet, .int (nI kmetMany), .ref ksunk, .ref ktrying, .int (nI ksunkMany), .int ksending, .int kfleets, .ref ktext, .int (nI ktexts), .int kseed, .ref kline, .ref kwritten, .int (nI klineMany), .int khasWritten, .ref knode, .int (nI knodes), .int (nI konesMany), .int (nI kwithin), .int (nI ktop)])), (kread, .inl (ky 0, 67, .inl kreadF)), (konces, .inl (ky 3, 4, .inl koncesF))] sz) := by
  refine Met.ofW (cc := cX12_startRead) (maxL := 2) (ret := none) (by decide) rfl ?_
  intro p e s m args below meth c s₁ B hml hv
  obtain ⟨rfl, hsz, hP, hK, hD0⟩ := hv
  have hx := B.exec
  have hb := B.bytes
  have hr := B.returns
  have hts := atoms_spec (ws := wsX12_startRead) B.pre
  have hown : s.vm.findClass RX12 = some m.cls := findClass_of_methodNamed B.named
  have hlocks := B.notSynchronized
  have hin12 : ∀ w ∈ u_ws RX12 TX12 52, w ∈ wsX12_startRead := by decide +kernel
  subst hsz
  have hD := hD0.self (sz := s.heap.size)
  generalize hAe : va_A [(o, .inr (12, [.int kthrown, .ref ktape, .int (nI ktaped), .int (nI ksize), .int (nI klimit), .int (nI kto), .int (nI kfrom), .int kkind, .int knumber, .int ksign, .int kfault, .int kplace, .long kword, .int ktold, .ref know, .ref kread, .ref kkept, .ref ksnaps, .ref kaside, .ref kname, .ref kreadName, .ref kkeptName, .ref kisKept, .ref konces, .int (nI ksnapMany), .int khasCells, .ref kpoured, .ref kfar, .ref ksides, .int (nI ksideMany), .int kwayDays, .int khasWay, .ref klines, .ref kmet, .int (nI kmetMany), .ref ksunk, .ref ktrying, .int (nI ksunkMany), .int ksending, .int kfleets, .ref ktext, .int (nI ktexts), .int kseed, .ref kline, .ref kwritten, .int (nI klineMany), .int khasWritten, .ref knode, .int (nI knodes), .int (nI konesMany), .int (nI kwithin), .int (nI ktop)])), (kread, .inl (ky 0, 67, .inl kreadF)), (konces, .inl (ky 3, 4, .inl koncesF))] s.heap.size = A at hD ⊢
  have hA : ∀ q : Nat, s.heap.size ≤ q → A q := fun q h => by rw [← hAe]; exact Or.inr h
  have hS : va_S A s.heap s.heap [] := va_S.rf
  have hl := lv_entry ([.ref o]) (n := 2) (Nat.le_of_ble_eq_true rfl)
  rw [lg_entry_eq]
  generalize (lg_sl ([.ref o]) ++ List.replicate (2 - (lg_sl ([.ref o])).length) Slot.unset).toArray = ls at hl ⊢
  have hl : lv_has ls 2 [(0, .ref o)] := hl
  refine q_name (fun Q hQ => ?_)
  generalize ([.ref o] : List Value).toArray = args at hts hQ ⊢
  refine lv_iconst (v := nI 0) hx hb dX12_startRead_0 (by decide) ?_
  refine lv_istore_n (lv' := [(1, .int (nI 0)), (0, .ref o)]) hx hb dX12_startRead_1 rfl hl (by decide) rfl (fun ls hl => ?_)
  have hL13 : ∀ (n14 : Nat) (k9 : Nat) (f10 : Nat → Int32), (k9 ≤ 67) → (RZ f10) → 67 - k9 < n14 → ∀ (H : Heap) (locs : List Loc) (ls : Array Slot), va_P (dC, dI) vwCl [(o, .inr (12, [.int kthrown, .ref ktape, .int (nI ktaped), .int (nI ksize), .int (nI klimit), .int (nI kto), .int (nI kfrom), .int kkind, .int knumber, .int ksign, .int kfault, .int kplace, .long kword, .int ktold, .ref know, .ref kread, .ref kkept, .ref ksnaps, .ref kaside, .ref kname, .ref kreadName, .ref kkeptName, .ref kisKept, .ref konces, .int (nI ksnapMany), .int khasCells, .ref kpoured, .ref kfar, .ref ksides, .int (nI ksideMany), .int kwayDays, .int khasWay, .ref klines, .ref kmet, .int (nI kmetMany), .ref ksunk, .ref ktrying, .int (nI ksunkMany), .int ksending, .int kfleets, .ref ktext, .int (nI ktexts), .int kseed, .ref kline, .ref kwritten, .int (nI klineMany), .int khasWritten, .ref knode, .int (nI knodes), .int (nI konesMany), .int (nI kwithin), .int (nI ktop)])), (kread, .inl (ky 0, 67, .inl f10)), (konces, .inl (ky 3, 4, .inl koncesF))] H → va_D A [(o, .inr (12, [.int kthrown, .ref ktape, .int (nI ktaped), .int (nI ksize), .int (nI klimit), .int (nI kto), .int (nI kfrom), .int kkind, .int knumber, .int ksign, .int kfault, .int kplace, .long kword, .int ktold, .ref know, .ref kread, .ref kkept, .ref ksnaps, .ref kaside, .ref kname, .ref kreadName, .ref kkeptName, .ref kisKept, .ref konces, .int (nI ksnapMany), .int khasCells, .ref kpoured, .ref kfar, .ref ksides, .int (nI ksideMany), .int kwayDays, .int khasWay, .ref klines, .ref kmet, .int (nI kmetMany), .ref ksunk, .ref ktrying, .int (nI ksunkMany), .int ksending, .int kfleets, .ref ktext, .int (nI ktexts), .int kseed, .ref kline, .ref kwritten, .int (nI klineMany), .int khasWritten, .ref knode, .int (nI knodes), .int (nI konesMany), .int (nI kwithin), .int (nI ktop)])), (kread, .inl (ky 0, 67, .inl f10)), (konces, .inl (ky 3, 4, .inl koncesF))] → va_S A s.heap H locs → lv_has ls 2 [(1, .int (nI k9)), (0, .ref o)] → W p l e (headSpec wsX12_startRead ({ frames := 0, cells := 0, slots := 0, locals := 0 })).room s m args below meth c H locs 0 0 Q (F0 m 2 ls []) := by
    intro n14
    induction n14 with
    | zero => intro k9 f10 _ _ h9; exact absurd h9 (Nat.not_lt_zero _)
    | succ n14 ih15 =>
      intro k9 f10 j11 j12 hm16 H locs ls hP hD hS hl
      refine lv_iload_n hx hb dX12_startRead_2 rfl (lv_at hl 0 rfl) ?_
      refine lv_bipush (v := nI 67) hx hb dX12_startRead_3 (by decide) ?_
      refine n_icmp_ge (x := k9) (y := 67) (tgt := 21) hx hb (by omega) (by omega) dX12_startRead_5 (by decide) (fun c17 => ?_) (fun c17 => ?_)
      · refine lv_iconst (v := nI 0) hx hb dX12_startRead_21 (by decide) ?_
        refine lv_istore_n (lv' := [(1, .int (nI 0)), (0, .ref o)]) hx hb dX12_startRead_22 rfl hl (by decide) rfl (fun ls hl => ?_)
        have hL27 : ∀ (n28 : Nat) (k24 : Nat) (f25 : Nat → Int32), (k24 ≤ 4) → 4 - k24 < n28 → ∀ (H : Heap) (locs : List Loc) (ls : Array Slot), va_P (dC, dI) vwCl [(o, .inr (12, [.int kthrown, .ref ktape, .int (nI ktaped), .int (nI ksize), .int (nI klimit), .int (nI kto), .int (nI kfrom), .int kkind, .int knumber, .int ksign, .int kfault, .int kplace, .long kword, .int ktold, .ref know, .ref kread, .ref kkept, .ref ksnaps, .ref kaside, .ref kname, .ref kreadName, .ref kkeptName, .ref kisKept, .ref konces, .int (nI ksnapMany), .int khasCells, .ref kpoured, .ref kfar, .ref ksides, .int (nI ksideMany), .int kwayDays, .int khasWay, .ref klines, .ref kmet, .int (nI kmetMany), .ref ksunk, .ref ktrying, .int (nI ksunkMany), .int ksending, .int kfleets, .ref ktext, .int (nI ktexts), .int kseed, .ref kline, .ref kwritten, .int (nI klineMany), .int khasWritten, .ref knode, .int (nI knodes), .int (nI konesMany), .int (nI kwithin), .int (nI ktop)])), (kread, .inl (ky 0, 67, .inl f10)), (konces, .inl (ky 3, 4, .inl f25))] H → va_D A [(o, .inr (12, [.int kthrown, .ref ktape, .int (nI ktaped), .int (nI ksize), .int (nI klimit), .int (nI kto), .int (nI kfrom), .int kkind, .int knumber, .int ksign, .int kfault, .int kplace, .long kword, .int ktold, .ref know, .ref kread, .ref kkept, .ref ksnaps, .ref kaside, .ref kname, .ref kreadName, .ref kkeptName, .ref kisKept, .ref konces, .int (nI ksnapMany), .int khasCells, .ref kpoured, .ref kfar, .ref ksides, .int (nI ksideMany), .int kwayDays, .int khasWay, .ref klines, .ref kmet, .int (nI kmetMany), .ref ksunk, .ref ktrying, .int (nI ksunkMany), .int ksending, .int kfleets, .ref ktext, .int (nI ktexts), .int kseed, .ref kline, .ref kwritten, .int (nI klineMany), .int khasWritten, .ref knode, .int (nI knodes), .int (nI konesMany), .int (nI kwithin), .int (nI ktop)])), (kread, .inl (ky 0, 67, .inl f10)), (konces, .inl (ky 3, 4, .inl f25))] → va_S A s.heap H locs → lv_has ls 2 [(1, .int (nI k24)), (0, .ref o)] → W p l e (headSpec wsX12_startRead ({ frames := 0, cells := 0, slots := 0, locals := 0 })).room s m args below meth c H locs 0 0 Q (F0 m 23 ls []) := by
          intro n28
          induction n28 with
          | zero => intro k24 f25 _ h9; exact absurd h9 (Nat.not_lt_zero _)
          | succ n28 ih29 =>
            intro k24 f25 j26 hm30 H locs ls hP hD hS hl
            refine lv_iload_n hx hb dX12_startRead_23 rfl (lv_at hl 0 rfl) ?_
            refine lv_iconst (v := nI 4) hx hb dX12_startRead_24 (by decide) ?_
            refine n_icmp_ge (x := k24) (y := 4) (tgt := 41) hx hb (by omega) (by omega) dX12_startRead_25 (by decide) (fun c31 => ?_) (fun c31 => ?_)
            · refine lv_aload_n hx hb dX12_startRead_41 rfl (lv_at hl 1 rfl) ?_
              refine va_get (D := (dC, dI)) (ci := 12) (v := .ref kread) (C := RX12) (T := TX12) (N := 52) hx hb hts hin12 hown hK hP 0 rfl rfl 15 (by decide) (hts (.fieldLink RX12 101 "PorridgeSeaModel" "read" "[I") (List.mem_of_getElem? (i := 1) rfl)) (fun _ h9 => h9) rfl dX12_startRead_42 ?_
              refine lv_iconst (v := nI 0) hx hb dX12_startRead_45 (by decide) ?_
              refine lv_iconst (v := nI 4) hx hb dX12_startRead_46 (by decide) ?_
              refine r_iast (x := (nI 4)) hx hb hK hP hD hS 1 rfl 0 (by decide) (by decide) dX12_startRead_47 (fun H locs hP hD hS => ?_)
              obtain ⟨g32, e33⟩ : ∃ z9, z9 = upd f10 0 (nI 4) := ⟨_, rfl⟩
              rw [← e33] at hP hD
              have hP : va_P (dC, dI) vwCl [(o, .inr (12, [.int kthrown, .ref ktape, .int (nI ktaped), .int (nI ksize), .int (nI klimit), .int (nI kto), .int (nI kfrom), .int kkind, .int knumber, .int ksign, .int kfault, .int kplace, .long kword, .int ktold, .ref know, .ref kread, .ref kkept, .ref ksnaps, .ref kaside, .ref kname, .ref kreadName, .ref kkeptName, .ref kisKept, .ref konces, .int (nI ksnapMany), .int khasCells, .ref kpoured, .ref kfar, .ref ksides, .int (nI ksideMany), .int kwayDays, .int khasWay, .ref klines, .ref kmet, .int (nI kmetMany), .ref ksunk, .ref ktrying, .int (nI ksunkMany), .int ksending, .int kfleets, .ref ktext, .int (nI ktexts), .int kseed, .ref kline, .ref kwritten, .int (nI klineMany), .int khasWritten, .ref knode, .int (nI knodes), .int (nI konesMany), .int (nI kwithin), .int (nI ktop)])), (kread, .inl (ky 0, 67, .inl g32)), (konces, .inl (ky 3, 4, .inl f25))] H := hP
              have hD : va_D A [(o, .inr (12, [.int kthrown, .ref ktape, .int (nI ktaped), .int (nI ksize), .int (nI klimit), .int (nI kto), .int (nI kfrom), .int kkind, .int knumber, .int ksign, .int kfault, .int kplace, .long kword, .int ktold, .ref know, .ref kread, .ref kkept, .ref ksnaps, .ref kaside, .ref kname, .ref kreadName, .ref kkeptName, .ref kisKept, .ref konces, .int (nI ksnapMany), .int khasCells, .ref kpoured, .ref kfar, .ref ksides, .int (nI ksideMany), .int kwayDays, .int khasWay, .ref klines, .ref kmet, .int (nI kmetMany), .ref ksunk, .ref ktrying, .int (nI ksunkMany), .int ksending, .int kfleets, .ref ktext, .int (nI ktexts), .int kseed, .ref kline, .ref kwritten, .int (nI klineMany), .int khasWritten, .ref knode, .int (nI knodes), .int (nI konesMany), .int (nI kwithin), .int (nI ktop)])), (kread, .inl (ky 0, 67, .inl g32)), (konces, .inl (ky 3, 4, .inl f25))] := hD
              refine lv_aload_n hx hb dX12_startRead_48 rfl (lv_at hl 1 rfl) ?_
              refine va_get (D := (dC, dI)) (ci := 12) (v := .ref kread) (C := RX12) (T := TX12) (N := 52) hx hb hts hin12 hown hK hP 0 rfl rfl 15 (by decide) (hts (.fieldLink RX12 101 "PorridgeSeaModel" "read" "[I") (List.mem_of_getElem? (i := 1) rfl)) (fun _ h9 => h9) rfl dX12_startRead_49 ?_
              refine lv_iconst (v := nI 1) hx hb dX12_startRead_52 (by decide) ?_
              refine lv_iconst (v := nI 4) hx hb dX12_startRead_53 (by decide) ?_
              refine r_iast (x := (nI 4)) hx hb hK hP hD hS 1 rfl 1 (by decide) (by decide) dX12_startRead_54 (fun H locs hP hD hS => ?_)
              obtain ⟨g34, e35⟩ : ∃ z9, z9 = upd g32 1 (nI 4) := ⟨_, rfl⟩
              rw [← e35] at hP hD
              have nb36 : RB g34 := by rw [e35, e33]; exact RB_start j12
              have hP : va_P (dC, dI) vwCl [(o, .inr (12, [.int kthrown, .ref ktape, .int (nI ktaped), .int (nI ksize), .int (nI klimit), .int (nI kto), .int (nI kfrom), .int kkind, .int knumber, .int ksign, .int kfault, .int kplace, .long kword, .int ktold, .ref know, .ref kread, .ref kkept, .ref ksnaps, .ref kaside, .ref kname, .ref kreadName, .ref kkeptName, .ref kisKept, .ref konces, .int (nI ksnapMany), .int khasCells, .ref kpoured, .ref kfar, .ref ksides, .int (nI ksideMany), .int kwayDays, .int khasWay, .ref klines, .ref kmet, .int (nI kmetMany), .ref ksunk, .ref ktrying, .int (nI ksunkMany), .int ksending, .int kfleets, .ref ktext, .int (nI ktexts), .int kseed, .ref kline, .ref kwritten, .int (nI klineMany), .int khasWritten, .ref knode, .int (nI knodes), .int (nI konesMany), .int (nI kwithin), .int (nI ktop)])), (kread, .inl (ky 0, 67, .inl g34)), (konces, .inl (ky 3, 4, .inl f25))] H := hP
              have hD : va_D A [(o, .inr (12, [.int kthrown, .ref ktape, .int (nI ktaped), .int (nI ksize), .int (nI klimit), .int (nI kto), .int (nI kfrom), .int kkind, .int knumber, .int ksign, .int kfault, .int kplace, .long kword, .int ktold, .ref know, .ref kread, .ref kkept, .ref ksnaps, .ref kaside, .ref kname, .ref kreadName, .ref kkeptName, .ref kisKept, .ref konces, .int (nI ksnapMany), .int khasCells, .ref kpoured, .ref kfar, .ref ksides, .int (nI ksideMany), .int kwayDays, .int khasWay, .ref klines, .ref kmet, .int (nI kmetMany), .ref ksunk, .ref ktrying, .int (nI ksunkMany), .int ksending, .int kfleets, .ref ktext, .int (nI ktexts), .int kseed, .ref kline, .ref kwritten, .int (nI klineMany), .int khasWritten, .ref knode, .int (nI knodes), .int (nI konesMany), .int (nI kwithin), .int (nI ktop)])), (kread, .inl (ky 0, 67, .inl g34)), (konces, .inl (ky 3, 4, .inl f25))] := hD
              refine lv_aload_n hx hb dX12_startRead_55 rfl (lv_at hl 1 rfl) ?_
              refine va_get (D := (dC, dI)) (ci := 12) (v := .ref kread) (C := RX12) (T := TX12) (N := 52) hx hb hts hin12 hown hK hP 0 rfl rfl 15 (by decide) (hts (.fieldLink RX12 101 "PorridgeSeaModel" "read" "[I") (List.mem_of_getElem? (i := 1) rfl)) (fun _ h9 => h9) rfl dX12_startRead_56 ?_
              refine lv_iconst (v := nI 4) hx hb dX12_startRead_59 (by decide) ?_
              refine lv_bipush (v := nI 10) hx hb dX12_startRead_60 (by decide) ?_
              refine r_iast (x := (nI 10)) hx hb hK hP hD hS 1 rfl 4 (by decide) (by decide) dX12_startRead_62 (fun H locs hP hD hS => ?_)
              obtain ⟨g37, e38⟩ : ∃ z9, z9 = upd g34 4 (nI 10) := ⟨_, rfl⟩
              rw [← e38] at hP hD
              have nb39 : RB g37 := by rw [e38]; exact st_RB_4 nb36 4 (by decide) (by decide) (lf_x_startRead_1) (lf_x_startRead_2)
              have hP : va_P (dC, dI) vwCl [(o, .inr (12, [.int kthrown, .ref ktape, .int (nI ktaped), .int (nI ksize), .int (nI klimit), .int (nI kto), .int (nI kfrom), .int kkind, .int knumber, .int ksign, .int kfault, .int kplace, .long kword, .int ktold, .ref know, .ref kread, .ref kkept, .ref ksnaps, .ref kaside, .ref kname, .ref kreadName, .ref kkeptName, .ref kisKept, .ref konces, .int (nI ksnapMany), .int khasCells, .ref kpoured, .ref kfar, .ref ksides, .int (nI ksideMany), .int kwayDays, .int khasWay, .ref klines, .ref kmet, .int (nI kmetMany), .ref ksunk, .ref ktrying, .int (nI ksunkMany), .int ksending, .int kfleets, .ref ktext, .int (nI ktexts), .int kseed, .ref kline, .ref kwritten, .int (nI klineMany), .int khasWritten, .ref knode, .int (nI knodes), .int (nI konesMany), .int (nI kwithin), .int (nI ktop)])), (kread, .inl (ky 0, 67, .inl g37)), (konces, .inl (ky 3, 4, .inl f25))] H := hP
              have hD : va_D A [(o, .inr (12, [.int kthrown, .ref ktape, .int (nI ktaped), .int (nI ksize), .int (nI klimit), .int (nI kto), .int (nI kfrom), .int kkind, .int knumber, .int ksign, .int kfault, .int kplace, .long kword, .int ktold, .ref know, .ref kread, .ref kkept, .ref ksnaps, .ref kaside, .ref kname, .ref kreadName, .ref kkeptName, .ref kisKept, .ref konces, .int (nI ksnapMany), .int khasCells, .ref kpoured, .ref kfar, .ref ksides, .int (nI ksideMany), .int kwayDays, .int khasWay, .ref klines, .ref kmet, .int (nI kmetMany), .ref ksunk, .ref ktrying, .int (nI ksunkMany), .int ksending, .int kfleets, .ref ktext, .int (nI ktexts), .int kseed, .ref kline, .ref kwritten, .int (nI klineMany), .int khasWritten, .ref knode, .int (nI knodes), .int (nI konesMany), .int (nI kwithin), .int (nI ktop)])), (kread, .inl (ky 0, 67, .inl g37)), (konces, .inl (ky 3, 4, .inl f25))] := hD
              refine lv_aload_n hx hb dX12_startRead_63 rfl (lv_at hl 1 rfl) ?_
              refine va_get (D := (dC, dI)) (ci := 12) (v := .ref kread) (C := RX12) (T := TX12) (N := 52) hx hb hts hin12 hown hK hP 0 rfl rfl 15 (by decide) (hts (.fieldLink RX12 101 "PorridgeSeaModel" "read" "[I") (List.mem_of_getElem? (i := 1) rfl)) (fun _ h9 => h9) rfl dX12_startRead_64 ?_
              refine lv_iconst (v := nI 5) hx hb dX12_startRead_67 (by decide) ?_
              refine lv_iconst (v := nI 1) hx hb dX12_startRead_68 (by decide) ?_
              refine r_iast (x := (nI 1)) hx hb hK hP hD hS 1 rfl 5 (by decide) (by decide) dX12_startRead_69 (fun H locs hP hD hS => ?_)
              obtain ⟨g40, e41⟩ : ∃ z9, z9 = upd g37 5 (nI 1) := ⟨_, rfl⟩
              rw [← e41] at hP hD
              have nb42 : RB g40 := by rw [e41]; exact st_RB_4 nb39 5 (by decide) (by decide) (lf_x_startRead_3) (lf_x_startRead_4)
              have hP : va_P (dC, dI) vwCl [(o, .inr (12, [.int kthrown, .ref ktape, .int (nI ktaped), .int (nI ksize), .int (nI klimit), .int (nI kto), .int (nI kfrom), .int kkind, .int knumber, .int ksign, .int kfault, .int kplace, .long kword, .int ktold, .ref know, .ref kread, .ref kkept, .ref ksnaps, .ref kaside, .ref kname, .ref kreadName, .ref kkeptName, .ref kisKept, .ref konces, .int (nI ksnapMany), .int khasCells, .ref kpoured, .ref kfar, .ref ksides, .int (nI ksideMany), .int kwayDays, .int khasWay, .ref klines, .ref kmet, .int (nI kmetMany), .ref ksunk, .ref ktrying, .int (nI ksunkMany), .int ksending, .int kfleets, .ref ktext, .int (nI ktexts), .int kseed, .ref kline, .ref kwritten, .int (nI klineMany), .int khasWritten, .ref knode, .int (nI knodes), .int (nI konesMany), .int (nI kwithin), .int (nI ktop)])), (kread, .inl (ky 0, 67, .inl g40)), (konces, .inl (ky 3, 4, .inl f25))] H := hP
              have hD : va_D A [(o, .inr (12, [.int kthrown, .ref ktape, .int (nI ktaped), .int (nI ksize), .int (nI klimit), .int (nI kto), .int (nI kfrom), .int kkind, .int knumber, .int ksign, .int kfault, .int kplace, .long kword, .int ktold, .ref know, .ref kread, .ref kkept, .ref ksnaps, .ref kaside, .ref kname, .ref kreadName, .ref kkeptName, .ref kisKept, .ref konces, .int (nI ksnapMany), .int khasCells, .ref kpoured, .ref kfar, .ref ksides, .int (nI ksideMany), .int kwayDays, .int khasWay, .ref klines, .ref kmet, .int (nI kmetMany), .ref ksunk, .ref ktrying, .int (nI ksunkMany), .int ksending, .int kfleets, .ref ktext, .int (nI ktexts), .int kseed, .ref kline, .ref kwritten, .int (nI klineMany), .int khasWritten, .ref knode, .int (nI knodes), .int (nI konesMany), .int (nI kwithin), .int (nI ktop)])), (kread, .inl (ky 0, 67, .inl g40)), (konces, .inl (ky 3, 4, .inl f25))] := hD
              refine lv_aload_n hx hb dX12_startRead_70 rfl (lv_at hl 1 rfl) ?_
              refine va_get (D := (dC, dI)) (ci := 12) (v := .ref kread) (C := RX12) (T := TX12) (N := 52) hx hb hts hin12 hown hK hP 0 rfl rfl 15 (by decide) (hts (.fieldLink RX12 101 "PorridgeSeaModel" "read" "[I") (List.mem_of_getElem? (i := 1) rfl)) (fun _ h9 => h9) rfl dX12_startRead_71 ?_
              refine lv_bipush (v := nI 6) hx hb dX12_startRead_74 (by decide) ?_
              refine lv_iconst (v := nI 3) hx hb dX12_startRead_76 (by decide) ?_
              refine r_iast (x := (nI 3)) hx hb hK hP hD hS 1 rfl 6 (by decide) (by decide) dX12_startRead_77 (fun H locs hP hD hS => ?_)
              obtain ⟨g43, e44⟩ : ∃ z9, z9 = upd g40 6 (nI 3) := ⟨_, rfl⟩
              rw [← e44] at hP hD
              have nb45 : RB g43 := by rw [e44]; exact st_RB_4 nb42 6 (by decide) (by decide) (lf_x_startRead_5) (lf_x_startRead_6)
              have hP : va_P (dC, dI) vwCl [(o, .inr (12, [.int kthrown, .ref ktape, .int (nI ktaped), .int (nI ksize), .int (nI klimit), .int (nI kto), .int (nI kfrom), .int kkind, .int knumber, .int ksign, .int kfault, .int kplace, .long kword, .int ktold, .ref know, .ref kread, .ref kkept, .ref ksnaps, .ref kaside, .ref kname, .ref kreadName, .ref kkeptName, .ref kisKept, .ref konces, .int (nI ksnapMany), .int khasCells, .ref kpoured, .ref kfar, .ref ksides, .int (nI ksideMany), .int kwayDays, .int khasWay, .ref klines, .ref kmet, .int (nI kmetMany), .ref ksunk, .ref ktrying, .int (nI ksunkMany), .int ksending, .int kfleets, .ref ktext, .int (nI ktexts), .int kseed, .ref kline, .ref kwritten, .int (nI klineMany), .int khasWritten, .ref knode, .int (nI knodes), .int (nI konesMany), .int (nI kwithin), .int (nI ktop)])), (kread, .inl (ky 0, 67, .inl g43)), (konces, .inl (ky 3, 4, .inl f25))] H := hP
              have hD : va_D A [(o, .inr (12, [.int kthrown, .ref ktape, .int (nI ktaped), .int (nI ksize), .int (nI klimit), .int (nI kto), .int (nI kfrom), .int kkind, .int knumber, .int ksign, .int kfault, .int kplace, .long kword, .int ktold, .ref know, .ref kread, .ref kkept, .ref ksnaps, .ref kaside, .ref kname, .ref kreadName, .ref kkeptName, .ref kisKept, .ref konces, .int (nI ksnapMany), .int khasCells, .ref kpoured, .ref kfar, .ref ksides, .int (nI ksideMany), .int kwayDays, .int khasWay, .ref klines, .ref kmet, .int (nI kmetMany), .ref ksunk, .ref ktrying, .int (nI ksunkMany), .int ksending, .int kfleets, .ref ktext, .int (nI ktexts), .int kseed, .ref kline, .ref kwritten, .int (nI klineMany), .int khasWritten, .ref knode, .int (nI knodes), .int (nI konesMany), .int (nI kwithin), .int (nI ktop)])), (kread, .inl (ky 0, 67, .inl g43)), (konces, .inl (ky 3, 4, .inl f25))] := hD
              rw [hQ]
              exact W.vret hx hb hr (fun t9 ht9 hW9 => ⟨⟨(g43, f25), rfl, nb45, by rw [ht9]; exact hP, va_K.moved hW9.alike hK, hD⟩, hS.F ht9⟩) hS.2.2 dX12_startRead_78
            · refine lv_aload_n hx hb dX12_startRead_28 rfl (lv_at hl 1 rfl) ?_
              refine va_get (D := (dC, dI)) (ci := 12) (v := .ref konces) (C := RX12) (T := TX12) (N := 52) hx hb hts hin12 hown hK hP 0 rfl rfl 23 (by decide) (hts (.fieldLink RX12 127 "PorridgeSeaModel" "onces" "[Z") (List.mem_of_getElem? (i := 2) rfl)) (fun _ h9 => h9) rfl dX12_startRead_29 ?_
              refine lv_iload_n hx hb dX12_startRead_32 rfl (lv_at hl 0 rfl) ?_
              refine lv_iconst (v := nI 0) hx hb dX12_startRead_33 (by decide) ?_
              refine r_zast (x := (nI 0)) hx hb hK hP hD hS 2 rfl k24 (lf_x_startRead_7 k24 n28 j26 hm30 c31) (by decide) dX12_startRead_34 (fun H locs hP hD hS => ?_)
              obtain ⟨g46, e47⟩ : ∃ z9, z9 = upd f25 k24 (vp_nar .boolean (nI 0)) := ⟨_, rfl⟩
              rw [← e47] at hP hD
              have hP : va_P (dC, dI) vwCl [(o, .inr (12, [.int kthrown, .ref ktape, .int (nI ktaped), .int (nI ksize), .int (nI klimit), .int (nI kto), .int (nI kfrom), .int kkind, .int knumber, .int ksign, .int kfault, .int kplace, .long kword, .int ktold, .ref know, .ref kread, .ref kkept, .ref ksnaps, .ref kaside, .ref kname, .ref kreadName, .ref kkeptName, .ref kisKept, .ref konces, .int (nI ksnapMany), .int khasCells, .ref kpoured, .ref kfar, .ref ksides, .int (nI ksideMany), .int kwayDays, .int khasWay, .ref klines, .ref kmet, .int (nI kmetMany), .ref ksunk, .ref ktrying, .int (nI ksunkMany), .int ksending, .int kfleets, .ref ktext, .int (nI ktexts), .int kseed, .ref kline, .ref kwritten, .int (nI klineMany), .int khasWritten, .ref knode, .int (nI knodes), .int (nI konesMany), .int (nI kwithin), .int (nI ktop)])), (kread, .inl (ky 0, 67, .inl f10)), (konces, .inl (ky 3, 4, .inl g46))] H := hP
              have hD : va_D A [(o, .inr (12, [.int kthrown, .ref ktape, .int (nI ktaped), .int (nI ksize), .int (nI klimit), .int (nI kto), .int (nI kfrom), .int kkind, .int knumber, .int ksign, .int kfault, .int kplace, .long kword, .int ktold, .ref know, .ref kread, .ref kkept, .ref ksnaps, .ref kaside, .ref kname, .ref kreadName, .ref kkeptName, .ref kisKept, .ref konces, .int (nI ksnapMany), .int khasCells, .ref kpoured, .ref kfar, .ref ksides, .int (nI ksideMany), .int kwayDays, .int khasWay, .ref klines, .ref kmet, .int (nI kmetMany), .ref ksunk, .ref ktrying, .int (nI ksunkMany), .int ksending, .int kfleets, .ref ktext, .int (nI ktexts), .int kseed, .ref kline, .ref kwritten, .int (nI klineMany), .int khasWritten, .ref knode, .int (nI knodes), .int (nI konesMany), .int (nI kwithin), .int (nI ktop)])), (kread, .inl (ky 0, 67, .inl f10)), (konces, .inl (ky 3, 4, .inl g46))] := hD
              refine lv_iinc (v := nI (k24 + 1)) (lv' := [(1, .int (nI (k24 + 1))), (0, .ref o)]) hx hb dX12_startRead_35 hl (k := 0) rfl (show nI k24 + nI 1 = nI (k24 + 1) from nI_add _ _) (by decide) rfl (fun ls hl => ?_)
              refine lv_goto (tgt := 23) hx hb dX12_startRead_38 (by decide) ?_
              exact ih29 (k24 + 1) g46 (lf_x_startRead_8 k24 n28 j26 hm30 c31) (lf_x_startRead_9 k24 n28 j26 hm30 c31) _ _ _ hP hD hS (lv_sub hl [0, 1] rfl)
        exact hL27 ((4 - 0) + 1) 0 koncesF (lf_x_startRead_10) (Nat.lt_succ_self _) _ _ _ hP hD hS (lv_sub hl [0, 1] rfl)
      · refine lv_aload_n hx hb dX12_startRead_8 rfl (lv_at hl 1 rfl) ?_
        refine va_get (D := (dC, dI)) (ci := 12) (v := .ref kread) (C := RX12) (T := TX12) (N := 52) hx hb hts hin12 hown hK hP 0 rfl rfl 15 (by decide) (hts (.fieldLink RX12 101 "PorridgeSeaModel" "read" "[I") (List.mem_of_getElem? (i := 1) rfl)) (fun _ h9 => h9) rfl dX12_startRead_9 ?_
        refine lv_iload_n hx hb dX12_startRead_12 rfl (lv_at hl 0 rfl) ?_
        refine lv_iconst (v := nI 0) hx hb dX12_startRead_13 (by decide) ?_
        refine r_iast (x := (nI 0)) hx hb hK hP hD hS 1 rfl k9 (lf_x_startRead_11 k9 n14 j11 hm16 c17) (by decide) dX12_startRead_14 (fun H locs hP hD hS => ?_)
        obtain ⟨g48, e49⟩ : ∃ z9, z9 = upd f10 k9 (nI 0) := ⟨_, rfl⟩
        rw [← e49] at hP hD
        have rz50 : RZ g48 := by rw [e49]; exact rz_zero j12 _ (by omega)
        have hP : va_P (dC, dI) vwCl [(o, .inr (12, [.int kthrown, .ref ktape, .int (nI ktaped), .int (nI ksize), .int (nI klimit), .int (nI kto), .int (nI kfrom), .int kkind, .int knumber, .int ksign, .int kfault, .int kplace, .long kword, .int ktold, .ref know, .ref kread, .ref kkept, .ref ksnaps, .ref kaside, .ref kname, .ref kreadName, .ref kkeptName, .ref kisKept, .ref konces, .int (nI ksnapMany), .int khasCells, .ref kpoured, .ref kfar, .ref ksides, .int (nI ksideMany), .int kwayDays, .int khasWay, .ref klines, .ref kmet, .int (nI kmetMany), .ref ksunk, .ref ktrying, .int (nI ksunkMany), .int ksending, .int kfleets, .ref ktext, .int (nI ktexts), .int kseed, .ref kline, .ref kwritten, .int (nI klineMany), .int khasWritten, .ref knode, .int (nI knodes), .int (nI konesMany), .int (nI kwithin), .int (nI ktop)])), (kread, .inl (ky 0, 67, .inl g48)), (konces, .inl (ky 3, 4, .inl koncesF))] H := hP
        have hD : va_D A [(o, .inr (12, [.int kthrown, .ref ktape, .int (nI ktaped), .int (nI ksize), .int (nI klimit), .int (nI kto), .int (nI kfrom), .int kkind, .int knumber, .int ksign, .int kfault, .int kplace, .long kword, .int ktold, .ref know, .ref kread, .ref kkept, .ref ksnaps, .ref kaside, .ref kname, .ref kreadName, .ref kkeptName, .ref kisKept, .ref konces, .int (nI ksnapMany), .int khasCells, .ref kpoured, .ref kfar, .ref ksides, .int (nI ksideMany), .int kwayDays, .int khasWay, .ref klines, .ref kmet, .int (nI kmetMany), .ref ksunk, .ref ktrying, .int (nI ksunkMany), .int ksending, .int kfleets, .ref ktext, .int (nI ktexts), .int kseed, .ref kline, .ref kwritten, .int (nI klineMany), .int khasWritten, .ref knode, .int (nI knodes), .int (nI konesMany), .int (nI kwithin), .int (nI ktop)])), (kread, .inl (ky 0, 67, .inl g48)), (konces, .inl (ky 3, 4, .inl koncesF))] := hD
        refine lv_iinc (v := nI (k9 + 1)) (lv' := [(1, .int (nI (k9 + 1))), (0, .ref o)]) hx hb dX12_startRead_15 hl (k := 0) rfl (show nI k9 + nI 1 = nI (k9 + 1) from nI_add _ _) (by decide) rfl (fun ls hl => ?_)
        refine lv_goto (tgt := 2) hx hb dX12_startRead_18 (by decide) ?_
        exact ih15 (k9 + 1) g48 (lf_x_startRead_12 k9 n14 j11 hm16 c17) rz50 (lf_x_startRead_13 k9 n14 j11 hm16 c17) _ _ _ hP hD hS (lv_sub hl [0, 1] rfl)
  exact hL13 ((67 - 0) + 1) 0 kreadF (lf_x_startRead_14) rz0 (Nat.lt_succ_self _) _ _ _ hP hD hS (lv_sub hl [0, 1] rfl)
set_option maxRecDepth 20000 in
theorem lf_x_startSo_1 (f14 : Nat → Int32) (y24 : Int32) (j16 : NB f14) (j17 : SB f14) (e25 : y24 = f14 4) : -2147483648 ≤ (y24).toInt := by
  have b_y24 := ia_b y24
  try simp only [ia_lt, ia_le, ia_eq, ia_m1, ia_0, ia_1, ne_eq, true_and, and_true, false_and, and_false, or_false, false_or, or_true, true_or, not_true_eq_false, not_false_eq_true] at *
  all_goals omega
set_option maxRecDepth 20000 in
theorem lf_x_startSo_2 (f14 : Nat → Int32) (y24 : Int32) (j16 : NB f14) (j17 : SB f14) (e25 : y24 = f14 4) : (y24).toInt ≤ 2147483647 := by
  have b_y24 := ia_b y24
  try simp only [ia_lt, ia_le, ia_eq, ia_m1, ia_0, ia_1, ne_eq, true_and, and_true, false_and, and_false, or_false, false_or, or_true, true_or, not_true_eq_false, not_false_eq_true] at *
  all_goals omega
set_option maxRecDepth 20000 in
theorem lf_x_startSo_3 (k60 : Nat) (f61 : Nat → Int32) (n66 : Nat) (y70 : Int32) (j62 : k60 ≤ 6) (j63 : NB f61) (j64 : SB f61) (hm68 : 6 - k60 < n66 + 1) (c69 : k60 < 6) (e71 : y70 = f61 (43 + k60)) : (43 + k60) < 373 := by
  have b_y70 := ia_b y70
  try simp only [ia_lt, ia_le, ia_eq, ia_m1, ia_0, ia_1, ne_eq, true_and, and_true, false_and, and_false, or_false, false_or, or_true, true_or, not_true_eq_false, not_false_eq_true] at *
  all_goals omega
set_option maxRecDepth 20000 in
theorem lf_x_startSo_4 (k60 : Nat) (f61 : Nat → Int32) (n66 : Nat) (y70 : Int32) (j62 : k60 ≤ 6) (j63 : NB f61) (j64 : SB f61) (hm68 : 6 - k60 < n66 + 1) (c69 : k60 < 6) (e71 : y70 = f61 (43 + k60)) : 43 ≤ (43 + k60) := by
  have b_y70 := ia_b y70
  try simp only [ia_lt, ia_le, ia_eq, ia_m1, ia_0, ia_1, ne_eq, true_and, and_true, false_and, and_false, or_false, false_or, or_true, true_or, not_true_eq_false, not_false_eq_true] at *
  all_goals omega
set_option maxRecDepth 20000 in
theorem lf_x_startSo_5 (k60 : Nat) (f61 : Nat → Int32) (n66 : Nat) (y70 : Int32) (j62 : k60 ≤ 6) (j63 : NB f61) (j64 : SB f61) (hm68 : 6 - k60 < n66 + 1) (c69 : k60 < 6) (e71 : y70 = f61 (43 + k60)) : (43 + k60) < 55 := by
  have b_y70 := ia_b y70
  try simp only [ia_lt, ia_le, ia_eq, ia_m1, ia_0, ia_1, ne_eq, true_and, and_true, false_and, and_false, or_false, false_or, or_true, true_or, not_true_eq_false, not_false_eq_true] at *
  all_goals omega
set_option maxRecDepth 20000 in
theorem lf_x_startSo_6 (k60 : Nat) (f61 : Nat → Int32) (n66 : Nat) (y70 : Int32) (j62 : k60 ≤ 6) (j63 : NB f61) (j64 : SB f61) (hm68 : 6 - k60 < n66 + 1) (c69 : k60 < 6) (e71 : y70 = f61 (43 + k60)) (b72 : 0 ≤ y70.toInt) (b73 : y70.toInt ≤ 35) : 0 ≤ (y70).toInt := by
  have b_y70 := ia_b y70
  try simp only [ia_lt, ia_le, ia_eq, ia_m1, ia_0, ia_1, ne_eq, true_and, and_true, false_and, and_false, or_false, false_or, or_true, true_or, not_true_eq_false, not_false_eq_true] at *
  all_goals omega
set_option maxRecDepth 20000 in
theorem lf_x_startSo_7 (k60 : Nat) (f61 : Nat → Int32) (n66 : Nat) (y70 : Int32) (j62 : k60 ≤ 6) (j63 : NB f61) (j64 : SB f61) (hm68 : 6 - k60 < n66 + 1) (c69 : k60 < 6) (e71 : y70 = f61 (43 + k60)) (b72 : 0 ≤ y70.toInt) (b73 : y70.toInt ≤ 35) : (y70).toInt ≤ 35 := by
  have b_y70 := ia_b y70
  try simp only [ia_lt, ia_le, ia_eq, ia_m1, ia_0, ia_1, ne_eq, true_and, and_true, false_and, and_false, or_false, false_or, or_true, true_or, not_true_eq_false, not_false_eq_true] at *
  all_goals omega
set_option maxRecDepth 20000 in
theorem lf_x_startSo_8 (k60 : Nat) (f61 : Nat → Int32) (n66 : Nat) (y70 : Int32) (j62 : k60 ≤ 6) (j63 : NB f61) (j64 : SB f61) (hm68 : 6 - k60 < n66 + 1) (c69 : k60 < 6) (e71 : y70 = f61 (43 + k60)) (b72 : 0 ≤ y70.toInt) (b73 : y70.toInt ≤ 35) : (107 + k60) < 373 := by
  have b_y70 := ia_b y70
  try simp only [ia_lt, ia_le, ia_eq, ia_m1, ia_0, ia_1, ne_eq, true_and, and_true, false_and, and_false, or_false, false_or, or_true, true_or, not_true_eq_false, not_false_eq_true] at *
  all_goals omega
set_option maxRecDepth 20000 in
theorem lf_x_startSo_9 (k60 : Nat) (f61 : Nat → Int32) (n66 : Nat) (y70 : Int32) (j62 : k60 ≤ 6) (j63 : NB f61) (j64 : SB f61) (hm68 : 6 - k60 < n66 + 1) (c69 : k60 < 6) (e71 : y70 = f61 (43 + k60)) (b72 : 0 ≤ y70.toInt) (b73 : y70.toInt ≤ 35) : 107 ≤ (107 + k60) := by
  have b_y70 := ia_b y70
  try simp only [ia_lt, ia_le, ia_eq, ia_m1, ia_0, ia_1, ne_eq, true_and, and_true, false_and, and_false, or_false, false_or, or_true, true_or, not_true_eq_false, not_false_eq_true] at *
  all_goals omega
set_option maxRecDepth 20000 in
theorem lf_x_startSo_10 (k60 : Nat) (f61 : Nat → Int32) (n66 : Nat) (y70 : Int32) (j62 : k60 ≤ 6) (j63 : NB f61) (j64 : SB f61) (hm68 : 6 - k60 < n66 + 1) (c69 : k60 < 6) (e71 : y70 = f61 (43 + k60)) (b72 : 0 ≤ y70.toInt) (b73 : y70.toInt ≤ 35) : (107 + k60) < 119 := by
  have b_y70 := ia_b y70
  try simp only [ia_lt, ia_le, ia_eq, ia_m1, ia_0, ia_1, ne_eq, true_and, and_true, false_and, and_false, or_false, false_or, or_true, true_or, not_true_eq_false, not_false_eq_true] at *
  all_goals omega
set_option maxRecDepth 20000 in
theorem lf_x_startSo_11 (k60 : Nat) (f61 : Nat → Int32) (n66 : Nat) (y70 : Int32) (g74 : Nat → Int32) (y78 : Int32) (j62 : k60 ≤ 6) (j63 : NB f61) (j64 : SB f61) (hm68 : 6 - k60 < n66 + 1) (c69 : k60 < 6) (e71 : y70 = f61 (43 + k60)) (b72 : 0 ≤ y70.toInt) (b73 : y70.toInt ≤ 35) (nb76 : NB g74) (sb77 : SB g74) (e79 : y78 = g74 (49 + k60)) : (49 + k60) < 373 := by
  have b_y70 := ia_b y70
  have b_y78 := ia_b y78
  try simp only [ia_lt, ia_le, ia_eq, ia_m1, ia_0, ia_1, ne_eq, true_and, and_true, false_and, and_false, or_false, false_or, or_true, true_or, not_true_eq_false, not_false_eq_true] at *
  all_goals omega
set_option maxRecDepth 20000 in
theorem lf_x_startSo_12 (k60 : Nat) (f61 : Nat → Int32) (n66 : Nat) (y70 : Int32) (g74 : Nat → Int32) (y78 : Int32) (j62 : k60 ≤ 6) (j63 : NB f61) (j64 : SB f61) (hm68 : 6 - k60 < n66 + 1) (c69 : k60 < 6) (e71 : y70 = f61 (43 + k60)) (b72 : 0 ≤ y70.toInt) (b73 : y70.toInt ≤ 35) (nb76 : NB g74) (sb77 : SB g74) (e79 : y78 = g74 (49 + k60)) : 43 ≤ (49 + k60) := by
  have b_y70 := ia_b y70
  have b_y78 := ia_b y78
  try simp only [ia_lt, ia_le, ia_eq, ia_m1, ia_0, ia_1, ne_eq, true_and, and_true, false_and, and_false, or_false, false_or, or_true, true_or, not_true_eq_false, not_false_eq_true] at *
  all_goals omega
set_option maxRecDepth 20000 in
theorem lf_x_startSo_13 (k60 : Nat) (f61 : Nat → Int32) (n66 : Nat) (y70 : Int32) (g74 : Nat → Int32) (y78 : Int32) (j62 : k60 ≤ 6) (j63 : NB f61) (j64 : SB f61) (hm68 : 6 - k60 < n66 + 1) (c69 : k60 < 6) (e71 : y70 = f61 (43 + k60)) (b72 : 0 ≤ y70.toInt) (b73 : y70.toInt ≤ 35) (nb76 : NB g74) (sb77 : SB g74) (e79 : y78 = g74 (49 + k60)) : (49 + k60) < 55 := by
  have b_y70 := ia_b y70
  have b_y78 := ia_b y78
  try simp only [ia_lt, ia_le, ia_eq, ia_m1, ia_0, ia_1, ne_eq, true_and, and_true, false_and, and_false, or_false, false_or, or_true, true_or, not_true_eq_false, not_false_eq_true] at *
  all_goals omega
set_option maxRecDepth 20000 in
theorem lf_x_startSo_14 (k60 : Nat) (f61 : Nat → Int32) (n66 : Nat) (y70 : Int32) (g74 : Nat → Int32) (y78 : Int32) (j62 : k60 ≤ 6) (j63 : NB f61) (j64 : SB f61) (hm68 : 6 - k60 < n66 + 1) (c69 : k60 < 6) (e71 : y70 = f61 (43 + k60)) (b72 : 0 ≤ y70.toInt) (b73 : y70.toInt ≤ 35) (nb76 : NB g74) (sb77 : SB g74) (e79 : y78 = g74 (49 + k60)) (b80 : 0 ≤ y78.toInt) (b81 : y78.toInt ≤ 35) : 0 ≤ (y78).toInt := by
  have b_y70 := ia_b y70
  have b_y78 := ia_b y78
  try simp only [ia_lt, ia_le, ia_eq, ia_m1, ia_0, ia_1, ne_eq, true_and, and_true, false_and, and_false, or_false, false_or, or_true, true_or, not_true_eq_false, not_false_eq_true] at *
  all_goals omega
set_option maxRecDepth 20000 in
theorem lf_x_startSo_15 (k60 : Nat) (f61 : Nat → Int32) (n66 : Nat) (y70 : Int32) (g74 : Nat → Int32) (y78 : Int32) (j62 : k60 ≤ 6) (j63 : NB f61) (j64 : SB f61) (hm68 : 6 - k60 < n66 + 1) (c69 : k60 < 6) (e71 : y70 = f61 (43 + k60)) (b72 : 0 ≤ y70.toInt) (b73 : y70.toInt ≤ 35) (nb76 : NB g74) (sb77 : SB g74) (e79 : y78 = g74 (49 + k60)) (b80 : 0 ≤ y78.toInt) (b81 : y78.toInt ≤ 35) : (y78).toInt ≤ 35 := by
  have b_y70 := ia_b y70
  have b_y78 := ia_b y78
  try simp only [ia_lt, ia_le, ia_eq, ia_m1, ia_0, ia_1, ne_eq, true_and, and_true, false_and, and_false, or_false, false_or, or_true, true_or, not_true_eq_false, not_false_eq_true] at *
  all_goals omega
set_option maxRecDepth 20000 in
theorem lf_x_startSo_16 (k60 : Nat) (f61 : Nat → Int32) (n66 : Nat) (y70 : Int32) (g74 : Nat → Int32) (y78 : Int32) (j62 : k60 ≤ 6) (j63 : NB f61) (j64 : SB f61) (hm68 : 6 - k60 < n66 + 1) (c69 : k60 < 6) (e71 : y70 = f61 (43 + k60)) (b72 : 0 ≤ y70.toInt) (b73 : y70.toInt ≤ 35) (nb76 : NB g74) (sb77 : SB g74) (e79 : y78 = g74 (49 + k60)) (b80 : 0 ≤ y78.toInt) (b81 : y78.toInt ≤ 35) : (113 + k60) < 373 := by
  have b_y70 := ia_b y70
  have b_y78 := ia_b y78
  try simp only [ia_lt, ia_le, ia_eq, ia_m1, ia_0, ia_1, ne_eq, true_and, and_true, false_and, and_false, or_false, false_or, or_true, true_or, not_true_eq_false, not_false_eq_true] at *
  all_goals omega
set_option maxRecDepth 20000 in
theorem lf_x_startSo_17 (k60 : Nat) (f61 : Nat → Int32) (n66 : Nat) (y70 : Int32) (g74 : Nat → Int32) (y78 : Int32) (j62 : k60 ≤ 6) (j63 : NB f61) (j64 : SB f61) (hm68 : 6 - k60 < n66 + 1) (c69 : k60 < 6) (e71 : y70 = f61 (43 + k60)) (b72 : 0 ≤ y70.toInt) (b73 : y70.toInt ≤ 35) (nb76 : NB g74) (sb77 : SB g74) (e79 : y78 = g74 (49 + k60)) (b80 : 0 ≤ y78.toInt) (b81 : y78.toInt ≤ 35) : 107 ≤ (113 + k60) := by
  have b_y70 := ia_b y70
  have b_y78 := ia_b y78
  try simp only [ia_lt, ia_le, ia_eq, ia_m1, ia_0, ia_1, ne_eq, true_and, and_true, false_and, and_false, or_false, false_or, or_true, true_or, not_true_eq_false, not_false_eq_true] at *
  all_goals omega
set_option maxRecDepth 20000 in
theorem lf_x_startSo_18 (k60 : Nat) (f61 : Nat → Int32) (n66 : Nat) (y70 : Int32) (g74 : Nat → Int32) (y78 : Int32) (j62 : k60 ≤ 6) (j63 : NB f61) (j64 : SB f61) (hm68 : 6 - k60 < n66 + 1) (c69 : k60 < 6) (e71 : y70 = f61 (43 + k60)) (b72 : 0 ≤ y70.toInt) (b73 : y70.toInt ≤ 35) (nb76 : NB g74) (sb77 : SB g74) (e79 : y78 = g74 (49 + k60)) (b80 : 0 ≤ y78.toInt) (b81 : y78.toInt ≤ 35) : (113 + k60) < 119 := by
  have b_y70 := ia_b y70
  have b_y78 := ia_b y78
  try simp only [ia_lt, ia_le, ia_eq, ia_m1, ia_0, ia_1, ne_eq, true_and, and_true, false_and, and_false, or_false, false_or, or_true, true_or, not_true_eq_false, not_false_eq_true] at *
  all_goals omega
set_option maxRecDepth 20000 in
theorem lf_x_startSo_19 (k60 : Nat) (f61 : Nat → Int32) (n66 : Nat) (y70 : Int32) (g74 : Nat → Int32) (y78 : Int32) (g82 : Nat → Int32) (y86 : Int32) (j62 : k60 ≤ 6) (j63 : NB f61) (j64 : SB f61) (hm68 : 6 - k60 < n66 + 1) (c69 : k60 < 6) (e71 : y70 = f61 (43 + k60)) (b72 : 0 ≤ y70.toInt) (b73 : y70.toInt ≤ 35) (nb76 : NB g74) (sb77 : SB g74) (e79 : y78 = g74 (49 + k60)) (b80 : 0 ≤ y78.toInt) (b81 : y78.toInt ≤ 35) (nb84 : NB g82) (sb85 : SB g82) (e87 : y86 = g82 (61 + k60)) : (61 + k60) < 373 := by
  have b_y70 := ia_b y70
  have b_y78 := ia_b y78
  have b_y86 := ia_b y86
  try simp only [ia_lt, ia_le, ia_eq, ia_m1, ia_0, ia_1, ne_eq, true_and, and_true, false_and, and_false, or_false, false_or, or_true, true_or, not_true_eq_false, not_false_eq_true] at *
  all_goals omega
set_option maxRecDepth 20000 in
theorem lf_x_startSo_20 (k60 : Nat) (f61 : Nat → Int32) (n66 : Nat) (y70 : Int32) (g74 : Nat → Int32) (y78 : Int32) (g82 : Nat → Int32) (y86 : Int32) (j62 : k60 ≤ 6) (j63 : NB f61) (j64 : SB f61) (hm68 : 6 - k60 < n66 + 1) (c69 : k60 < 6) (e71 : y70 = f61 (43 + k60)) (b72 : 0 ≤ y70.toInt) (b73 : y70.toInt ≤ 35) (nb76 : NB g74) (sb77 : SB g74) (e79 : y78 = g74 (49 + k60)) (b80 : 0 ≤ y78.toInt) (b81 : y78.toInt ≤ 35) (nb84 : NB g82) (sb85 : SB g82) (e87 : y86 = g82 (61 + k60)) : -2147483648 ≤ (y86).toInt := by
  have b_y70 := ia_b y70
  have b_y78 := ia_b y78
  have b_y86 := ia_b y86
  try simp only [ia_lt, ia_le, ia_eq, ia_m1, ia_0, ia_1, ne_eq, true_and, and_true, false_and, and_false, or_false, false_or, or_true, true_or, not_true_eq_false, not_false_eq_true] at *
  all_goals omega
set_option maxRecDepth 20000 in
theorem lf_x_startSo_21 (k60 : Nat) (f61 : Nat → Int32) (n66 : Nat) (y70 : Int32) (g74 : Nat → Int32) (y78 : Int32) (g82 : Nat → Int32) (y86 : Int32) (j62 : k60 ≤ 6) (j63 : NB f61) (j64 : SB f61) (hm68 : 6 - k60 < n66 + 1) (c69 : k60 < 6) (e71 : y70 = f61 (43 + k60)) (b72 : 0 ≤ y70.toInt) (b73 : y70.toInt ≤ 35) (nb76 : NB g74) (sb77 : SB g74) (e79 : y78 = g74 (49 + k60)) (b80 : 0 ≤ y78.toInt) (b81 : y78.toInt ≤ 35) (nb84 : NB g82) (sb85 : SB g82) (e87 : y86 = g82 (61 + k60)) : (y86).toInt ≤ 2147483647 := by
  have b_y70 := ia_b y70
  have b_y78 := ia_b y78
  have b_y86 := ia_b y86
  try simp only [ia_lt, ia_le, ia_eq, ia_m1, ia_0, ia_1, ne_eq, true_and, and_true, false_and, and_false, or_false, false_or, or_true, true_or, not_true_eq_false, not_false_eq_true] at *
  all_goals omega
set_option maxRecDepth 20000 in
theorem lf_x_startSo_22 (k60 : Nat) (f61 : Nat → Int32) (n66 : Nat) (y70 : Int32) (g74 : Nat → Int32) (y78 : Int32) (g82 : Nat → Int32) (y86 : Int32) (j62 : k60 ≤ 6) (j63 : NB f61) (j64 : SB f61) (hm68 : 6 - k60 < n66 + 1) (c69 : k60 < 6) (e71 : y70 = f61 (43 + k60)) (b72 : 0 ≤ y70.toInt) (b73 : y70.toInt ≤ 35) (nb76 : NB g74) (sb77 : SB g74) (e79 : y78 = g74 (49 + k60)) (b80 : 0 ≤ y78.toInt) (b81 : y78.toInt ≤ 35) (nb84 : NB g82) (sb85 : SB g82) (e87 : y86 = g82 (61 + k60)) : (119 + k60) < 373 := by
  have b_y70 := ia_b y70
  have b_y78 := ia_b y78
  have b_y86 := ia_b y86
  try simp only [ia_lt, ia_le, ia_eq, ia_m1, ia_0, ia_1, ne_eq, true_and, and_true, false_and, and_false, or_false, false_or, or_true, true_or, not_true_eq_false, not_false_eq_true] at *
  all_goals omega
set_option maxRecDepth 20000 in
theorem lf_x_startSo_23 (k60 : Nat) (f61 : Nat → Int32) (n66 : Nat) (y70 : Int32) (g74 : Nat → Int32) (y78 : Int32) (g82 : Nat → Int32) (y86 : Int32) (j62 : k60 ≤ 6) (j63 : NB f61) (j64 : SB f61) (hm68 : 6 - k60 < n66 + 1) (c69 : k60 < 6) (e71 : y70 = f61 (43 + k60)) (b72 : 0 ≤ y70.toInt) (b73 : y70.toInt ≤ 35) (nb76 : NB g74) (sb77 : SB g74) (e79 : y78 = g74 (49 + k60)) (b80 : 0 ≤ y78.toInt) (b81 : y78.toInt ≤ 35) (nb84 : NB g82) (sb85 : SB g82) (e87 : y86 = g82 (61 + k60)) : 119 ≤ (119 + k60) := by
  have b_y70 := ia_b y70
  have b_y78 := ia_b y78
  have b_y86 := ia_b y86
  try simp only [ia_lt, ia_le, ia_eq, ia_m1, ia_0, ia_1, ne_eq, true_and, and_true, false_and, and_false, or_false, false_or, or_true, true_or, not_true_eq_false, not_false_eq_true] at *
  all_goals omega
set_option maxRecDepth 20000 in
theorem lf_x_startSo_24 (k60 : Nat) (f61 : Nat → Int32) (n66 : Nat) (y70 : Int32) (g74 : Nat → Int32) (y78 : Int32) (g82 : Nat → Int32) (y86 : Int32) (j62 : k60 ≤ 6) (j63 : NB f61) (j64 : SB f61) (hm68 : 6 - k60 < n66 + 1) (c69 : k60 < 6) (e71 : y70 = f61 (43 + k60)) (b72 : 0 ≤ y70.toInt) (b73 : y70.toInt ≤ 35) (nb76 : NB g74) (sb77 : SB g74) (e79 : y78 = g74 (49 + k60)) (b80 : 0 ≤ y78.toInt) (b81 : y78.toInt ≤ 35) (nb84 : NB g82) (sb85 : SB g82) (e87 : y86 = g82 (61 + k60)) : (119 + k60) < 132 := by
  have b_y70 := ia_b y70
  have b_y78 := ia_b y78
  have b_y86 := ia_b y86
  try simp only [ia_lt, ia_le, ia_eq, ia_m1, ia_0, ia_1, ne_eq, true_and, and_true, false_and, and_false, or_false, false_or, or_true, true_or, not_true_eq_false, not_false_eq_true] at *
  all_goals omega
set_option maxRecDepth 20000 in
theorem lf_x_startSo_25 (k60 : Nat) (f61 : Nat → Int32) (n66 : Nat) (y70 : Int32) (g74 : Nat → Int32) (y78 : Int32) (g82 : Nat → Int32) (y86 : Int32) (j62 : k60 ≤ 6) (j63 : NB f61) (j64 : SB f61) (hm68 : 6 - k60 < n66 + 1) (c69 : k60 < 6) (e71 : y70 = f61 (43 + k60)) (b72 : 0 ≤ y70.toInt) (b73 : y70.toInt ≤ 35) (nb76 : NB g74) (sb77 : SB g74) (e79 : y78 = g74 (49 + k60)) (b80 : 0 ≤ y78.toInt) (b81 : y78.toInt ≤ 35) (nb84 : NB g82) (sb85 : SB g82) (e87 : y86 = g82 (61 + k60)) : (k60 + 1) ≤ 6 := by
  have b_y70 := ia_b y70
  have b_y78 := ia_b y78
  have b_y86 := ia_b y86
  try simp only [ia_lt, ia_le, ia_eq, ia_m1, ia_0, ia_1, ne_eq, true_and, and_true, false_and, and_false, or_false, false_or, or_true, true_or, not_true_eq_false, not_false_eq_true] at *
  all_goals omega
set_option maxRecDepth 20000 in
theorem lf_x_startSo_26 (k60 : Nat) (f61 : Nat → Int32) (n66 : Nat) (y70 : Int32) (g74 : Nat → Int32) (y78 : Int32) (g82 : Nat → Int32) (y86 : Int32) (j62 : k60 ≤ 6) (j63 : NB f61) (j64 : SB f61) (hm68 : 6 - k60 < n66 + 1) (c69 : k60 < 6) (e71 : y70 = f61 (43 + k60)) (b72 : 0 ≤ y70.toInt) (b73 : y70.toInt ≤ 35) (nb76 : NB g74) (sb77 : SB g74) (e79 : y78 = g74 (49 + k60)) (b80 : 0 ≤ y78.toInt) (b81 : y78.toInt ≤ 35) (nb84 : NB g82) (sb85 : SB g82) (e87 : y86 = g82 (61 + k60)) : 6 - (k60 + 1) < n66 := by
  have b_y70 := ia_b y70
  have b_y78 := ia_b y78
  have b_y86 := ia_b y86
  try simp only [ia_lt, ia_le, ia_eq, ia_m1, ia_0, ia_1, ne_eq, true_and, and_true, false_and, and_false, or_false, false_or, or_true, true_or, not_true_eq_false, not_false_eq_true] at *
  all_goals omega
set_option maxRecDepth 20000 in
theorem lf_x_startSo_27   : 0 ≤ 6 := by
  try simp only [ia_lt, ia_le, ia_eq, ia_m1, ia_0, ia_1, ne_eq, true_and, and_true, false_and, and_false, or_false, false_or, or_true, true_or, not_true_eq_false, not_false_eq_true] at *
  all_goals omega
set_option maxRecDepth 20000 in
theorem lf_x_startSo_28 (k40 : Nat) (f41 : Nat → Int32) (n46 : Nat) (y92 : Int32) (j42 : k40 ≤ 36) (j43 : NB f41) (j44 : SB f41) (hm48 : 36 - k40 < n46 + 1) (c49 : k40 < 36) (e93 : y92 = f41 (7 + k40)) : (7 + k40) < 373 := by
  have b_y92 := ia_b y92
  try simp only [ia_lt, ia_le, ia_eq, ia_m1, ia_0, ia_1, ne_eq, true_and, and_true, false_and, and_false, or_false, false_or, or_true, true_or, not_true_eq_false, not_false_eq_true] at *
  all_goals omega
set_option maxRecDepth 20000 in
theorem lf_x_startSo_29 (k40 : Nat) (f41 : Nat → Int32) (n46 : Nat) (y92 : Int32) (j42 : k40 ≤ 36) (j43 : NB f41) (j44 : SB f41) (hm48 : 36 - k40 < n46 + 1) (c49 : k40 < 36) (e93 : y92 = f41 (7 + k40)) : 7 ≤ (7 + k40) := by
  have b_y92 := ia_b y92
  try simp only [ia_lt, ia_le, ia_eq, ia_m1, ia_0, ia_1, ne_eq, true_and, and_true, false_and, and_false, or_false, false_or, or_true, true_or, not_true_eq_false, not_false_eq_true] at *
  all_goals omega
set_option maxRecDepth 20000 in
theorem lf_x_startSo_30 (k40 : Nat) (f41 : Nat → Int32) (n46 : Nat) (y92 : Int32) (j42 : k40 ≤ 36) (j43 : NB f41) (j44 : SB f41) (hm48 : 36 - k40 < n46 + 1) (c49 : k40 < 36) (e93 : y92 = f41 (7 + k40)) : (7 + k40) < 43 := by
  have b_y92 := ia_b y92
  try simp only [ia_lt, ia_le, ia_eq, ia_m1, ia_0, ia_1, ne_eq, true_and, and_true, false_and, and_false, or_false, false_or, or_true, true_or, not_true_eq_false, not_false_eq_true] at *
  all_goals omega
set_option maxRecDepth 20000 in
theorem lf_x_startSo_31 (k40 : Nat) (f41 : Nat → Int32) (n46 : Nat) (y92 : Int32) (j42 : k40 ≤ 36) (j43 : NB f41) (j44 : SB f41) (hm48 : 36 - k40 < n46 + 1) (c49 : k40 < 36) (e93 : y92 = f41 (7 + k40)) (b94 : 0 ≤ y92.toInt) (b95 : y92.toInt ≤ 9) : 0 ≤ (y92).toInt := by
  have b_y92 := ia_b y92
  try simp only [ia_lt, ia_le, ia_eq, ia_m1, ia_0, ia_1, ne_eq, true_and, and_true, false_and, and_false, or_false, false_or, or_true, true_or, not_true_eq_false, not_false_eq_true] at *
  all_goals omega
set_option maxRecDepth 20000 in
theorem lf_x_startSo_32 (k40 : Nat) (f41 : Nat → Int32) (n46 : Nat) (y92 : Int32) (j42 : k40 ≤ 36) (j43 : NB f41) (j44 : SB f41) (hm48 : 36 - k40 < n46 + 1) (c49 : k40 < 36) (e93 : y92 = f41 (7 + k40)) (b94 : 0 ≤ y92.toInt) (b95 : y92.toInt ≤ 9) : (y92).toInt ≤ 9 := by
  have b_y92 := ia_b y92
  try simp only [ia_lt, ia_le, ia_eq, ia_m1, ia_0, ia_1, ne_eq, true_and, and_true, false_and, and_false, or_false, false_or, or_true, true_or, not_true_eq_false, not_false_eq_true] at *
  all_goals omega
set_option maxRecDepth 20000 in
theorem lf_x_startSo_33 (k40 : Nat) (f41 : Nat → Int32) (n46 : Nat) (y92 : Int32) (j42 : k40 ≤ 36) (j43 : NB f41) (j44 : SB f41) (hm48 : 36 - k40 < n46 + 1) (c49 : k40 < 36) (e93 : y92 = f41 (7 + k40)) (b94 : 0 ≤ y92.toInt) (b95 : y92.toInt ≤ 9) : (71 + k40) < 373 := by
  have b_y92 := ia_b y92
  try simp only [ia_lt, ia_le, ia_eq, ia_m1, ia_0, ia_1, ne_eq, true_and, and_true, false_and, and_false, or_false, false_or, or_true, true_or, not_true_eq_false, not_false_eq_true] at *
  all_goals omega
set_option maxRecDepth 20000 in
theorem lf_x_startSo_34 (k40 : Nat) (f41 : Nat → Int32) (n46 : Nat) (y92 : Int32) (j42 : k40 ≤ 36) (j43 : NB f41) (j44 : SB f41) (hm48 : 36 - k40 < n46 + 1) (c49 : k40 < 36) (e93 : y92 = f41 (7 + k40)) (b94 : 0 ≤ y92.toInt) (b95 : y92.toInt ≤ 9) : 71 ≤ (71 + k40) := by
  have b_y92 := ia_b y92
  try simp only [ia_lt, ia_le, ia_eq, ia_m1, ia_0, ia_1, ne_eq, true_and, and_true, false_and, and_false, or_false, false_or, or_true, true_or, not_true_eq_false, not_false_eq_true] at *
  all_goals omega
set_option maxRecDepth 20000 in
theorem lf_x_startSo_35 (k40 : Nat) (f41 : Nat → Int32) (n46 : Nat) (y92 : Int32) (j42 : k40 ≤ 36) (j43 : NB f41) (j44 : SB f41) (hm48 : 36 - k40 < n46 + 1) (c49 : k40 < 36) (e93 : y92 = f41 (7 + k40)) (b94 : 0 ≤ y92.toInt) (b95 : y92.toInt ≤ 9) : (71 + k40) < 107 := by
  have b_y92 := ia_b y92
  try simp only [ia_lt, ia_le, ia_eq, ia_m1, ia_0, ia_1, ne_eq, true_and, and_true, false_and, and_false, or_false, false_or, or_true, true_or, not_true_eq_false, not_false_eq_true] at *
  all_goals omega
set_option maxRecDepth 20000 in
theorem lf_x_startSo_36 (k40 : Nat) (f41 : Nat → Int32) (n46 : Nat) (y92 : Int32) (j42 : k40 ≤ 36) (j43 : NB f41) (j44 : SB f41) (hm48 : 36 - k40 < n46 + 1) (c49 : k40 < 36) (e93 : y92 = f41 (7 + k40)) (b94 : 0 ≤ y92.toInt) (b95 : y92.toInt ≤ 9) : (k40 + 1) ≤ 36 := by
  have b_y92 := ia_b y92
  try simp only [ia_lt, ia_le, ia_eq, ia_m1, ia_0, ia_1, ne_eq, true_and, and_true, false_and, and_false, or_false, false_or, or_true, true_or, not_true_eq_false, not_false_eq_true] at *
  all_goals omega
set_option maxRecDepth 20000 in
theorem lf_x_startSo_37 (k40 : Nat) (f41 : Nat → Int32) (n46 : Nat) (y92 : Int32) (j42 : k40 ≤ 36) (j43 : NB f41) (j44 : SB f41) (hm48 : 36 - k40 < n46 + 1) (c49 : k40 < 36) (e93 : y92 = f41 (7 + k40)) (b94 : 0 ≤ y92.toInt) (b95 : y92.toInt ≤ 9) : 36 - (k40 + 1) < n46 := by
  have b_y92 := ia_b y92
  try simp only [ia_lt, ia_le, ia_eq, ia_m1, ia_0, ia_1, ne_eq, true_and, and_true, false_and, and_false, or_false, false_or, or_true, true_or, not_true_eq_false, not_false_eq_true] at *
  all_goals omega
set_option maxRecDepth 20000 in
theorem lf_x_startSo_38   : 0 ≤ 36 := by
  try simp only [ia_lt, ia_le, ia_eq, ia_m1, ia_0, ia_1, ne_eq, true_and, and_true, false_and, and_false, or_false, false_or, or_true, true_or, not_true_eq_false, not_false_eq_true] at *
  all_goals omega
set_option maxRecDepth 20000 in
theorem lf_x_startSo_39 (k13 : Nat) (n20 : Nat) (j15 : k13 ≤ 373) (j18 : 67 ≤ k13) (hm22 : 373 - k13 < n20 + 1) (c23 : k13 < 373) : k13 < 373 := by
  try simp only [ia_lt, ia_le, ia_eq, ia_m1, ia_0, ia_1, ne_eq, true_and, and_true, false_and, and_false, or_false, false_or, or_true, true_or, not_true_eq_false, not_false_eq_true] at *
  all_goals omega
set_option maxRecDepth 20000 in
theorem lf_x_startSo_40 (k13 : Nat) (n20 : Nat) (j15 : k13 ≤ 373) (j18 : 67 ≤ k13) (hm22 : 373 - k13 < n20 + 1) (c23 : k13 < 373) : (k13 + 1) ≤ 373 := by
  try simp only [ia_lt, ia_le, ia_eq, ia_m1, ia_0, ia_1, ne_eq, true_and, and_true, false_and, and_false, or_false, false_or, or_true, true_or, not_true_eq_false, not_false_eq_true] at *
  all_goals omega
set_option maxRecDepth 20000 in
theorem lf_x_startSo_41 (k13 : Nat) (n20 : Nat) (j15 : k13 ≤ 373) (j18 : 67 ≤ k13) (hm22 : 373 - k13 < n20 + 1) (c23 : k13 < 373) : 67 ≤ (k13 + 1) := by
  try simp only [ia_lt, ia_le, ia_eq, ia_m1, ia_0, ia_1, ne_eq, true_and, and_true, false_and, and_false, or_false, false_or, or_true, true_or, not_true_eq_false, not_false_eq_true] at *
  all_goals omega
set_option maxRecDepth 20000 in
theorem lf_x_startSo_42 (k13 : Nat) (n20 : Nat) (j15 : k13 ≤ 373) (j18 : 67 ≤ k13) (hm22 : 373 - k13 < n20 + 1) (c23 : k13 < 373) : 373 - (k13 + 1) < n20 := by
  try simp only [ia_lt, ia_le, ia_eq, ia_m1, ia_0, ia_1, ne_eq, true_and, and_true, false_and, and_false, or_false, false_or, or_true, true_or, not_true_eq_false, not_false_eq_true] at *
  all_goals omega
set_option maxRecDepth 20000 in
theorem lf_x_startSo_43   : 67 ≤ 373 := by
  try simp only [ia_lt, ia_le, ia_eq, ia_m1, ia_0, ia_1, ne_eq, true_and, and_true, false_and, and_false, or_false, false_or, or_true, true_or, not_true_eq_false, not_false_eq_true] at *
  all_goals omega
set_option maxRecDepth 20000 in
theorem lf_x_startSo_44   : 67 ≤ 67 := by
  try simp only [ia_lt, ia_le, ia_eq, ia_m1, ia_0, ia_1, ne_eq, true_and, and_true, false_and, and_false, or_false, false_or, or_true, true_or, not_true_eq_false, not_false_eq_true] at *
  all_goals omega
set_option maxHeartbeats 4000000 in
set_option maxRecDepth 100000 in
theorem c_x_startSo (l : Launch) (dC : Nat → ClassId) (dI : Nat → Nat → Nat) (ky : Nat → ClassId) (sz : Nat) (o : Nat) (kthrown : Int32) (ktape : Nat) (ktaped : Nat) (ksize : Nat) (klimit : Nat) (kto : Nat) (kfrom : Nat) (kkind : Int32) (knumber : Int32) (ksign : Int32) (kfault : Int32) (kplace : Int32) (kword : Int64) (ktold : Int32) (know : Nat) (kread : Nat) (kkept : Nat) (ksnaps : Nat) (kaside : Nat) (kname : Nat) (kreadName : Nat) (kkeptName : Nat) (kisKept : Nat) (konces : Nat) (ksnapMany : Nat) (khasCells : Int32) (kpoured : Nat) (kfar : Nat) (ksides : Nat) (ksideMany : Nat) (kwayDays : Int32) (khasWay : Int32) (klines : Nat) (kmet : Nat) (kmetMany : Nat) (ksunk : Nat) (ktrying : Nat) (ksunkMany : Nat) (ksending : Int32) (kfleets : Int32) (ktext : Nat) (ktexts : Nat) (kseed : Int32) (kline : Nat) (kwritten : Nat) (klineMany : Nat) (khasWritten : Int32) (knode : Nat) (knodes : Nat) (konesMany : Nat) (kwithin : Nat) (ktop : Nat) (knowF : Nat → Int32) (iv_ko_0 : ktaped ≤ 940) (iv_ko_1 : ksize ≤ 940) (iv_ko_2 : klimit ≤ 900) (iv_ko_3 : kto ≤ ksize) (iv_ko_4 : kfrom ≤ 940) (iv_ko_5 : ksnapMany ≤ 8) (iv_ko_6 : ksideMany ≤ 36) (iv_ko_7 : kmetMany ≤ 3) (iv_ko_8 : ksunkMany ≤ 36) (iv_ko_9 : ktexts ≤ 64) (iv_ko_10 : klineMany ≤ 40) (iv_ko_11 : knodes ≤ 60) (iv_ko_12 : konesMany ≤ 20) (iv_ko_13 : kwithin ≤ 8) (iv_ko_14 : ktop ≤ 59) (ab_now : NB knowF) (sb_now : SB knowF) : Met l yX12_startSo wsX12_startSo ({ frames := 0, cells := 0, slots := 0, locals := 0 }) (PcU dC dI ky [.ref o] [(o, .inr (12, [.int kthrown, .ref ktape, .int (nI ktaped), .int (nI ksize), .int (nI klimit), .int (nI kto), .int (nI kfrom), .int kkind, .int knumber, .int ksign, .int kfault, .int kplace, .long kword, .int ktold, .ref know, .ref kread, .ref kkept, .ref ksnaps, .ref kaside, .ref kname, .ref kreadName, .ref kkeptName, .ref kisKept, .ref konces, .int (nI ksnapMany), .int khasCells, .ref kpoured, .ref kfar, .ref ksides, .int (nI ksideMany), .int kwayDays, .int khasWay, .ref klines, .ref kmet, .int (nI kmetMany), .ref ksunk, .ref ktrying, .int (nI ksunkMany), .int ksending, .int kfleets, .ref ktext, .int (nI ktexts), .int kseed, .ref kline, .ref kwritten, .int (nI klineMany), .int khasWritten, .ref knode, .int (nI knodes), .int (nI konesMany), .int (nI kwithin), .int (nI ktop)])), (know, .inl (ky 0, 373, .inl knowF))] sz) (va_Qv (fun (knowG : (Nat → Int32)) => (NB knowG) ∧ (SB knowG)) (BU dC dI ky (fun (knowG : (Nat → Int32)) => [(o, .inr (12, [.int kthrown, .ref ktape, .int (nI ktaped), .int (nI ksize), .int (nI klimit), .int (nI kto), .int (nI kfrom), .int kkind, .int knumber, .int ksign, .int kfault, .int kplace, .long kword, .int ktold, .ref know, .ref kread, .ref kkept, .ref ksnaps, .ref kaside, .ref kname, .ref kreadName, .ref kkeptName, .ref kisKept, .ref konces, .int (nI ksnapMany), .int khasCells, .ref kpoured, .ref kfar, .ref ksides, .int (nI ksideMany), .int kwayDays, .int khasWay, .ref klines, .ref kmet, .int (nI kmetMany), .ref ksunk, .ref ktrying, .int (nI ksunkMany), .int ksending, .int kfleets, .ref ktext, .int (nI ktexts), .int kseed, .ref kline, .ref kwritten, .int (nI klineMany), .int khasWritten, .ref knode, .int (nI knodes), .int (nI konesMany), .int (nI kwithin), .int (nI ktop)])), (know, .inl (ky 0, 373, .inl knowG))]) (va_A [(o, .inr (12, [.int kthrown, .ref ktape, .int (nI ktaped), .int (nI ksize), .int (nI klimit), .int (nI kto), .int (nI kfrom), .int kkind, .int knumber, .int ksign, .int kfault, .int kplace, .long kword, .int ktold, .ref know, .ref kread, .ref kkept, .ref ksnaps, .ref kaside, .ref kname, .ref kreadName, .ref kkeptName, .ref kisKept, .ref konces, .int (nI ksnapMany), .int khasCells, .ref kpoured, .ref kfar, .ref ksides, .int (nI ksideMany), .int kwayDays, .int khasWay, .ref klines, .ref kmet, .int (nI kmetMany), .ref ksunk, .ref ktrying, .int (nI ksunkMany), .int ksending, .int kfleets, .ref ktext, .int (nI ktexts), .int kseed, .ref kline, .ref kwritten, .int (nI klineMany), .int khasWritten, .ref knode, .int (nI knodes), .int (nI konesMany), .int (nI kwithin), .int (nI ktop)])), (know, .inl (ky 0, 373, .inl knowF))] sz)) (va_A [(o, .inr (12, [.int kthrown, .ref ktape, .int (nI ktaped), .int (nI ksize), .int (nI klimit), .int (nI kto), .int (nI kfrom), .int kkind, .int knumber, .int ksign, .int kfault, .int kplace, .long kword, .int ktold, .ref know, .ref kread, .ref kkept, .ref ksnaps, .ref kaside, .ref kname, .ref kreadName, .ref kkeptName, .ref kisKept, .ref konces, .int (nI ksnapMany), .int khasCells, .ref kpoured, .ref kfar, .ref ksides, .int (nI ksideMany), .int kwayDays, .int khasWay, .ref klines, .ref kmet, .int (nI kmetMany), .ref ksunk, .ref ktrying, .int (nI ksunkMany), .int ksending, .int kfleets, .ref ktext, .int (nI ktexts), .int kseed, .ref kline, .ref kwritten, .int (nI klineMany), .int khasWritten, .ref knode, .int (nI knodes), .int (nI konesMany), .int (nI kwithin), .int (nI ktop)])), (know, .inl (ky 0, 373, .inl knowF))] sz)) 0 0 (va_A [(o, .inr (12, [.int kthrown, .ref ktape, .int (nI ktaped), .int (nI ksize), .int (nI klimit), .int (nI kto), .int (nI kfrom), .int kkind, .int knumber, .int ksign, .int kfault, .int kplace, .long kword, .int ktold, .ref know, .ref kread, .ref kkept, .ref ksnaps, .ref kaside, .ref kname, .ref kreadName, .ref kkeptName, .ref kisKept, .ref konces, .int (nI ksnapMany), .int khasCells, .ref kpoured, .ref kfar, .ref ksides, .int (nI ksideMany), .int kwayDays, .int khasWay, .ref klines, .ref kmet, .int (nI kmetMany), .ref ksunk, .ref ktrying, .int (nI ksunkMany), .int ksending, .int kfleets, .ref ktext, .int (nI ktexts), .int kseed, .ref kline, .ref kwritten, .int (nI klineMany), .int khasWritten, .ref knode, .int (nI knodes), .int (nI konesMany), .int (nI kwithin), .int (nI ktop)])), (know, .inl (ky 0, 373, .inl knowF))] sz) := by
  refine Met.ofW (cc := cX12_startSo) (maxL := 2) (ret := none) (by decide) rfl ?_
  intro p e s m args below meth c s₁ B hml hv
  obtain ⟨rfl, hsz, hP, hK, hD0⟩ := hv
  have hx := B.exec
  have hb := B.bytes
  have hr := B.returns
  have hts := atoms_spec (ws := wsX12_startSo) B.pre
  have hown : s.vm.findClass RX12 = some m.cls := findClass_of_methodNamed B.named
  have hlocks := B.notSynchronized
  have hin12 : ∀ w ∈ u_ws RX12 TX12 52, w ∈ wsX12_startSo := by decide +kernel
  subst hsz
  have hD := hD0.self (sz := s.heap.size)
  generalize hAe : va_A [(o, .inr (12, [.int kthrown, .ref ktape, .int (nI ktaped), .int (nI ksize), .int (nI klimit), .int (nI kto), .int (nI kfrom), .int kkind, .int knumber, .int ksign, .int kfault, .int kplace, .long kword, .int ktold, .ref know, .ref kread, .ref kkept, .ref ksnaps, .ref kaside, .ref kname, .ref kreadName, .ref kkeptName, .ref kisKept, .ref konces, .int (nI ksnapMany), .int khasCells, .ref kpoured, .ref kfar, .ref ksides, .int (nI ksideMany), .int kwayDays, .int khasWay, .ref klines, .ref kmet, .int (nI kmetMany), .ref ksunk, .ref ktrying, .int (nI ksunkMany), .int ksending, .int kfleets, .ref ktext, .int (nI ktexts), .int kseed, .ref kline, .ref kwritten, .int (nI klineMany), .int khasWritten, .ref knode, .int (nI knodes), .int (nI konesMany), .int (nI kwithin), .int (nI ktop)])), (know, .inl (ky 0, 373, .inl knowF))] s.heap.size = A at hD ⊢
  have hA : ∀ q : Nat, s.heap.size ≤ q → A q := fun q h => by rw [← hAe]; exact Or.inr h
  have hS : va_S A s.heap s.heap [] := va_S.rf
  have hl := lv_entry ([.ref o]) (n := 2) (Nat.le_of_ble_eq_true rfl)
  rw [lg_entry_eq]
  generalize (lg_sl ([.ref o]) ++ List.replicate (2 - (lg_sl ([.ref o])).length) Slot.unset).toArray = ls at hl ⊢
  have hl : lv_has ls 2 [(0, .ref o)] := hl
  refine q_name (fun Q hQ => ?_)
  generalize ([.ref o] : List Value).toArray = args at hts hQ ⊢
  refine lv_bipush (v := nI 67) hx hb dX12_startSo_0 (by decide) ?_
  refine lv_istore_n (lv' := [(1, .int (nI 67)), (0, .ref o)]) hx hb dX12_startSo_2 rfl hl (by decide) rfl (fun ls hl => ?_)
  have hL19 : ∀ (n20 : Nat) (k13 : Nat) (f14 : Nat → Int32), (k13 ≤ 373) → (NB f14) → (SB f14) → (67 ≤ k13) → 373 - k13 < n20 → ∀ (H : Heap) (locs : List Loc) (ls : Array Slot), va_P (dC, dI) vwCl [(o, .inr (12, [.int kthrown, .ref ktape, .int (nI ktaped), .int (nI ksize), .int (nI klimit), .int (nI kto), .int (nI kfrom), .int kkind, .int knumber, .int ksign, .int kfault, .int kplace, .long kword, .int ktold, .ref know, .ref kread, .ref kkept, .ref ksnaps, .ref kaside, .ref kname, .ref kreadName, .ref kkeptName, .ref kisKept, .ref konces, .int (nI ksnapMany), .int khasCells, .ref kpoured, .ref kfar, .ref ksides, .int (nI ksideMany), .int kwayDays, .int khasWay, .ref klines, .ref kmet, .int (nI kmetMany), .ref ksunk, .ref ktrying, .int (nI ksunkMany), .int ksending, .int kfleets, .ref ktext, .int (nI ktexts), .int kseed, .ref kline, .ref kwritten, .int (nI klineMany), .int khasWritten, .ref knode, .int (nI knodes), .int (nI konesMany), .int (nI kwithin), .int (nI ktop)])), (know, .inl (ky 0, 373, .inl f14))] H → va_D A [(o, .inr (12, [.int kthrown, .ref ktape, .int (nI ktaped), .int (nI ksize), .int (nI klimit), .int (nI kto), .int (nI kfrom), .int kkind, .int knumber, .int ksign, .int kfault, .int kplace, .long kword, .int ktold, .ref know, .ref kread, .ref kkept, .ref ksnaps, .ref kaside, .ref kname, .ref kreadName, .ref kkeptName, .ref kisKept, .ref konces, .int (nI ksnapMany), .int khasCells, .ref kpoured, .ref kfar, .ref ksides, .int (nI ksideMany), .int kwayDays, .int khasWay, .ref klines, .ref kmet, .int (nI kmetMany), .ref ksunk, .ref ktrying, .int (nI ksunkMany), .int ksending, .int kfleets, .ref ktext, .int (nI ktexts), .int kseed, .ref kline, .ref kwritten, .int (nI klineMany), .int khasWritten, .ref knode, .int (nI knodes), .int (nI konesMany), .int (nI kwithin), .int (nI ktop)])), (know, .inl (ky 0, 373, .inl f14))] → va_S A s.heap H locs → lv_has ls 2 [(1, .int (nI k13)), (0, .ref o)] → W p l e (headSpec wsX12_startSo ({ frames := 0, cells := 0, slots := 0, locals := 0 })).room s m args below meth c H locs 0 0 Q (F0 m 3 ls []) := by
    intro n20
    induction n20 with
    | zero => intro k13 f14 _ _ _ _ h9; exact absurd h9 (Nat.not_lt_zero _)
    | succ n20 ih21 =>
      intro k13 f14 j15 j16 j17 j18 hm22 H locs ls hP hD hS hl
      refine lv_iload_n hx hb dX12_startSo_3 rfl (lv_at hl 0 rfl) ?_
      refine lv_sipush (v := nI 373) hx hb dX12_startSo_4 (by decide) ?_
      refine n_icmp_ge (x := k13) (y := 373) (tgt := 23) hx hb (by omega) (by omega) dX12_startSo_7 (by decide) (fun c23 => ?_) (fun c23 => ?_)
      · refine lv_aload_n hx hb dX12_startSo_23 rfl (lv_at hl 1 rfl) ?_
        refine va_get (D := (dC, dI)) (ci := 12) (v := .ref know) (C := RX12) (T := TX12) (N := 52) hx hb hts hin12 hown hK hP 0 rfl rfl 14 (by decide) (hts (.fieldLink RX12 98 "PorridgeSeaModel" "now" "[I") (List.mem_of_getElem? (i := 1) rfl)) (fun _ h9 => h9) rfl dX12_startSo_24 ?_
        refine lv_bipush (v := nI 68) hx hb dX12_startSo_27 (by decide) ?_
        refine lv_aload_n hx hb dX12_startSo_29 rfl (lv_at hl 1 rfl) ?_
        refine va_get (D := (dC, dI)) (ci := 12) (v := .ref know) (C := RX12) (T := TX12) (N := 52) hx hb hts hin12 hown hK hP 0 rfl rfl 14 (by decide) (hts (.fieldLink RX12 98 "PorridgeSeaModel" "now" "[I") (List.mem_of_getElem? (i := 1) rfl)) (fun _ h9 => h9) rfl dX12_startSo_30 ?_
        refine lv_iconst (v := nI 4) hx hb dX12_startSo_33 (by decide) ?_
        obtain ⟨y24, e25⟩ : ∃ z9, z9 = f14 4 := ⟨_, rfl⟩
        refine r_iald hx hb hK hP 1 rfl 4 (by decide) (by decide) y24 e25.symm dX12_startSo_34 ?_
        refine r_iast (x := y24) hx hb hK hP hD hS 1 rfl 68 (by decide) (by decide) dX12_startSo_35 (fun H locs hP hD hS => ?_)
        obtain ⟨g26, e27⟩ : ∃ z9, z9 = upd f14 68 y24 := ⟨_, rfl⟩
        rw [← e27] at hP hD
        have nb28 : NB g26 := by rw [e27]; exact st_NB_67 j16 68 (by decide) (by decide) (lf_x_startSo_1 f14 y24 j16 j17 e25) (lf_x_startSo_2 f14 y24 j16 j17 e25)
        have sb29 : SB g26 := by rw [e27]; exact SB_lo j17 _ _ (by omega)
        have hP : va_P (dC, dI) vwCl [(o, .inr (12, [.int kthrown, .ref ktape, .int (nI ktaped), .int (nI ksize), .int (nI klimit), .int (nI kto), .int (nI kfrom), .int kkind, .int knumber, .int ksign, .int kfault, .int kplace, .long kword, .int ktold, .ref know, .ref kread, .ref kkept, .ref ksnaps, .ref kaside, .ref kname, .ref kreadName, .ref kkeptName, .ref kisKept, .ref konces, .int (nI ksnapMany), .int khasCells, .ref kpoured, .ref kfar, .ref ksides, .int (nI ksideMany), .int kwayDays, .int khasWay, .ref klines, .ref kmet, .int (nI kmetMany), .ref ksunk, .ref ktrying, .int (nI ksunkMany), .int ksending, .int kfleets, .ref ktext, .int (nI ktexts), .int kseed, .ref kline, .ref kwritten, .int (nI klineMany), .int khasWritten, .ref knode, .int (nI knodes), .int (nI konesMany), .int (nI kwithin), .int (nI ktop)])), (know, .inl (ky 0, 373, .inl g26))] H := hP
        have hD : va_D A [(o, .inr (12, [.int kthrown, .ref ktape, .int (nI ktaped), .int (nI ksize), .int (nI klimit), .int (nI kto), .int (nI kfrom), .int kkind, .int knumber, .int ksign, .int kfault, .int kplace, .long kword, .int ktold, .ref know, .ref kread, .ref kkept, .ref ksnaps, .ref kaside, .ref kname, .ref kreadName, .ref kkeptName, .ref kisKept, .ref konces, .int (nI ksnapMany), .int khasCells, .ref kpoured, .ref kfar, .ref ksides, .int (nI ksideMany), .int kwayDays, .int khasWay, .ref klines, .ref kmet, .int (nI kmetMany), .ref ksunk, .ref ktrying, .int (nI ksunkMany), .int ksending, .int kfleets, .ref ktext, .int (nI ktexts), .int kseed, .ref kline, .ref kwritten, .int (nI klineMany), .int khasWritten, .ref knode, .int (nI knodes), .int (nI konesMany), .int (nI kwithin), .int (nI ktop)])), (know, .inl (ky 0, 373, .inl g26))] := hD
        refine lv_iconst (v := nI 0) hx hb dX12_startSo_36 (by decide) ?_
        refine lv_istore_n (lv' := [(1, .int (nI 0)), (0, .ref o)]) hx hb dX12_startSo_37 rfl hl (by decide) rfl (fun ls hl => ?_)
        have hL45 : ∀ (n46 : Nat) (k40 : Nat) (f41 : Nat → Int32), (k40 ≤ 36) → (NB f41) → (SB f41) → 36 - k40 < n46 → ∀ (H : Heap) (locs : List Loc) (ls : Array Slot), va_P (dC, dI) vwCl [(o, .inr (12, [.int kthrown, .ref ktape, .int (nI ktaped), .int (nI ksize), .int (nI klimit), .int (nI kto), .int (nI kfrom), .int kkind, .int knumber, .int ksign, .int kfault, .int kplace, .long kword, .int ktold, .ref know, .ref kread, .ref kkept, .ref ksnaps, .ref kaside, .ref kname, .ref kreadName, .ref kkeptName, .ref kisKept, .ref konces, .int (nI ksnapMany), .int khasCells, .ref kpoured, .ref kfar, .ref ksides, .int (nI ksideMany), .int kwayDays, .int khasWay, .ref klines, .ref kmet, .int (nI kmetMany), .ref ksunk, .ref ktrying, .int (nI ksunkMany), .int ksending, .int kfleets, .ref ktext, .int (nI ktexts), .int kseed, .ref kline, .ref kwritten, .int (nI klineMany), .int khasWritten, .ref knode, .int (nI knodes), .int (nI konesMany), .int (nI kwithin), .int (nI ktop)])), (know, .inl (ky 0, 373, .inl f41))] H → va_D A [(o, .inr (12, [.int kthrown, .ref ktape, .int (nI ktaped), .int (nI ksize), .int (nI klimit), .int (nI kto), .int (nI kfrom), .int kkind, .int knumber, .int ksign, .int kfault, .int kplace, .long kword, .int ktold, .ref know, .ref kread, .ref kkept, .ref ksnaps, .ref kaside, .ref kname, .ref kreadName, .ref kkeptName, .ref kisKept, .ref konces, .int (nI ksnapMany), .int khasCells, .ref kpoured, .ref kfar, .ref ksides, .int (nI ksideMany), .int kwayDays, .int khasWay, .ref klines, .ref kmet, .int (nI kmetMany), .ref ksunk, .ref ktrying, .int (nI ksunkMany), .int ksending, .int kfleets, .ref ktext, .int (nI ktexts), .int kseed, .ref kline, .ref kwritten, .int (nI klineMany), .int khasWritten, .ref knode, .int (nI knodes), .int (nI konesMany), .int (nI kwithin), .int (nI ktop)])), (know, .inl (ky 0, 373, .inl f41))] → va_S A s.heap H locs → lv_has ls 2 [(1, .int (nI k40)), (0, .ref o)] → W p l e (headSpec wsX12_startSo ({ frames := 0, cells := 0, slots := 0, locals := 0 })).room s m args below meth c H locs 0 0 Q (F0 m 38 ls []) := by
          intro n46
          induction n46 with
          | zero => intro k40 f41 _ _ _ h9; exact absurd h9 (Nat.not_lt_zero _)
          | succ n46 ih47 =>
            intro k40 f41 j42 j43 j44 hm48 H locs ls hP hD hS hl
            refine lv_iload_n hx hb dX12_startSo_38 rfl (lv_at hl 0 rfl) ?_
            refine lv_bipush (v := nI 36) hx hb dX12_startSo_39 (by decide) ?_
            refine n_icmp_ge (x := k40) (y := 36) (tgt := 68) hx hb (by omega) (by omega) dX12_startSo_41 (by decide) (fun c49 => ?_) (fun c49 => ?_)
            · refine lv_iconst (v := nI 0) hx hb dX12_startSo_68 (by decide) ?_
              refine lv_istore_n (lv' := [(1, .int (nI 0)), (0, .ref o)]) hx hb dX12_startSo_69 rfl hl (by decide) rfl (fun ls hl => ?_)
              have hL65 : ∀ (n66 : Nat) (k60 : Nat) (f61 : Nat → Int32), (k60 ≤ 6) → (NB f61) → (SB f61) → 6 - k60 < n66 → ∀ (H : Heap) (locs : List Loc) (ls : Array Slot), va_P (dC, dI) vwCl [(o, .inr (12, [.int kthrown, .ref ktape, .int (nI ktaped), .int (nI ksize), .int (nI klimit), .int (nI kto), .int (nI kfrom), .int kkind, .int knumber, .int ksign, .int kfault, .int kplace, .long kword, .int ktold, .ref know, .ref kread, .ref kkept, .ref ksnaps, .ref kaside, .ref kname, .ref kreadName, .ref kkeptName, .ref kisKept, .ref konces, .int (nI ksnapMany), .int khasCells, .ref kpoured, .ref kfar, .ref ksides, .int (nI ksideMany), .int kwayDays, .int khasWay, .ref klines, .ref kmet, .int (nI kmetMany), .ref ksunk, .ref ktrying, .int (nI ksunkMany), .int ksending, .int kfleets, .ref ktext, .int (nI ktexts), .int kseed, .ref kline, .ref kwritten, .int (nI klineMany), .int khasWritten, .ref knode, .int (nI knodes), .int (nI konesMany), .int (nI kwithin), .int (nI ktop)])), (know, .inl (ky 0, 373, .inl f61))] H → va_D A [(o, .inr (12, [.int kthrown, .ref ktape, .int (nI ktaped), .int (nI ksize), .int (nI klimit), .int (nI kto), .int (nI kfrom), .int kkind, .int knumber, .int ksign, .int kfault, .int kplace, .long kword, .int ktold, .ref know, .ref kread, .ref kkept, .ref ksnaps, .ref kaside, .ref kname, .ref kreadName, .ref kkeptName, .ref kisKept, .ref konces, .int (nI ksnapMany), .int khasCells, .ref kpoured, .ref kfar, .ref ksides, .int (nI ksideMany), .int kwayDays, .int khasWay, .ref klines, .ref kmet, .int (nI kmetMany), .ref ksunk, .ref ktrying, .int (nI ksunkMany), .int ksending, .int kfleets, .ref ktext, .int (nI ktexts), .int kseed, .ref kline, .ref kwritten, .int (nI klineMany), .int khasWritten, .ref knode, .int (nI knodes), .int (nI konesMany), .int (nI kwithin), .int (nI ktop)])), (know, .inl (ky 0, 373, .inl f61))] → va_S A s.heap H locs → lv_has ls 2 [(1, .int (nI k60)), (0, .ref o)] → W p l e (headSpec wsX12_startSo ({ frames := 0, cells := 0, slots := 0, locals := 0 })).room s m args below meth c H locs 0 0 Q (F0 m 70 ls []) := by
                intro n66
                induction n66 with
                | zero => intro k60 f61 _ _ _ h9; exact absurd h9 (Nat.not_lt_zero _)
                | succ n66 ih67 =>
                  intro k60 f61 j62 j63 j64 hm68 H locs ls hP hD hS hl
                  refine lv_iload_n hx hb dX12_startSo_70 rfl (lv_at hl 0 rfl) ?_
                  refine lv_bipush (v := nI 6) hx hb dX12_startSo_71 (by decide) ?_
                  refine n_icmp_ge (x := k60) (y := 6) (tgt := 136) hx hb (by omega) (by omega) dX12_startSo_73 (by decide) (fun c69 => ?_) (fun c69 => ?_)
                  · rw [hQ]
                    exact W.vret hx hb hr (fun t9 ht9 hW9 => ⟨⟨f61, rfl, ⟨j63, j64⟩, by rw [ht9]; exact hP, va_K.moved hW9.alike hK, hD⟩, hS.F ht9⟩) hS.2.2 dX12_startSo_136
                  · refine lv_aload_n hx hb dX12_startSo_76 rfl (lv_at hl 1 rfl) ?_
                    refine va_get (D := (dC, dI)) (ci := 12) (v := .ref know) (C := RX12) (T := TX12) (N := 52) hx hb hts hin12 hown hK hP 0 rfl rfl 14 (by decide) (hts (.fieldLink RX12 98 "PorridgeSeaModel" "now" "[I") (List.mem_of_getElem? (i := 1) rfl)) (fun _ h9 => h9) rfl dX12_startSo_77 ?_
                    refine lv_bipush (v := nI 107) hx hb dX12_startSo_80 (by decide) ?_
                    refine lv_iload_n hx hb dX12_startSo_82 rfl (lv_at hl 0 rfl) ?_
                    refine lv_iadd hx hb dX12_startSo_83 ?_
                    refine r_ti (nI (107 + k60)) (nI_add _ _) ?_
                    refine lv_aload_n hx hb dX12_startSo_84 rfl (lv_at hl 1 rfl) ?_
                    refine va_get (D := (dC, dI)) (ci := 12) (v := .ref know) (C := RX12) (T := TX12) (N := 52) hx hb hts hin12 hown hK hP 0 rfl rfl 14 (by decide) (hts (.fieldLink RX12 98 "PorridgeSeaModel" "now" "[I") (List.mem_of_getElem? (i := 1) rfl)) (fun _ h9 => h9) rfl dX12_startSo_85 ?_
                    refine lv_bipush (v := nI 43) hx hb dX12_startSo_88 (by decide) ?_
                    refine lv_iload_n hx hb dX12_startSo_90 rfl (lv_at hl 0 rfl) ?_
                    refine lv_iadd hx hb dX12_startSo_91 ?_
                    refine r_ti (nI (43 + k60)) (nI_add _ _) ?_
                    obtain ⟨y70, e71⟩ : ∃ z9, z9 = f61 (43 + k60) := ⟨_, rfl⟩
                    refine r_iald hx hb hK hP 1 rfl (43 + k60) (lf_x_startSo_3 k60 f61 n66 y70 j62 j63 j64 hm68 c69 e71) (by decide) y70 e71.symm dX12_startSo_92 ?_
                    obtain ⟨b72, b73⟩ : (0 : Int) ≤ y70.toInt ∧ y70.toInt ≤ 35 := by rw [e71]; exact ld_NB_43 j63 (43 + k60) (lf_x_startSo_4 k60 f61 n66 y70 j62 j63 j64 hm68 c69 e71) (lf_x_startSo_5 k60 f61 n66 y70 j62 j63 j64 hm68 c69 e71)
                    refine r_iast (x := y70) hx hb hK hP hD hS 1 rfl (107 + k60) (lf_x_startSo_8 k60 f61 n66 y70 j62 j63 j64 hm68 c69 e71 b72 b73) (by decide) dX12_startSo_93 (fun H locs hP hD hS => ?_)
                    obtain ⟨g74, e75⟩ : ∃ z9, z9 = upd f61 (107 + k60) y70 := ⟨_, rfl⟩
                    rw [← e75] at hP hD
                    have nb76 : NB g74 := by rw [e75]; exact st_NB_107 j63 (107 + k60) (lf_x_startSo_9 k60 f61 n66 y70 j62 j63 j64 hm68 c69 e71 b72 b73) (lf_x_startSo_10 k60 f61 n66 y70 j62 j63 j64 hm68 c69 e71 b72 b73) (lf_x_startSo_6 k60 f61 n66 y70 j62 j63 j64 hm68 c69 e71 b72 b73) (lf_x_startSo_7 k60 f61 n66 y70 j62 j63 j64 hm68 c69 e71 b72 b73)
                    have sb77 : SB g74 := by rw [e75]; exact SB_lo j64 _ _ (by omega)
                    have hP : va_P (dC, dI) vwCl [(o, .inr (12, [.int kthrown, .ref ktape, .int (nI ktaped), .int (nI ksize), .int (nI klimit), .int (nI kto), .int (nI kfrom), .int kkind, .int knumber, .int ksign, .int kfault, .int kplace, .long kword, .int ktold, .ref know, .ref kread, .ref kkept, .ref ksnaps, .ref kaside, .ref kname, .ref kreadName, .ref kkeptName, .ref kisKept, .ref konces, .int (nI ksnapMany), .int khasCells, .ref kpoured, .ref kfar, .ref ksides, .int (nI ksideMany), .int kwayDays, .int khasWay, .ref klines, .ref kmet, .int (nI kmetMany), .ref ksunk, .ref ktrying, .int (nI ksunkMany), .int ksending, .int kfleets, .ref ktext, .int (nI ktexts), .int kseed, .ref kline, .ref kwritten, .int (nI klineMany), .int khasWritten, .ref knode, .int (nI knodes), .int (nI konesMany), .int (nI kwithin), .int (nI ktop)])), (know, .inl (ky 0, 373, .inl g74))] H := hP
                    have hD : va_D A [(o, .inr (12, [.int kthrown, .ref ktape, .int (nI ktaped), .int (nI ksize), .int (nI klimit), .int (nI kto), .int (nI kfrom), .int kkind, .int knumber, .int ksign, .int kfault, .int kplace, .long kword, .int ktold, .ref know, .ref kread, .ref kkept, .ref ksnaps, .ref kaside, .ref kname, .ref kreadName, .ref kkeptName, .ref kisKept, .ref konces, .int (nI ksnapMany), .int khasCells, .ref kpoured, .ref kfar, .ref ksides, .int (nI ksideMany), .int kwayDays, .int khasWay, .ref klines, .ref kmet, .int (nI kmetMany), .ref ksunk, .ref ktrying, .int (nI ksunkMany), .int ksending, .int kfleets, .ref ktext, .int (nI ktexts), .int kseed, .ref kline, .ref kwritten, .int (nI klineMany), .int khasWritten, .ref knode, .int (nI knodes), .int (nI konesMany), .int (nI kwithin), .int (nI ktop)])), (know, .inl (ky 0, 373, .inl g74))] := hD
                    refine lv_aload_n hx hb dX12_startSo_94 rfl (lv_at hl 1 rfl) ?_
                    refine va_get (D := (dC, dI)) (ci := 12) (v := .ref know) (C := RX12) (T := TX12) (N := 52) hx hb hts hin12 hown hK hP 0 rfl rfl 14 (by decide) (hts (.fieldLink RX12 98 "PorridgeSeaModel" "now" "[I") (List.mem_of_getElem? (i := 1) rfl)) (fun _ h9 => h9) rfl dX12_startSo_95 ?_
                    refine lv_bipush (v := nI 113) hx hb dX12_startSo_98 (by decide) ?_
                    refine lv_iload_n hx hb dX12_startSo_100 rfl (lv_at hl 0 rfl) ?_
                    refine lv_iadd hx hb dX12_startSo_101 ?_
                    refine r_ti (nI (113 + k60)) (nI_add _ _) ?_
                    refine lv_aload_n hx hb dX12_startSo_102 rfl (lv_at hl 1 rfl) ?_
                    refine va_get (D := (dC, dI)) (ci := 12) (v := .ref know) (C := RX12) (T := TX12) (N := 52) hx hb hts hin12 hown hK hP 0 rfl rfl 14 (by decide) (hts (.fieldLink RX12 98 "PorridgeSeaModel" "now" "[I") (List.mem_of_getElem? (i := 1) rfl)) (fun _ h9 => h9) rfl dX12_startSo_103 ?_
                    refine lv_bipush (v := nI 49) hx hb dX12_startSo_106 (by decide) ?_
                    refine lv_iload_n hx hb dX12_startSo_108 rfl (lv_at hl 0 rfl) ?_
                    refine lv_iadd hx hb dX12_startSo_109 ?_
                    refine r_ti (nI (49 + k60)) (nI_add _ _) ?_
                    obtain ⟨y78, e79⟩ : ∃ z9, z9 = g74 (49 + k60) := ⟨_, rfl⟩
                    refine r_iald hx hb hK hP 1 rfl (49 + k60) (lf_x_startSo_11 k60 f61 n66 y70 g74 y78 j62 j63 j64 hm68 c69 e71 b72 b73 nb76 sb77 e79) (by decide) y78 e79.symm dX12_startSo_110 ?_
                    obtain ⟨b80, b81⟩ : (0 : Int) ≤ y78.toInt ∧ y78.toInt ≤ 35 := by rw [e79]; exact ld_NB_43 nb76 (49 + k60) (lf_x_startSo_12 k60 f61 n66 y70 g74 y78 j62 j63 j64 hm68 c69 e71 b72 b73 nb76 sb77 e79) (lf_x_startSo_13 k60 f61 n66 y70 g74 y78 j62 j63 j64 hm68 c69 e71 b72 b73 nb76 sb77 e79)
                    refine r_iast (x := y78) hx hb hK hP hD hS 1 rfl (113 + k60) (lf_x_startSo_16 k60 f61 n66 y70 g74 y78 j62 j63 j64 hm68 c69 e71 b72 b73 nb76 sb77 e79 b80 b81) (by decide) dX12_startSo_111 (fun H locs hP hD hS => ?_)
                    obtain ⟨g82, e83⟩ : ∃ z9, z9 = upd g74 (113 + k60) y78 := ⟨_, rfl⟩
                    rw [← e83] at hP hD
                    have nb84 : NB g82 := by rw [e83]; exact st_NB_107 nb76 (113 + k60) (lf_x_startSo_17 k60 f61 n66 y70 g74 y78 j62 j63 j64 hm68 c69 e71 b72 b73 nb76 sb77 e79 b80 b81) (lf_x_startSo_18 k60 f61 n66 y70 g74 y78 j62 j63 j64 hm68 c69 e71 b72 b73 nb76 sb77 e79 b80 b81) (lf_x_startSo_14 k60 f61 n66 y70 g74 y78 j62 j63 j64 hm68 c69 e71 b72 b73 nb76 sb77 e79 b80 b81) (lf_x_startSo_15 k60 f61 n66 y70 g74 y78 j62 j63 j64 hm68 c69 e71 b72 b73 nb76 sb77 e79 b80 b81)
                    have sb85 : SB g82 := by rw [e83]; exact SB_lo sb77 _ _ (by omega)
                    have hP : va_P (dC, dI) vwCl [(o, .inr (12, [.int kthrown, .ref ktape, .int (nI ktaped), .int (nI ksize), .int (nI klimit), .int (nI kto), .int (nI kfrom), .int kkind, .int knumber, .int ksign, .int kfault, .int kplace, .long kword, .int ktold, .ref know, .ref kread, .ref kkept, .ref ksnaps, .ref kaside, .ref kname, .ref kreadName, .ref kkeptName, .ref kisKept, .ref konces, .int (nI ksnapMany), .int khasCells, .ref kpoured, .ref kfar, .ref ksides, .int (nI ksideMany), .int kwayDays, .int khasWay, .ref klines, .ref kmet, .int (nI kmetMany), .ref ksunk, .ref ktrying, .int (nI ksunkMany), .int ksending, .int kfleets, .ref ktext, .int (nI ktexts), .int kseed, .ref kline, .ref kwritten, .int (nI klineMany), .int khasWritten, .ref knode, .int (nI knodes), .int (nI konesMany), .int (nI kwithin), .int (nI ktop)])), (know, .inl (ky 0, 373, .inl g82))] H := hP
                    have hD : va_D A [(o, .inr (12, [.int kthrown, .ref ktape, .int (nI ktaped), .int (nI ksize), .int (nI klimit), .int (nI kto), .int (nI kfrom), .int kkind, .int knumber, .int ksign, .int kfault, .int kplace, .long kword, .int ktold, .ref know, .ref kread, .ref kkept, .ref ksnaps, .ref kaside, .ref kname, .ref kreadName, .ref kkeptName, .ref kisKept, .ref konces, .int (nI ksnapMany), .int khasCells, .ref kpoured, .ref kfar, .ref ksides, .int (nI ksideMany), .int kwayDays, .int khasWay, .ref klines, .ref kmet, .int (nI kmetMany), .ref ksunk, .ref ktrying, .int (nI ksunkMany), .int ksending, .int kfleets, .ref ktext, .int (nI ktexts), .int kseed, .ref kline, .ref kwritten, .int (nI klineMany), .int khasWritten, .ref knode, .int (nI knodes), .int (nI konesMany), .int (nI kwithin), .int (nI ktop)])), (know, .inl (ky 0, 373, .inl g82))] := hD
                    refine lv_aload_n hx hb dX12_startSo_112 rfl (lv_at hl 1 rfl) ?_
                    refine va_get (D := (dC, dI)) (ci := 12) (v := .ref know) (C := RX12) (T := TX12) (N := 52) hx hb hts hin12 hown hK hP 0 rfl rfl 14 (by decide) (hts (.fieldLink RX12 98 "PorridgeSeaModel" "now" "[I") (List.mem_of_getElem? (i := 1) rfl)) (fun _ h9 => h9) rfl dX12_startSo_113 ?_
                    refine lv_bipush (v := nI 119) hx hb dX12_startSo_116 (by decide) ?_
                    refine lv_iload_n hx hb dX12_startSo_118 rfl (lv_at hl 0 rfl) ?_
                    refine lv_iadd hx hb dX12_startSo_119 ?_
                    refine r_ti (nI (119 + k60)) (nI_add _ _) ?_
                    refine lv_aload_n hx hb dX12_startSo_120 rfl (lv_at hl 1 rfl) ?_
                    refine va_get (D := (dC, dI)) (ci := 12) (v := .ref know) (C := RX12) (T := TX12) (N := 52) hx hb hts hin12 hown hK hP 0 rfl rfl 14 (by decide) (hts (.fieldLink RX12 98 "PorridgeSeaModel" "now" "[I") (List.mem_of_getElem? (i := 1) rfl)) (fun _ h9 => h9) rfl dX12_startSo_121 ?_
                    refine lv_bipush (v := nI 61) hx hb dX12_startSo_124 (by decide) ?_
                    refine lv_iload_n hx hb dX12_startSo_126 rfl (lv_at hl 0 rfl) ?_
                    refine lv_iadd hx hb dX12_startSo_127 ?_
                    refine r_ti (nI (61 + k60)) (nI_add _ _) ?_
                    obtain ⟨y86, e87⟩ : ∃ z9, z9 = g82 (61 + k60) := ⟨_, rfl⟩
                    refine r_iald hx hb hK hP 1 rfl (61 + k60) (lf_x_startSo_19 k60 f61 n66 y70 g74 y78 g82 y86 j62 j63 j64 hm68 c69 e71 b72 b73 nb76 sb77 e79 b80 b81 nb84 sb85 e87) (by decide) y86 e87.symm dX12_startSo_128 ?_
                    refine r_iast (x := y86) hx hb hK hP hD hS 1 rfl (119 + k60) (lf_x_startSo_22 k60 f61 n66 y70 g74 y78 g82 y86 j62 j63 j64 hm68 c69 e71 b72 b73 nb76 sb77 e79 b80 b81 nb84 sb85 e87) (by decide) dX12_startSo_129 (fun H locs hP hD hS => ?_)
                    obtain ⟨g88, e89⟩ : ∃ z9, z9 = upd g82 (119 + k60) y86 := ⟨_, rfl⟩
                    rw [← e89] at hP hD
                    have nb90 : NB g88 := by rw [e89]; exact st_NB_119 nb84 (119 + k60) (lf_x_startSo_23 k60 f61 n66 y70 g74 y78 g82 y86 j62 j63 j64 hm68 c69 e71 b72 b73 nb76 sb77 e79 b80 b81 nb84 sb85 e87) (lf_x_startSo_24 k60 f61 n66 y70 g74 y78 g82 y86 j62 j63 j64 hm68 c69 e71 b72 b73 nb76 sb77 e79 b80 b81 nb84 sb85 e87) (lf_x_startSo_20 k60 f61 n66 y70 g74 y78 g82 y86 j62 j63 j64 hm68 c69 e71 b72 b73 nb76 sb77 e79 b80 b81 nb84 sb85 e87) (lf_x_startSo_21 k60 f61 n66 y70 g74 y78 g82 y86 j62 j63 j64 hm68 c69 e71 b72 b73 nb76 sb77 e79 b80 b81 nb84 sb85 e87)
                    have sb91 : SB g88 := by rw [e89]; exact SB_lo sb85 _ _ (by omega)
                    have hP : va_P (dC, dI) vwCl [(o, .inr (12, [.int kthrown, .ref ktape, .int (nI ktaped), .int (nI ksize), .int (nI klimit), .int (nI kto), .int (nI kfrom), .int kkind, .int knumber, .int ksign, .int kfault, .int kplace, .long kword, .int ktold, .ref know, .ref kread, .ref kkept, .ref ksnaps, .ref kaside, .ref kname, .ref kreadName, .ref kkeptName, .ref kisKept, .ref konces, .int (nI ksnapMany), .int khasCells, .ref kpoured, .ref kfar, .ref ksides, .int (nI ksideMany), .int kwayDays, .int khasWay, .ref klines, .ref kmet, .int (nI kmetMany), .ref ksunk, .ref ktrying, .int (nI ksunkMany), .int ksending, .int kfleets, .ref ktext, .int (nI ktexts), .int kseed, .ref kline, .ref kwritten, .int (nI klineMany), .int khasWritten, .ref knode, .int (nI knodes), .int (nI konesMany), .int (nI kwithin), .int (nI ktop)])), (know, .inl (ky 0, 373, .inl g88))] H := hP
                    have hD : va_D A [(o, .inr (12, [.int kthrown, .ref ktape, .int (nI ktaped), .int (nI ksize), .int (nI klimit), .int (nI kto), .int (nI kfrom), .int kkind, .int knumber, .int ksign, .int kfault, .int kplace, .long kword, .int ktold, .ref know, .ref kread, .ref kkept, .ref ksnaps, .ref kaside, .ref kname, .ref kreadName, .ref kkeptName, .ref kisKept, .ref konces, .int (nI ksnapMany), .int khasCells, .ref kpoured, .ref kfar, .ref ksides, .int (nI ksideMany), .int kwayDays, .int khasWay, .ref klines, .ref kmet, .int (nI kmetMany), .ref ksunk, .ref ktrying, .int (nI ksunkMany), .int ksending, .int kfleets, .ref ktext, .int (nI ktexts), .int kseed, .ref kline, .ref kwritten, .int (nI klineMany), .int khasWritten, .ref knode, .int (nI knodes), .int (nI konesMany), .int (nI kwithin), .int (nI ktop)])), (know, .inl (ky 0, 373, .inl g88))] := hD
                    refine lv_iinc (v := nI (k60 + 1)) (lv' := [(1, .int (nI (k60 + 1))), (0, .ref o)]) hx hb dX12_startSo_130 hl (k := 0) rfl (show nI k60 + nI 1 = nI (k60 + 1) from nI_add _ _) (by decide) rfl (fun ls hl => ?_)
                    refine lv_goto (tgt := 70) hx hb dX12_startSo_133 (by decide) ?_
                    exact ih67 (k60 + 1) g88 (lf_x_startSo_25 k60 f61 n66 y70 g74 y78 g82 y86 j62 j63 j64 hm68 c69 e71 b72 b73 nb76 sb77 e79 b80 b81 nb84 sb85 e87) nb90 sb91 (lf_x_startSo_26 k60 f61 n66 y70 g74 y78 g82 y86 j62 j63 j64 hm68 c69 e71 b72 b73 nb76 sb77 e79 b80 b81 nb84 sb85 e87) _ _ _ hP hD hS (lv_sub hl [0, 1] rfl)
              exact hL65 ((6 - 0) + 1) 0 f41 (lf_x_startSo_27) j43 j44 (Nat.lt_succ_self _) _ _ _ hP hD hS (lv_sub hl [0, 1] rfl)
            · refine lv_aload_n hx hb dX12_startSo_44 rfl (lv_at hl 1 rfl) ?_
              refine va_get (D := (dC, dI)) (ci := 12) (v := .ref know) (C := RX12) (T := TX12) (N := 52) hx hb hts hin12 hown hK hP 0 rfl rfl 14 (by decide) (hts (.fieldLink RX12 98 "PorridgeSeaModel" "now" "[I") (List.mem_of_getElem? (i := 1) rfl)) (fun _ h9 => h9) rfl dX12_startSo_45 ?_
              refine lv_bipush (v := nI 71) hx hb dX12_startSo_48 (by decide) ?_
              refine lv_iload_n hx hb dX12_startSo_50 rfl (lv_at hl 0 rfl) ?_
              refine lv_iadd hx hb dX12_startSo_51 ?_
              refine r_ti (nI (71 + k40)) (nI_add _ _) ?_
              refine lv_aload_n hx hb dX12_startSo_52 rfl (lv_at hl 1 rfl) ?_
              refine va_get (D := (dC, dI)) (ci := 12) (v := .ref know) (C := RX12) (T := TX12) (N := 52) hx hb hts hin12 hown hK hP 0 rfl rfl 14 (by decide) (hts (.fieldLink RX12 98 "PorridgeSeaModel" "now" "[I") (List.mem_of_getElem? (i := 1) rfl)) (fun _ h9 => h9) rfl dX12_startSo_53 ?_
              refine lv_bipush (v := nI 7) hx hb dX12_startSo_56 (by decide) ?_
              refine lv_iload_n hx hb dX12_startSo_58 rfl (lv_at hl 0 rfl) ?_
              refine lv_iadd hx hb dX12_startSo_59 ?_
              refine r_ti (nI (7 + k40)) (nI_add _ _) ?_
              obtain ⟨y92, e93⟩ : ∃ z9, z9 = f41 (7 + k40) := ⟨_, rfl⟩
              refine r_iald hx hb hK hP 1 rfl (7 + k40) (lf_x_startSo_28 k40 f41 n46 y92 j42 j43 j44 hm48 c49 e93) (by decide) y92 e93.symm dX12_startSo_60 ?_
              obtain ⟨b94, b95⟩ : (0 : Int) ≤ y92.toInt ∧ y92.toInt ≤ 9 := by rw [e93]; exact ld_NB_7 j43 (7 + k40) (lf_x_startSo_29 k40 f41 n46 y92 j42 j43 j44 hm48 c49 e93) (lf_x_startSo_30 k40 f41 n46 y92 j42 j43 j44 hm48 c49 e93)
              refine r_iast (x := y92) hx hb hK hP hD hS 1 rfl (71 + k40) (lf_x_startSo_33 k40 f41 n46 y92 j42 j43 j44 hm48 c49 e93 b94 b95) (by decide) dX12_startSo_61 (fun H locs hP hD hS => ?_)
              obtain ⟨g96, e97⟩ : ∃ z9, z9 = upd f41 (71 + k40) y92 := ⟨_, rfl⟩
              rw [← e97] at hP hD
              have nb98 : NB g96 := by rw [e97]; exact st_NB_71 j43 (71 + k40) (lf_x_startSo_34 k40 f41 n46 y92 j42 j43 j44 hm48 c49 e93 b94 b95) (lf_x_startSo_35 k40 f41 n46 y92 j42 j43 j44 hm48 c49 e93 b94 b95) (lf_x_startSo_31 k40 f41 n46 y92 j42 j43 j44 hm48 c49 e93 b94 b95) (lf_x_startSo_32 k40 f41 n46 y92 j42 j43 j44 hm48 c49 e93 b94 b95)
              have sb99 : SB g96 := by rw [e97]; exact SB_lo j44 _ _ (by omega)
              have hP : va_P (dC, dI) vwCl [(o, .inr (12, [.int kthrown, .ref ktape, .int (nI ktaped), .int (nI ksize), .int (nI klimit), .int (nI kto), .int (nI kfrom), .int kkind, .int knumber, .int ksign, .int kfault, .int kplace, .long kword, .int ktold, .ref know, .ref kread, .ref kkept, .ref ksnaps, .ref kaside, .ref kname, .ref kreadName, .ref kkeptName, .ref kisKept, .ref konces, .int (nI ksnapMany), .int khasCells, .ref kpoured, .ref kfar, .ref ksides, .int (nI ksideMany), .int kwayDays, .int khasWay, .ref klines, .ref kmet, .int (nI kmetMany), .ref ksunk, .ref ktrying, .int (nI ksunkMany), .int ksending, .int kfleets, .ref ktext, .int (nI ktexts), .int kseed, .ref kline, .ref kwritten, .int (nI klineMany), .int khasWritten, .ref knode, .int (nI knodes), .int (nI konesMany), .int (nI kwithin), .int (nI ktop)])), (know, .inl (ky 0, 373, .inl g96))] H := hP
              have hD : va_D A [(o, .inr (12, [.int kthrown, .ref ktape, .int (nI ktaped), .int (nI ksize), .int (nI klimit), .int (nI kto), .int (nI kfrom), .int kkind, .int knumber, .int ksign, .int kfault, .int kplace, .long kword, .int ktold, .ref know, .ref kread, .ref kkept, .ref ksnaps, .ref kaside, .ref kname, .ref kreadName, .ref kkeptName, .ref kisKept, .ref konces, .int (nI ksnapMany), .int khasCells, .ref kpoured, .ref kfar, .ref ksides, .int (nI ksideMany), .int kwayDays, .int khasWay, .ref klines, .ref kmet, .int (nI kmetMany), .ref ksunk, .ref ktrying, .int (nI ksunkMany), .int ksending, .int kfleets, .ref ktext, .int (nI ktexts), .int kseed, .ref kline, .ref kwritten, .int (nI klineMany), .int khasWritten, .ref knode, .int (nI knodes), .int (nI konesMany), .int (nI kwithin), .int (nI ktop)])), (know, .inl (ky 0, 373, .inl g96))] := hD
              refine lv_iinc (v := nI (k40 + 1)) (lv' := [(1, .int (nI (k40 + 1))), (0, .ref o)]) hx hb dX12_startSo_62 hl (k := 0) rfl (show nI k40 + nI 1 = nI (k40 + 1) from nI_add _ _) (by decide) rfl (fun ls hl => ?_)
              refine lv_goto (tgt := 38) hx hb dX12_startSo_65 (by decide) ?_
              exact ih47 (k40 + 1) g96 (lf_x_startSo_36 k40 f41 n46 y92 j42 j43 j44 hm48 c49 e93 b94 b95) nb98 sb99 (lf_x_startSo_37 k40 f41 n46 y92 j42 j43 j44 hm48 c49 e93 b94 b95) _ _ _ hP hD hS (lv_sub hl [0, 1] rfl)
        exact hL45 ((36 - 0) + 1) 0 g26 (lf_x_startSo_38) nb28 sb29 (Nat.lt_succ_self _) _ _ _ hP hD hS (lv_sub hl [0, 1] rfl)
      · refine lv_aload_n hx hb dX12_startSo_10 rfl (lv_at hl 1 rfl) ?_
        refine va_get (D := (dC, dI)) (ci := 12) (v := .ref know) (C := RX12) (T := TX12) (N := 52) hx hb hts hin12 hown hK hP 0 rfl rfl 14 (by decide) (hts (.fieldLink RX12 98 "PorridgeSeaModel" "now" "[I") (List.mem_of_getElem? (i := 1) rfl)) (fun _ h9 => h9) rfl dX12_startSo_11 ?_
        refine lv_iload_n hx hb dX12_startSo_14 rfl (lv_at hl 0 rfl) ?_
        refine lv_iconst (v := nI 0) hx hb dX12_startSo_15 (by decide) ?_
        refine r_iast (x := (nI 0)) hx hb hK hP hD hS 1 rfl k13 (lf_x_startSo_39 k13 n20 j15 j18 hm22 c23) (by decide) dX12_startSo_16 (fun H locs hP hD hS => ?_)
        obtain ⟨g100, e101⟩ : ∃ z9, z9 = upd f14 k13 (nI 0) := ⟨_, rfl⟩
        rw [← e101] at hP hD
        have nb102 : NB g100 := by rw [e101]; exact nb_zero j16 _ (by omega) (by omega)
        have sb103 : SB g100 := by rw [e101]; exact SB_zero j17 _
        have hP : va_P (dC, dI) vwCl [(o, .inr (12, [.int kthrown, .ref ktape, .int (nI ktaped), .int (nI ksize), .int (nI klimit), .int (nI kto), .int (nI kfrom), .int kkind, .int knumber, .int ksign, .int kfault, .int kplace, .long kword, .int ktold, .ref know, .ref kread, .ref kkept, .ref ksnaps, .ref kaside, .ref kname, .ref kreadName, .ref kkeptName, .ref kisKept, .ref konces, .int (nI ksnapMany), .int khasCells, .ref kpoured, .ref kfar, .ref ksides, .int (nI ksideMany), .int kwayDays, .int khasWay, .ref klines, .ref kmet, .int (nI kmetMany), .ref ksunk, .ref ktrying, .int (nI ksunkMany), .int ksending, .int kfleets, .ref ktext, .int (nI ktexts), .int kseed, .ref kline, .ref kwritten, .int (nI klineMany), .int khasWritten, .ref knode, .int (nI knodes), .int (nI konesMany), .int (nI kwithin), .int (nI ktop)])), (know, .inl (ky 0, 373, .inl g100))] H := hP
        have hD : va_D A [(o, .inr (12, [.int kthrown, .ref ktape, .int (nI ktaped), .int (nI ksize), .int (nI klimit), .int (nI kto), .int (nI kfrom), .int kkind, .int knumber, .int ksign, .int kfault, .int kplace, .long kword, .int ktold, .ref know, .ref kread, .ref kkept, .ref ksnaps, .ref kaside, .ref kname, .ref kreadName, .ref kkeptName, .ref kisKept, .ref konces, .int (nI ksnapMany), .int khasCells, .ref kpoured, .ref kfar, .ref ksides, .int (nI ksideMany), .int kwayDays, .int khasWay, .ref klines, .ref kmet, .int (nI kmetMany), .ref ksunk, .ref ktrying, .int (nI ksunkMany), .int ksending, .int kfleets, .ref ktext, .int (nI ktexts), .int kseed, .ref kline, .ref kwritten, .int (nI klineMany), .int khasWritten, .ref knode, .int (nI knodes), .int (nI konesMany), .int (nI kwithin), .int (nI ktop)])), (know, .inl (ky 0, 373, .inl g100))] := hD
        refine lv_iinc (v := nI (k13 + 1)) (lv' := [(1, .int (nI (k13 + 1))), (0, .ref o)]) hx hb dX12_startSo_17 hl (k := 0) rfl (show nI k13 + nI 1 = nI (k13 + 1) from nI_add _ _) (by decide) rfl (fun ls hl => ?_)
        refine lv_goto (tgt := 3) hx hb dX12_startSo_20 (by decide) ?_
        exact ih21 (k13 + 1) g100 (lf_x_startSo_40 k13 n20 j15 j18 hm22 c23) nb102 sb103 (lf_x_startSo_41 k13 n20 j15 j18 hm22 c23) (lf_x_startSo_42 k13 n20 j15 j18 hm22 c23) _ _ _ hP hD hS (lv_sub hl [0, 1] rfl)
  exact hL19 ((373 - 67) + 1) 67 knowF (lf_x_startSo_43) ab_now sb_now (lf_x_startSo_44) (Nat.lt_succ_self _) _ _ _ hP hD hS (lv_sub hl [0, 1] rfl)
set_option maxRecDepth 20000 in
theorem lf_x_findIn_1 (nmF : Nat → Int64) (bq : Nat) (y : Int32) (k5 : Nat) (n8 : Nat) (y12 : Int64) (hb6 : bq ≤ 6) (hy6 : y.toInt ≤ 6) (j6 : k5 ≤ 6) (hm10 : 6 - k5 < n8 + 1) (c11 : ¬ y ≤ nI k5) (e13 : y12 = nmF (bq + k5)) : (bq + k5) < 12 := by
  have b_y := ia_b y
  have b_y12 := Int64.toInt_lt y12
  try have k_0 := ia_n k5 (by first | decide | omega)
  try simp only [ia_lt, ia_le, ia_eq, ia_m1, ia_0, ia_1, ne_eq, true_and, and_true, false_and, and_false, or_false, false_or, or_true, true_or, not_true_eq_false, not_false_eq_true] at *
  all_goals omega
set_option maxRecDepth 20000 in
theorem lf_x_findIn_2 (nmF : Nat → Int64) (bq : Nat) (y : Int32) (k5 : Nat) (n8 : Nat) (y12 : Int64) (hb6 : bq ≤ 6) (hy6 : y.toInt ≤ 6) (j6 : k5 ≤ 6) (hm10 : 6 - k5 < n8 + 1) (c11 : ¬ y ≤ nI k5) (e13 : y12 = nmF (bq + k5)) : (k5 + 1) ≤ 6 := by
  have b_y := ia_b y
  have b_y12 := Int64.toInt_lt y12
  try have k_0 := ia_n k5 (by first | decide | omega)
  try simp only [ia_lt, ia_le, ia_eq, ia_m1, ia_0, ia_1, ne_eq, true_and, and_true, false_and, and_false, or_false, false_or, or_true, true_or, not_true_eq_false, not_false_eq_true] at *
  all_goals omega
set_option maxRecDepth 20000 in
theorem lf_x_findIn_3 (nmF : Nat → Int64) (bq : Nat) (y : Int32) (k5 : Nat) (n8 : Nat) (y12 : Int64) (hb6 : bq ≤ 6) (hy6 : y.toInt ≤ 6) (j6 : k5 ≤ 6) (hm10 : 6 - k5 < n8 + 1) (c11 : ¬ y ≤ nI k5) (e13 : y12 = nmF (bq + k5)) : 6 - (k5 + 1) < n8 := by
  have b_y := ia_b y
  have b_y12 := Int64.toInt_lt y12
  try have k_0 := ia_n k5 (by first | decide | omega)
  try simp only [ia_lt, ia_le, ia_eq, ia_m1, ia_0, ia_1, ne_eq, true_and, and_true, false_and, and_false, or_false, false_or, or_true, true_or, not_true_eq_false, not_false_eq_true] at *
  all_goals omega
set_option maxRecDepth 20000 in
theorem lf_x_findIn_4 (nmF : Nat → Int64) (bq : Nat) (y : Int32) (k5 : Nat) (n8 : Nat) (y12 : Int64) (hb6 : bq ≤ 6) (hy6 : y.toInt ≤ 6) (j6 : k5 ≤ 6) (hm10 : 6 - k5 < n8 + 1) (c11 : ¬ y ≤ nI k5) (e13 : y12 = nmF (bq + k5)) : k5 < 6 := by
  have b_y := ia_b y
  have b_y12 := Int64.toInt_lt y12
  try have k_0 := ia_n k5 (by first | decide | omega)
  try simp only [ia_lt, ia_le, ia_eq, ia_m1, ia_0, ia_1, ne_eq, true_and, and_true, false_and, and_false, or_false, false_or, or_true, true_or, not_true_eq_false, not_false_eq_true] at *
  all_goals omega
set_option maxRecDepth 20000 in
theorem lf_x_findIn_5   : 0 ≤ 6 := by
  try simp only [ia_lt, ia_le, ia_eq, ia_m1, ia_0, ia_1, ne_eq, true_and, and_true, false_and, and_false, or_false, false_or, or_true, true_or, not_true_eq_false, not_false_eq_true] at *
  all_goals omega
set_option maxHeartbeats 4000000 in
set_option maxRecDepth 100000 in
theorem c_x_findIn (l : Launch) (dC : Nat → ClassId) (dI : Nat → Nat → Nat) (ky : Nat → ClassId) (nm : Nat) (nmF : Nat → Int64) (bq : Nat) (y : Int32) (wq : Int64) (hb6 : bq ≤ 6) (hy6 : y.toInt ≤ 6) : Met l yX12_findIn wsX12_findIn ({ frames := 0, cells := 0, slots := 0, locals := 0 }) (PcP dC dI ky [.ref nm, .int (nI bq), .int y, .long wq] [(nm, .inl (ky 1, 12, .inr (.inl nmF)))]) (vp_Si (fun r : Int32 => r = (-1 : Int32) ∨ (∃ k9 : Nat, (k9 < 6) ∧ r = nI k9))) 0 0 (fun _ => False) := by
  refine Met.ofW (cc := cX12_findIn) (maxL := 6) (ret := (some .int)) (by decide) rfl ?_
  intro p e s m args below meth c s₁ B hml hv
  obtain ⟨rfl, hP, hK⟩ := hv
  have hx := B.exec
  have hb := B.bytes
  have hr := B.returns
  have hts := atoms_spec (ws := wsX12_findIn) B.pre
  have hown : s.vm.findClass RX12 = some m.cls := findClass_of_methodNamed B.named
  have hlocks := B.notSynchronized
  have hl := lv_entry ([.ref nm, .int (nI bq), .int y, .long wq]) (n := 6) (Nat.le_of_ble_eq_true rfl)
  rw [lg_entry_eq]
  generalize (lg_sl ([.ref nm, .int (nI bq), .int y, .long wq]) ++ List.replicate (6 - (lg_sl ([.ref nm, .int (nI bq), .int y, .long wq])).length) Slot.unset).toArray = ls at hl ⊢
  have hl : lv_has ls 6 [(0, .ref nm), (1, .int (nI bq)), (2, .int y), (3, .long wq)] := hl
  refine q_name (fun Q hQ => ?_)
  generalize ([.ref nm, .int (nI bq), .int y, .long wq] : List Value).toArray = args at hts hQ ⊢
  refine lv_iconst (v := nI 0) hx hb dX12_findIn_0 (by decide) ?_
  refine lv_istore (lv' := [(5, .int (nI 0)), (0, .ref nm), (1, .int (nI bq)), (2, .int y), (3, .long wq)]) hx hb dX12_findIn_1 hl (by decide) rfl (fun ls hl => ?_)
  have hL7 : ∀ (n8 : Nat) (k5 : Nat), (k5 ≤ 6) → 6 - k5 < n8 → ∀ (ls : Array Slot), lv_has ls 6 [(5, .int (nI k5)), (0, .ref nm), (1, .int (nI bq)), (2, .int y), (3, .long wq)] → W p l e (headSpec wsX12_findIn ({ frames := 0, cells := 0, slots := 0, locals := 0 })).room s m args below meth c s.heap [] 0 0 Q (F0 m 3 ls []) := by
    intro n8
    induction n8 with
    | zero => intro k5 _ h9; exact absurd h9 (Nat.not_lt_zero _)
    | succ n8 ih9 =>
      intro k5 j6 hm10 ls hl
      refine lv_iload hx hb dX12_findIn_3 (lv_at hl 0 rfl) ?_
      refine lv_iload_n hx hb dX12_findIn_5 rfl (lv_at hl 3 rfl) ?_
      refine lv_icmp_ge (tgt := 29) hx hb dX12_findIn_6 (by decide) (fun c11 => ?_) (fun c11 => ?_)
      · refine lv_iconst (v := (-1 : Int32)) hx hb dX12_findIn_29 (by decide) ?_
        rw [hQ]
        exact W.iret (v := (-1 : Int32)) hx hb hr (fun t9 ht9 hW9 => ⟨(-1 : Int32), rfl, (Or.inl rfl), ht9⟩) (fun _ h => absurd h List.not_mem_nil) dX12_findIn_30
      · refine lv_aload_n hx hb dX12_findIn_9 rfl (lv_at hl 1 rfl) ?_
        refine lv_iload_n hx hb dX12_findIn_10 rfl (lv_at hl 2 rfl) ?_
        refine lv_iload hx hb dX12_findIn_11 (lv_at hl 0 rfl) ?_
        refine lv_iadd hx hb dX12_findIn_13 ?_
        refine r_ti (nI (bq + k5)) (nI_add _ _) ?_
        obtain ⟨y12, e13⟩ : ∃ z9, z9 = nmF (bq + k5) := ⟨_, rfl⟩
        refine r_lald hx hb hK hP 0 rfl (bq + k5) (lf_x_findIn_1 nmF bq y k5 n8 y12 hb6 hy6 j6 hm10 c11 e13) (by decide) y12 e13.symm dX12_findIn_14 ?_
        refine lv_lload_n hx hb dX12_findIn_15 rfl (lv_at hl 4 rfl) ?_
        refine W.lcmp hx hb dX12_findIn_16 ?_
        refine lv_topi (fun y14 e15 => ?_)
        refine lv_if_ne (tgt := 23) hx hb dX12_findIn_17 (by decide) (fun c16 => ?_) (fun c16 => ?_)
        · refine lv_iinc (v := nI (k5 + 1)) (lv' := [(5, .int (nI (k5 + 1))), (0, .ref nm), (1, .int (nI bq)), (2, .int y), (3, .long wq)]) hx hb dX12_findIn_23 hl (k := 0) rfl (show nI k5 + nI 1 = nI (k5 + 1) from nI_add _ _) (by decide) rfl (fun ls hl => ?_)
          refine lv_goto (tgt := 3) hx hb dX12_findIn_26 (by decide) ?_
          exact ih9 (k5 + 1) (lf_x_findIn_2 nmF bq y k5 n8 y12 hb6 hy6 j6 hm10 c11 e13) (lf_x_findIn_3 nmF bq y k5 n8 y12 hb6 hy6 j6 hm10 c11 e13) _ (lv_sub hl [0, 1, 2, 3, 4] rfl)
        · refine lv_iload hx hb dX12_findIn_20 (lv_at hl 0 rfl) ?_
          rw [hQ]
          exact W.iret (v := nI k5) hx hb hr (fun t9 ht9 hW9 => ⟨nI k5, rfl, (Or.inr ⟨k5, (lf_x_findIn_4 nmF bq y k5 n8 y12 hb6 hy6 j6 hm10 c11 e13), rfl⟩), ht9⟩) (fun _ h => absurd h List.not_mem_nil) dX12_findIn_22
  exact hL7 ((6 - 0) + 1) 0 (lf_x_findIn_5) (Nat.lt_succ_self _) _ (lv_sub hl [0, 1, 2, 3, 4] rfl)
