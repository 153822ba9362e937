theorem dX12_layFar_0 : decode cX12_layFar 0 = .ok (.iconst 0, 1) := by decide +kernel
theorem dX12_layFar_1 : decode cX12_layFar 1 = .ok (.istore_n 3, 1) := by decide +kernel
theorem dX12_layFar_2 : decode cX12_layFar 2 = .ok (.iload_n 3, 1) := by decide +kernel
theorem dX12_layFar_3 : decode cX12_layFar 3 = .ok (.bipush 36, 2) := by decide +kernel
theorem dX12_layFar_5 : decode cX12_layFar 5 = .ok (.if_icmp .ge 18, 3) := by decide +kernel
theorem dX12_layFar_8 : decode cX12_layFar 8 = .ok (.aload_n 0, 1) := by decide +kernel
theorem dX12_layFar_9 : decode cX12_layFar 9 = .ok (.getfield 133, 3) := by decide +kernel
theorem dX12_layFar_12 : decode cX12_layFar 12 = .ok (.iload_n 3, 1) := by decide +kernel
theorem dX12_layFar_13 : decode cX12_layFar 13 = .ok (.ldc_w 315, 3) := by decide +kernel
theorem dX12_layFar_16 : decode cX12_layFar 16 = .ok (.iastore, 1) := by decide +kernel
theorem dX12_layFar_17 : decode cX12_layFar 17 = .ok (.iinc 3 1, 3) := by decide +kernel
theorem dX12_layFar_20 : decode cX12_layFar 20 = .ok (.goto (-18), 3) := by decide +kernel
theorem dX12_layFar_23 : decode cX12_layFar 23 = .ok (.aload_n 0, 1) := by decide +kernel
theorem dX12_layFar_24 : decode cX12_layFar 24 = .ok (.getfield 133, 3) := by decide +kernel
theorem dX12_layFar_27 : decode cX12_layFar 27 = .ok (.iload_n 2, 1) := by decide +kernel
theorem dX12_layFar_28 : decode cX12_layFar 28 = .ok (.iconst 0, 1) := by decide +kernel
theorem dX12_layFar_29 : decode cX12_layFar 29 = .ok (.iastore, 1) := by decide +kernel
theorem dX12_layFar_30 : decode cX12_layFar 30 = .ok (.iconst 1, 1) := by decide +kernel
theorem dX12_layFar_31 : decode cX12_layFar 31 = .ok (.istore_n 3, 1) := by decide +kernel
theorem dX12_layFar_32 : decode cX12_layFar 32 = .ok (.iload_n 3, 1) := by decide +kernel
theorem dX12_layFar_33 : decode cX12_layFar 33 = .ok (.ifCond .eq 91, 3) := by decide +kernel
theorem dX12_layFar_36 : decode cX12_layFar 36 = .ok (.iconst 0, 1) := by decide +kernel
theorem dX12_layFar_37 : decode cX12_layFar 37 = .ok (.istore_n 3, 1) := by decide +kernel
theorem dX12_layFar_38 : decode cX12_layFar 38 = .ok (.iconst 0, 1) := by decide +kernel
theorem dX12_layFar_39 : decode cX12_layFar 39 = .ok (.istore 4, 2) := by decide +kernel
theorem dX12_layFar_41 : decode cX12_layFar 41 = .ok (.iload 4, 2) := by decide +kernel
theorem dX12_layFar_43 : decode cX12_layFar 43 = .ok (.bipush 36, 2) := by decide +kernel
theorem dX12_layFar_45 : decode cX12_layFar 45 = .ok (.if_icmp .ge 76, 3) := by decide +kernel
theorem dX12_layFar_48 : decode cX12_layFar 48 = .ok (.aload_n 0, 1) := by decide +kernel
theorem dX12_layFar_49 : decode cX12_layFar 49 = .ok (.iload 4, 2) := by decide +kernel
theorem dX12_layFar_51 : decode cX12_layFar 51 = .ok (.invokevirtual 279, 3) := by decide +kernel
theorem dX12_layFar_54 : decode cX12_layFar 54 = .ok (.ifCond .ne 6, 3) := by decide +kernel
theorem dX12_layFar_60 : decode cX12_layFar 60 = .ok (.iconst 0, 1) := by decide +kernel
theorem dX12_layFar_61 : decode cX12_layFar 61 = .ok (.istore 5, 2) := by decide +kernel
theorem dX12_layFar_63 : decode cX12_layFar 63 = .ok (.iload 5, 2) := by decide +kernel
theorem dX12_layFar_65 : decode cX12_layFar 65 = .ok (.iconst 3, 1) := by decide +kernel
theorem dX12_layFar_66 : decode cX12_layFar 66 = .ok (.if_icmp .gt 49, 3) := by decide +kernel
theorem dX12_layFar_69 : decode cX12_layFar 69 = .ok (.aload_n 0, 1) := by decide +kernel
theorem dX12_layFar_70 : decode cX12_layFar 70 = .ok (.iload_n 1, 1) := by decide +kernel
theorem dX12_layFar_71 : decode cX12_layFar 71 = .ok (.iload 4, 2) := by decide +kernel
theorem dX12_layFar_73 : decode cX12_layFar 73 = .ok (.iload 5, 2) := by decide +kernel
theorem dX12_layFar_75 : decode cX12_layFar 75 = .ok (.invokevirtual 316, 3) := by decide +kernel
theorem dX12_layFar_78 : decode cX12_layFar 78 = .ok (.aload_n 0, 1) := by decide +kernel
theorem dX12_layFar_79 : decode cX12_layFar 79 = .ok (.getfield 133, 3) := by decide +kernel
theorem dX12_layFar_82 : decode cX12_layFar 82 = .ok (.iload 4, 2) := by decide +kernel
theorem dX12_layFar_84 : decode cX12_layFar 84 = .ok (.iaload, 1) := by decide +kernel
theorem dX12_layFar_85 : decode cX12_layFar 85 = .ok (.if_icmp .lt 6, 3) := by decide +kernel
theorem dX12_layFar_91 : decode cX12_layFar 91 = .ok (.aload_n 0, 1) := by decide +kernel
theorem dX12_layFar_92 : decode cX12_layFar 92 = .ok (.getfield 133, 3) := by decide +kernel
theorem dX12_layFar_95 : decode cX12_layFar 95 = .ok (.iload 4, 2) := by decide +kernel
theorem dX12_layFar_97 : decode cX12_layFar 97 = .ok (.aload_n 0, 1) := by decide +kernel
theorem dX12_layFar_98 : decode cX12_layFar 98 = .ok (.iload_n 1, 1) := by decide +kernel
theorem dX12_layFar_99 : decode cX12_layFar 99 = .ok (.iload 4, 2) := by decide +kernel
theorem dX12_layFar_101 : decode cX12_layFar 101 = .ok (.iload 5, 2) := by decide +kernel
theorem dX12_layFar_103 : decode cX12_layFar 103 = .ok (.invokevirtual 316, 3) := by decide +kernel
theorem dX12_layFar_106 : decode cX12_layFar 106 = .ok (.iastore, 1) := by decide +kernel
theorem dX12_layFar_107 : decode cX12_layFar 107 = .ok (.iconst 1, 1) := by decide +kernel
theorem dX12_layFar_108 : decode cX12_layFar 108 = .ok (.istore_n 3, 1) := by decide +kernel
theorem dX12_layFar_109 : decode cX12_layFar 109 = .ok (.iinc 5 1, 3) := by decide +kernel
theorem dX12_layFar_112 : decode cX12_layFar 112 = .ok (.goto (-49), 3) := by decide +kernel
theorem dX12_layFar_88 : decode cX12_layFar 88 = .ok (.goto 21, 3) := by decide +kernel
theorem dX12_layFar_115 : decode cX12_layFar 115 = .ok (.iinc 4 1, 3) := by decide +kernel
theorem dX12_layFar_118 : decode cX12_layFar 118 = .ok (.goto (-77), 3) := by decide +kernel
theorem dX12_layFar_57 : decode cX12_layFar 57 = .ok (.goto 58, 3) := by decide +kernel
theorem dX12_layFar_121 : decode cX12_layFar 121 = .ok (.goto (-89), 3) := by decide +kernel
theorem dX12_layFar_124 : decode cX12_layFar 124 = .ok (.return_, 1) := by decide +kernel
set_option maxRecDepth 100000 in
theorem ggX12_layFar_X12_isInSea : GoodIn wsX12_layFar wsX12_isInSea := goodIn_r _ [7, 8, 32, 33, 34, 35, 36, 37, 38, 39, 40, 41, 42, 43, 44, 45, 46, 47, 48, 49, 50, 51, 52, 53, 54, 55, 56, 57, 58, 59, 60, 61, 62, 63, 64, 65, 66, 67, 68, 69, 70, 71, 72, 73, 74, 75, 76, 77, 78, 79, 80, 81, 82, 83] rfl (by decide +kernel)
set_option maxRecDepth 100000 in
theorem ggX12_layFar_X12_farBy : GoodIn wsX12_layFar wsX12_farBy := goodIn_r _ [12, 8, 1, 2, 13, 14, 15, 6, 16, 17, 18, 19, 20, 21, 22, 23, 24, 25, 26, 27, 28, 29, 30, 31, 32, 33, 34, 35, 36, 37, 38, 39, 40, 41, 42, 43, 44, 45, 46, 47, 48, 49, 50, 51, 52, 53, 54, 55, 56, 57, 58, 59, 60, 61, 62, 63, 64, 65, 66, 67, 68, 69, 70, 71, 72, 73, 74, 75, 76, 77, 78, 79, 80, 81, 82, 83] rfl (by decide +kernel)
set_option maxRecDepth 100000 in
theorem gX12_layFar_X12_isInSea : GoodIn wsX12_layFar (wsV RX12 279 RX12 yX12_isInSea wsX12_isInSea) := goodIn_app (goodIn_of _ (by decide +kernel)) ggX12_layFar_X12_isInSea
set_option maxRecDepth 100000 in
theorem gX12_layFar_X12_farBy : GoodIn wsX12_layFar (wsV RX12 316 RX12 yX12_farBy wsX12_farBy) := goodIn_app (goodIn_of _ (by decide +kernel)) ggX12_layFar_X12_farBy
set_option maxRecDepth 20000 in
theorem lf_x_layFar_1   : 0 ≤ (nI 0).toInt := by
  try have k_0 := ia_n 0 (by first | decide | omega)
  try simp only [ia_lt, ia_le, ia_eq, ia_m1, ia_0, ia_1, ne_eq, true_and, and_true, false_and, and_false, or_false, false_or, or_true, true_or, not_true_eq_false, not_false_eq_true] at *
  all_goals omega
set_option maxRecDepth 20000 in
theorem lf_x_layFar_2   : (nI 0).toInt ≤ 100000 := by
  try have k_0 := ia_n 0 (by first | decide | omega)
  try simp only [ia_lt, ia_le, ia_eq, ia_m1, ia_0, ia_1, ne_eq, true_and, and_true, false_and, and_false, or_false, false_or, or_true, true_or, not_true_eq_false, not_false_eq_true] at *
  all_goals omega
set_option maxRecDepth 20000 in
theorem lf_x_layFar_3 (gq : Nat) (hgq : gq < 36) : gq < 36 := by
  try simp only [ia_lt, ia_le, ia_eq, ia_m1, ia_0, ia_1, ne_eq, true_and, and_true, false_and, and_false, or_false, false_or, or_true, true_or, not_true_eq_false, not_false_eq_true] at *
  all_goals omega
set_option maxRecDepth 20000 in
theorem lf_x_layFar_4 (gq : Nat) (hgq : gq < 36) : 0 ≤ gq := by
  try simp only [ia_lt, ia_le, ia_eq, ia_m1, ia_0, ia_1, ne_eq, true_and, and_true, false_and, and_false, or_false, false_or, or_true, true_or, not_true_eq_false, not_false_eq_true] at *
  all_goals omega
set_option maxRecDepth 20000 in
theorem lf_x_layFar_5 (gq : Nat) (hgq : gq < 36) : gq < 36 := by
  try simp only [ia_lt, ia_le, ia_eq, ia_m1, ia_0, ia_1, ne_eq, true_and, and_true, false_and, and_false, or_false, false_or, or_true, true_or, not_true_eq_false, not_false_eq_true] at *
  all_goals omega
set_option maxRecDepth 20000 in
theorem lf_x_layFar_6 (knowF : Nat → Int32) (bq : Nat) (gq : Nat) (g18 : Nat → Int32) (x28 : Int32) (f29 : Nat → Int32) (n35 : Nat) (ab_now : NB knowF) (hbq : bq < 6) (hgq : gq < 36) (nb20 : FB36 g18) (hI21 : FI knowF g18 bq gq) (j30 : x28 = nI 0 ∨ x28 = nI 1) (j31 : FB36 f29) (j32 : FI knowF f29 bq gq) (j33 : x28 = nI 1 ∨ FX knowF f29 bq 36 0) (hm37 : 2 * sumF f29 36 + x28.toInt.toNat < n35 + 1) (c38 : x28 = 0) : FX knowF f29 bq 36 0 := by
  rcases j33 with h9 | h9
  · rw [c38] at h9; exact absurd h9 (by decide)
  · exact h9
set_option maxRecDepth 20000 in
theorem lf_x_layFar_7 (knowF : Nat → Int32) (bq : Nat) (gq : Nat) (g18 : Nat → Int32) (x28 : Int32) (f29 : Nat → Int32) (n35 : Nat) (k59 : Nat) (x60 : Int32) (f61 : Nat → Int32) (n70 : Nat) (ab_now : NB knowF) (hbq : bq < 6) (hgq : gq < 36) (nb20 : FB36 g18) (hI21 : FI knowF g18 bq gq) (j30 : x28 = nI 0 ∨ x28 = nI 1) (j31 : FB36 f29) (j32 : FI knowF f29 bq gq) (j33 : x28 = nI 1 ∨ FX knowF f29 bq 36 0) (hm37 : 2 * sumF f29 36 + x28.toInt.toNat < n35 + 1) (c38 : ¬ x28 = 0) (j62 : k59 ≤ 36) (j63 : x60 = nI 0 ∨ x60 = nI 1) (j64 : FB36 f61) (j65 : FI knowF f61 bq gq) (j66 : x60 = nI 1 ∨ FX knowF f61 bq k59 0) (j67 : sumF f61 36 ≤ sumF f29 36) (j68 : x60 = nI 0 ∨ sumF f61 36 < sumF f29 36) (hm72 : 36 - k59 < n70 + 1) (c73 : 36 ≤ k59) : x60 = nI 1 ∨ FX knowF f61 bq 36 0 := by
  exact (j66).imp id (fun h9 => FX_all h9 (by omega))
set_option maxRecDepth 20000 in
theorem lf_x_layFar_8 (knowF : Nat → Int32) (bq : Nat) (gq : Nat) (g18 : Nat → Int32) (x28 : Int32) (f29 : Nat → Int32) (n35 : Nat) (k59 : Nat) (x60 : Int32) (f61 : Nat → Int32) (n70 : Nat) (ab_now : NB knowF) (hbq : bq < 6) (hgq : gq < 36) (nb20 : FB36 g18) (hI21 : FI knowF g18 bq gq) (j30 : x28 = nI 0 ∨ x28 = nI 1) (j31 : FB36 f29) (j32 : FI knowF f29 bq gq) (j33 : x28 = nI 1 ∨ FX knowF f29 bq 36 0) (hm37 : 2 * sumF f29 36 + x28.toInt.toNat < n35 + 1) (c38 : ¬ x28 = 0) (j62 : k59 ≤ 36) (j63 : x60 = nI 0 ∨ x60 = nI 1) (j64 : FB36 f61) (j65 : FI knowF f61 bq gq) (j66 : x60 = nI 1 ∨ FX knowF f61 bq k59 0) (j67 : sumF f61 36 ≤ sumF f29 36) (j68 : x60 = nI 0 ∨ sumF f61 36 < sumF f29 36) (hm72 : 36 - k59 < n70 + 1) (c73 : 36 ≤ k59) : 2 * sumF f61 36 + x60.toInt.toNat < n35 := by
  have b_x28 := ia_b x28
  have b_x60 := ia_b x60
  try have k_0 := ia_n 0 (by first | decide | omega)
  try have k_1 := ia_n 1 (by first | decide | omega)
  try simp only [ia_lt, ia_le, ia_eq, ia_m1, ia_0, ia_1, ne_eq, true_and, and_true, false_and, and_false, or_false, false_or, or_true, true_or, not_true_eq_false, not_false_eq_true] at *
  all_goals omega
set_option maxRecDepth 20000 in
theorem lf_x_layFar_9 (knowF : Nat → Int32) (bq : Nat) (gq : Nat) (g18 : Nat → Int32) (x28 : Int32) (f29 : Nat → Int32) (n35 : Nat) (k59 : Nat) (x60 : Int32) (f61 : Nat → Int32) (n70 : Nat) (k99 : Nat) (x100 : Int32) (f101 : Nat → Int32) (n110 : Nat) (ab_now : NB knowF) (hbq : bq < 6) (hgq : gq < 36) (nb20 : FB36 g18) (hI21 : FI knowF g18 bq gq) (j30 : x28 = nI 0 ∨ x28 = nI 1) (j31 : FB36 f29) (j32 : FI knowF f29 bq gq) (j33 : x28 = nI 1 ∨ FX knowF f29 bq 36 0) (hm37 : 2 * sumF f29 36 + x28.toInt.toNat < n35 + 1) (c38 : ¬ x28 = 0) (j62 : k59 ≤ 36) (j63 : x60 = nI 0 ∨ x60 = nI 1) (j64 : FB36 f61) (j65 : FI knowF f61 bq gq) (j66 : x60 = nI 1 ∨ FX knowF f61 bq k59 0) (j67 : sumF f61 36 ≤ sumF f29 36) (j68 : x60 = nI 0 ∨ sumF f61 36 < sumF f29 36) (hm72 : 36 - k59 < n70 + 1) (c73 : k59 < 36) (t76 : inS knowF k59) (j102 : k99 ≤ 4) (j103 : x100 = nI 0 ∨ x100 = nI 1) (j104 : FB36 f101) (j105 : FI knowF f101 bq gq) (j106 : x100 = nI 1 ∨ FX knowF f101 bq k59 k99) (j107 : sumF f101 36 ≤ sumF f29 36) (j108 : x100 = nI 0 ∨ sumF f101 36 < sumF f29 36) (hm112 : 4 - k99 < n110 + 1) (c113 : 3 < k99) : (k59 + 1) ≤ 36 := by
  have b_x28 := ia_b x28
  have b_x60 := ia_b x60
  have b_x100 := ia_b x100
  try have k_0 := ia_n 0 (by first | decide | omega)
  try have k_1 := ia_n 1 (by first | decide | omega)
  try simp only [ia_lt, ia_le, ia_eq, ia_m1, ia_0, ia_1, ne_eq, true_and, and_true, false_and, and_false, or_false, false_or, or_true, true_or, not_true_eq_false, not_false_eq_true] at *
  all_goals omega
set_option maxRecDepth 20000 in
theorem lf_x_layFar_10 (knowF : Nat → Int32) (bq : Nat) (gq : Nat) (g18 : Nat → Int32) (x28 : Int32) (f29 : Nat → Int32) (n35 : Nat) (k59 : Nat) (x60 : Int32) (f61 : Nat → Int32) (n70 : Nat) (k99 : Nat) (x100 : Int32) (f101 : Nat → Int32) (n110 : Nat) (ab_now : NB knowF) (hbq : bq < 6) (hgq : gq < 36) (nb20 : FB36 g18) (hI21 : FI knowF g18 bq gq) (j30 : x28 = nI 0 ∨ x28 = nI 1) (j31 : FB36 f29) (j32 : FI knowF f29 bq gq) (j33 : x28 = nI 1 ∨ FX knowF f29 bq 36 0) (hm37 : 2 * sumF f29 36 + x28.toInt.toNat < n35 + 1) (c38 : ¬ x28 = 0) (j62 : k59 ≤ 36) (j63 : x60 = nI 0 ∨ x60 = nI 1) (j64 : FB36 f61) (j65 : FI knowF f61 bq gq) (j66 : x60 = nI 1 ∨ FX knowF f61 bq k59 0) (j67 : sumF f61 36 ≤ sumF f29 36) (j68 : x60 = nI 0 ∨ sumF f61 36 < sumF f29 36) (hm72 : 36 - k59 < n70 + 1) (c73 : k59 < 36) (t76 : inS knowF k59) (j102 : k99 ≤ 4) (j103 : x100 = nI 0 ∨ x100 = nI 1) (j104 : FB36 f101) (j105 : FI knowF f101 bq gq) (j106 : x100 = nI 1 ∨ FX knowF f101 bq k59 k99) (j107 : sumF f101 36 ≤ sumF f29 36) (j108 : x100 = nI 0 ∨ sumF f101 36 < sumF f29 36) (hm112 : 4 - k99 < n110 + 1) (c113 : 3 < k99) : x100 = nI 1 ∨ FX knowF f101 bq (k59 + 1) 0 := by
  exact (j106).imp id (fun h9 => FX_full h9 (by omega))
set_option maxRecDepth 20000 in
theorem lf_x_layFar_11 (knowF : Nat → Int32) (bq : Nat) (gq : Nat) (g18 : Nat → Int32) (x28 : Int32) (f29 : Nat → Int32) (n35 : Nat) (k59 : Nat) (x60 : Int32) (f61 : Nat → Int32) (n70 : Nat) (k99 : Nat) (x100 : Int32) (f101 : Nat → Int32) (n110 : Nat) (ab_now : NB knowF) (hbq : bq < 6) (hgq : gq < 36) (nb20 : FB36 g18) (hI21 : FI knowF g18 bq gq) (j30 : x28 = nI 0 ∨ x28 = nI 1) (j31 : FB36 f29) (j32 : FI knowF f29 bq gq) (j33 : x28 = nI 1 ∨ FX knowF f29 bq 36 0) (hm37 : 2 * sumF f29 36 + x28.toInt.toNat < n35 + 1) (c38 : ¬ x28 = 0) (j62 : k59 ≤ 36) (j63 : x60 = nI 0 ∨ x60 = nI 1) (j64 : FB36 f61) (j65 : FI knowF f61 bq gq) (j66 : x60 = nI 1 ∨ FX knowF f61 bq k59 0) (j67 : sumF f61 36 ≤ sumF f29 36) (j68 : x60 = nI 0 ∨ sumF f61 36 < sumF f29 36) (hm72 : 36 - k59 < n70 + 1) (c73 : k59 < 36) (t76 : inS knowF k59) (j102 : k99 ≤ 4) (j103 : x100 = nI 0 ∨ x100 = nI 1) (j104 : FB36 f101) (j105 : FI knowF f101 bq gq) (j106 : x100 = nI 1 ∨ FX knowF f101 bq k59 k99) (j107 : sumF f101 36 ≤ sumF f29 36) (j108 : x100 = nI 0 ∨ sumF f101 36 < sumF f29 36) (hm112 : 4 - k99 < n110 + 1) (c113 : 3 < k99) : 36 - (k59 + 1) < n70 := by
  have b_x28 := ia_b x28
  have b_x60 := ia_b x60
  have b_x100 := ia_b x100
  try have k_0 := ia_n 0 (by first | decide | omega)
  try have k_1 := ia_n 1 (by first | decide | omega)
  try simp only [ia_lt, ia_le, ia_eq, ia_m1, ia_0, ia_1, ne_eq, true_and, and_true, false_and, and_false, or_false, false_or, or_true, true_or, not_true_eq_false, not_false_eq_true] at *
  all_goals omega
set_option maxRecDepth 20000 in
theorem lf_x_layFar_12 (knowF : Nat → Int32) (bq : Nat) (gq : Nat) (g18 : Nat → Int32) (x28 : Int32) (f29 : Nat → Int32) (n35 : Nat) (k59 : Nat) (x60 : Int32) (f61 : Nat → Int32) (n70 : Nat) (k99 : Nat) (x100 : Int32) (f101 : Nat → Int32) (n110 : Nat) (ab_now : NB knowF) (hbq : bq < 6) (hgq : gq < 36) (nb20 : FB36 g18) (hI21 : FI knowF g18 bq gq) (j30 : x28 = nI 0 ∨ x28 = nI 1) (j31 : FB36 f29) (j32 : FI knowF f29 bq gq) (j33 : x28 = nI 1 ∨ FX knowF f29 bq 36 0) (hm37 : 2 * sumF f29 36 + x28.toInt.toNat < n35 + 1) (c38 : ¬ x28 = 0) (j62 : k59 ≤ 36) (j63 : x60 = nI 0 ∨ x60 = nI 1) (j64 : FB36 f61) (j65 : FI knowF f61 bq gq) (j66 : x60 = nI 1 ∨ FX knowF f61 bq k59 0) (j67 : sumF f61 36 ≤ sumF f29 36) (j68 : x60 = nI 0 ∨ sumF f61 36 < sumF f29 36) (hm72 : 36 - k59 < n70 + 1) (c73 : k59 < 36) (t76 : inS knowF k59) (j102 : k99 ≤ 4) (j103 : x100 = nI 0 ∨ x100 = nI 1) (j104 : FB36 f101) (j105 : FI knowF f101 bq gq) (j106 : x100 = nI 1 ∨ FX knowF f101 bq k59 k99) (j107 : sumF f101 36 ≤ sumF f29 36) (j108 : x100 = nI 0 ∨ sumF f101 36 < sumF f29 36) (hm112 : 4 - k99 < n110 + 1) (c113 : k99 ≤ 3) : k99 < 4 := by
  have b_x28 := ia_b x28
  have b_x60 := ia_b x60
  have b_x100 := ia_b x100
  try have k_0 := ia_n 0 (by first | decide | omega)
  try have k_1 := ia_n 1 (by first | decide | omega)
  try simp only [ia_lt, ia_le, ia_eq, ia_m1, ia_0, ia_1, ne_eq, true_and, and_true, false_and, and_false, or_false, false_or, or_true, true_or, not_true_eq_false, not_false_eq_true] at *
  all_goals omega
set_option maxRecDepth 20000 in
theorem lf_x_layFar_13 (knowF : Nat → Int32) (bq : Nat) (gq : Nat) (g18 : Nat → Int32) (x28 : Int32) (f29 : Nat → Int32) (n35 : Nat) (k59 : Nat) (x60 : Int32) (f61 : Nat → Int32) (n70 : Nat) (k99 : Nat) (x100 : Int32) (f101 : Nat → Int32) (n110 : Nat) (r114 : Int32) (y116 : Int32) (ab_now : NB knowF) (hbq : bq < 6) (hgq : gq < 36) (nb20 : FB36 g18) (hI21 : FI knowF g18 bq gq) (j30 : x28 = nI 0 ∨ x28 = nI 1) (j31 : FB36 f29) (j32 : FI knowF f29 bq gq) (j33 : x28 = nI 1 ∨ FX knowF f29 bq 36 0) (hm37 : 2 * sumF f29 36 + x28.toInt.toNat < n35 + 1) (c38 : ¬ x28 = 0) (j62 : k59 ≤ 36) (j63 : x60 = nI 0 ∨ x60 = nI 1) (j64 : FB36 f61) (j65 : FI knowF f61 bq gq) (j66 : x60 = nI 1 ∨ FX knowF f61 bq k59 0) (j67 : sumF f61 36 ≤ sumF f29 36) (j68 : x60 = nI 0 ∨ sumF f61 36 < sumF f29 36) (hm72 : 36 - k59 < n70 + 1) (c73 : k59 < 36) (t76 : inS knowF k59) (j102 : k99 ≤ 4) (j103 : x100 = nI 0 ∨ x100 = nI 1) (j104 : FB36 f101) (j105 : FI knowF f101 bq gq) (j106 : x100 = nI 1 ∨ FX knowF f101 bq k59 k99) (j107 : sumF f101 36 ≤ sumF f29 36) (j108 : x100 = nI 0 ∨ sumF f101 36 < sumF f29 36) (hm112 : 4 - k99 < n110 + 1) (c113 : k99 ≤ 3) (p115 : r114.toInt = fbL knowF f101 bq k59 k99 ∧ 0 ≤ r114.toInt ∧ r114.toInt ≤ 100256) (e117 : y116 = f101 k59) : k59 < 36 := by
  have b_x28 := ia_b x28
  have b_x60 := ia_b x60
  have b_x100 := ia_b x100
  have b_r114 := ia_b r114
  have b_y116 := ia_b y116
  try have k_0 := ia_n 0 (by first | decide | omega)
  try have k_1 := ia_n 1 (by first | decide | omega)
  try simp only [ia_lt, ia_le, ia_eq, ia_m1, ia_0, ia_1, ne_eq, true_and, and_true, false_and, and_false, or_false, false_or, or_true, true_or, not_true_eq_false, not_false_eq_true] at *
  all_goals omega
set_option maxRecDepth 20000 in
theorem lf_x_layFar_14 (knowF : Nat → Int32) (bq : Nat) (gq : Nat) (g18 : Nat → Int32) (x28 : Int32) (f29 : Nat → Int32) (n35 : Nat) (k59 : Nat) (x60 : Int32) (f61 : Nat → Int32) (n70 : Nat) (k99 : Nat) (x100 : Int32) (f101 : Nat → Int32) (n110 : Nat) (r114 : Int32) (y116 : Int32) (ab_now : NB knowF) (hbq : bq < 6) (hgq : gq < 36) (nb20 : FB36 g18) (hI21 : FI knowF g18 bq gq) (j30 : x28 = nI 0 ∨ x28 = nI 1) (j31 : FB36 f29) (j32 : FI knowF f29 bq gq) (j33 : x28 = nI 1 ∨ FX knowF f29 bq 36 0) (hm37 : 2 * sumF f29 36 + x28.toInt.toNat < n35 + 1) (c38 : ¬ x28 = 0) (j62 : k59 ≤ 36) (j63 : x60 = nI 0 ∨ x60 = nI 1) (j64 : FB36 f61) (j65 : FI knowF f61 bq gq) (j66 : x60 = nI 1 ∨ FX knowF f61 bq k59 0) (j67 : sumF f61 36 ≤ sumF f29 36) (j68 : x60 = nI 0 ∨ sumF f61 36 < sumF f29 36) (hm72 : 36 - k59 < n70 + 1) (c73 : k59 < 36) (t76 : inS knowF k59) (j102 : k99 ≤ 4) (j103 : x100 = nI 0 ∨ x100 = nI 1) (j104 : FB36 f101) (j105 : FI knowF f101 bq gq) (j106 : x100 = nI 1 ∨ FX knowF f101 bq k59 k99) (j107 : sumF f101 36 ≤ sumF f29 36) (j108 : x100 = nI 0 ∨ sumF f101 36 < sumF f29 36) (hm112 : 4 - k99 < n110 + 1) (c113 : k99 ≤ 3) (p115 : r114.toInt = fbL knowF f101 bq k59 k99 ∧ 0 ≤ r114.toInt ∧ r114.toInt ≤ 100256) (e117 : y116 = f101 k59) : 0 ≤ k59 := by
  have b_x28 := ia_b x28
  have b_x60 := ia_b x60
  have b_x100 := ia_b x100
  have b_r114 := ia_b r114
  have b_y116 := ia_b y116
  try have k_0 := ia_n 0 (by first | decide | omega)
  try have k_1 := ia_n 1 (by first | decide | omega)
  try simp only [ia_lt, ia_le, ia_eq, ia_m1, ia_0, ia_1, ne_eq, true_and, and_true, false_and, and_false, or_false, false_or, or_true, true_or, not_true_eq_false, not_false_eq_true] at *
  all_goals omega
set_option maxRecDepth 20000 in
theorem lf_x_layFar_15 (knowF : Nat → Int32) (bq : Nat) (gq : Nat) (g18 : Nat → Int32) (x28 : Int32) (f29 : Nat → Int32) (n35 : Nat) (k59 : Nat) (x60 : Int32) (f61 : Nat → Int32) (n70 : Nat) (k99 : Nat) (x100 : Int32) (f101 : Nat → Int32) (n110 : Nat) (r114 : Int32) (y116 : Int32) (ab_now : NB knowF) (hbq : bq < 6) (hgq : gq < 36) (nb20 : FB36 g18) (hI21 : FI knowF g18 bq gq) (j30 : x28 = nI 0 ∨ x28 = nI 1) (j31 : FB36 f29) (j32 : FI knowF f29 bq gq) (j33 : x28 = nI 1 ∨ FX knowF f29 bq 36 0) (hm37 : 2 * sumF f29 36 + x28.toInt.toNat < n35 + 1) (c38 : ¬ x28 = 0) (j62 : k59 ≤ 36) (j63 : x60 = nI 0 ∨ x60 = nI 1) (j64 : FB36 f61) (j65 : FI knowF f61 bq gq) (j66 : x60 = nI 1 ∨ FX knowF f61 bq k59 0) (j67 : sumF f61 36 ≤ sumF f29 36) (j68 : x60 = nI 0 ∨ sumF f61 36 < sumF f29 36) (hm72 : 36 - k59 < n70 + 1) (c73 : k59 < 36) (t76 : inS knowF k59) (j102 : k99 ≤ 4) (j103 : x100 = nI 0 ∨ x100 = nI 1) (j104 : FB36 f101) (j105 : FI knowF f101 bq gq) (j106 : x100 = nI 1 ∨ FX knowF f101 bq k59 k99) (j107 : sumF f101 36 ≤ sumF f29 36) (j108 : x100 = nI 0 ∨ sumF f101 36 < sumF f29 36) (hm112 : 4 - k99 < n110 + 1) (c113 : k99 ≤ 3) (p115 : r114.toInt = fbL knowF f101 bq k59 k99 ∧ 0 ≤ r114.toInt ∧ r114.toInt ≤ 100256) (e117 : y116 = f101 k59) : k59 < 36 := by
  have b_x28 := ia_b x28
  have b_x60 := ia_b x60
  have b_x100 := ia_b x100
  have b_r114 := ia_b r114
  have b_y116 := ia_b y116
  try have k_0 := ia_n 0 (by first | decide | omega)
  try have k_1 := ia_n 1 (by first | decide | omega)
  try simp only [ia_lt, ia_le, ia_eq, ia_m1, ia_0, ia_1, ne_eq, true_and, and_true, false_and, and_false, or_false, false_or, or_true, true_or, not_true_eq_false, not_false_eq_true] at *
  all_goals omega
set_option maxRecDepth 20000 in
theorem lf_x_layFar_16 (knowF : Nat → Int32) (bq : Nat) (gq : Nat) (g18 : Nat → Int32) (x28 : Int32) (f29 : Nat → Int32) (n35 : Nat) (k59 : Nat) (x60 : Int32) (f61 : Nat → Int32) (n70 : Nat) (k99 : Nat) (x100 : Int32) (f101 : Nat → Int32) (n110 : Nat) (r114 : Int32) (y116 : Int32) (ab_now : NB knowF) (hbq : bq < 6) (hgq : gq < 36) (nb20 : FB36 g18) (hI21 : FI knowF g18 bq gq) (j30 : x28 = nI 0 ∨ x28 = nI 1) (j31 : FB36 f29) (j32 : FI knowF f29 bq gq) (j33 : x28 = nI 1 ∨ FX knowF f29 bq 36 0) (hm37 : 2 * sumF f29 36 + x28.toInt.toNat < n35 + 1) (c38 : ¬ x28 = 0) (j62 : k59 ≤ 36) (j63 : x60 = nI 0 ∨ x60 = nI 1) (j64 : FB36 f61) (j65 : FI knowF f61 bq gq) (j66 : x60 = nI 1 ∨ FX knowF f61 bq k59 0) (j67 : sumF f61 36 ≤ sumF f29 36) (j68 : x60 = nI 0 ∨ sumF f61 36 < sumF f29 36) (hm72 : 36 - k59 < n70 + 1) (c73 : k59 < 36) (t76 : inS knowF k59) (j102 : k99 ≤ 4) (j103 : x100 = nI 0 ∨ x100 = nI 1) (j104 : FB36 f101) (j105 : FI knowF f101 bq gq) (j106 : x100 = nI 1 ∨ FX knowF f101 bq k59 k99) (j107 : sumF f101 36 ≤ sumF f29 36) (j108 : x100 = nI 0 ∨ sumF f101 36 < sumF f29 36) (hm112 : 4 - k99 < n110 + 1) (c113 : k99 ≤ 3) (p115 : r114.toInt = fbL knowF f101 bq k59 k99 ∧ 0 ≤ r114.toInt ∧ r114.toInt ≤ 100256) (e117 : y116 = f101 k59) (b118 : 0 ≤ y116.toInt) (b119 : y116.toInt ≤ 100000) (c120 : r114 < y116) : k99 < 4 := by
  have b_x28 := ia_b x28
  have b_x60 := ia_b x60
  have b_x100 := ia_b x100
  have b_r114 := ia_b r114
  have b_y116 := ia_b y116
  try have k_0 := ia_n 0 (by first | decide | omega)
  try have k_1 := ia_n 1 (by first | decide | omega)
  try simp only [ia_lt, ia_le, ia_eq, ia_m1, ia_0, ia_1, ne_eq, true_and, and_true, false_and, and_false, or_false, false_or, or_true, true_or, not_true_eq_false, not_false_eq_true] at *
  all_goals omega
set_option maxRecDepth 20000 in
theorem lf_x_layFar_17 (knowF : Nat → Int32) (bq : Nat) (gq : Nat) (g18 : Nat → Int32) (x28 : Int32) (f29 : Nat → Int32) (n35 : Nat) (k59 : Nat) (x60 : Int32) (f61 : Nat → Int32) (n70 : Nat) (k99 : Nat) (x100 : Int32) (f101 : Nat → Int32) (n110 : Nat) (r114 : Int32) (y116 : Int32) (r121 : Int32) (ab_now : NB knowF) (hbq : bq < 6) (hgq : gq < 36) (nb20 : FB36 g18) (hI21 : FI knowF g18 bq gq) (j30 : x28 = nI 0 ∨ x28 = nI 1) (j31 : FB36 f29) (j32 : FI knowF f29 bq gq) (j33 : x28 = nI 1 ∨ FX knowF f29 bq 36 0) (hm37 : 2 * sumF f29 36 + x28.toInt.toNat < n35 + 1) (c38 : ¬ x28 = 0) (j62 : k59 ≤ 36) (j63 : x60 = nI 0 ∨ x60 = nI 1) (j64 : FB36 f61) (j65 : FI knowF f61 bq gq) (j66 : x60 = nI 1 ∨ FX knowF f61 bq k59 0) (j67 : sumF f61 36 ≤ sumF f29 36) (j68 : x60 = nI 0 ∨ sumF f61 36 < sumF f29 36) (hm72 : 36 - k59 < n70 + 1) (c73 : k59 < 36) (t76 : inS knowF k59) (j102 : k99 ≤ 4) (j103 : x100 = nI 0 ∨ x100 = nI 1) (j104 : FB36 f101) (j105 : FI knowF f101 bq gq) (j106 : x100 = nI 1 ∨ FX knowF f101 bq k59 k99) (j107 : sumF f101 36 ≤ sumF f29 36) (j108 : x100 = nI 0 ∨ sumF f101 36 < sumF f29 36) (hm112 : 4 - k99 < n110 + 1) (c113 : k99 ≤ 3) (p115 : r114.toInt = fbL knowF f101 bq k59 k99 ∧ 0 ≤ r114.toInt ∧ r114.toInt ≤ 100256) (e117 : y116 = f101 k59) (b118 : 0 ≤ y116.toInt) (b119 : y116.toInt ≤ 100000) (c120 : r114 < y116) (p122 : r121.toInt = fbL knowF f101 bq k59 k99 ∧ 0 ≤ r121.toInt ∧ r121.toInt ≤ 100256) : 0 ≤ (r121).toInt := by
  have b_x28 := ia_b x28
  have b_x60 := ia_b x60
  have b_x100 := ia_b x100
  have b_r114 := ia_b r114
  have b_y116 := ia_b y116
  have b_r121 := ia_b r121
  try have k_0 := ia_n 0 (by first | decide | omega)
  try have k_1 := ia_n 1 (by first | decide | omega)
  try simp only [ia_lt, ia_le, ia_eq, ia_m1, ia_0, ia_1, ne_eq, true_and, and_true, false_and, and_false, or_false, false_or, or_true, true_or, not_true_eq_false, not_false_eq_true] at *
  all_goals omega
set_option maxRecDepth 20000 in
theorem lf_x_layFar_18 (knowF : Nat → Int32) (bq : Nat) (gq : Nat) (g18 : Nat → Int32) (x28 : Int32) (f29 : Nat → Int32) (n35 : Nat) (k59 : Nat) (x60 : Int32) (f61 : Nat → Int32) (n70 : Nat) (k99 : Nat) (x100 : Int32) (f101 : Nat → Int32) (n110 : Nat) (r114 : Int32) (y116 : Int32) (r121 : Int32) (ab_now : NB knowF) (hbq : bq < 6) (hgq : gq < 36) (nb20 : FB36 g18) (hI21 : FI knowF g18 bq gq) (j30 : x28 = nI 0 ∨ x28 = nI 1) (j31 : FB36 f29) (j32 : FI knowF f29 bq gq) (j33 : x28 = nI 1 ∨ FX knowF f29 bq 36 0) (hm37 : 2 * sumF f29 36 + x28.toInt.toNat < n35 + 1) (c38 : ¬ x28 = 0) (j62 : k59 ≤ 36) (j63 : x60 = nI 0 ∨ x60 = nI 1) (j64 : FB36 f61) (j65 : FI knowF f61 bq gq) (j66 : x60 = nI 1 ∨ FX knowF f61 bq k59 0) (j67 : sumF f61 36 ≤ sumF f29 36) (j68 : x60 = nI 0 ∨ sumF f61 36 < sumF f29 36) (hm72 : 36 - k59 < n70 + 1) (c73 : k59 < 36) (t76 : inS knowF k59) (j102 : k99 ≤ 4) (j103 : x100 = nI 0 ∨ x100 = nI 1) (j104 : FB36 f101) (j105 : FI knowF f101 bq gq) (j106 : x100 = nI 1 ∨ FX knowF f101 bq k59 k99) (j107 : sumF f101 36 ≤ sumF f29 36) (j108 : x100 = nI 0 ∨ sumF f101 36 < sumF f29 36) (hm112 : 4 - k99 < n110 + 1) (c113 : k99 ≤ 3) (p115 : r114.toInt = fbL knowF f101 bq k59 k99 ∧ 0 ≤ r114.toInt ∧ r114.toInt ≤ 100256) (e117 : y116 = f101 k59) (b118 : 0 ≤ y116.toInt) (b119 : y116.toInt ≤ 100000) (c120 : r114 < y116) (p122 : r121.toInt = fbL knowF f101 bq k59 k99 ∧ 0 ≤ r121.toInt ∧ r121.toInt ≤ 100256) : (r121).toInt ≤ 100000 := by
  have b_x28 := ia_b x28
  have b_x60 := ia_b x60
  have b_x100 := ia_b x100
  have b_r114 := ia_b r114
  have b_y116 := ia_b y116
  have b_r121 := ia_b r121
  try have k_0 := ia_n 0 (by first | decide | omega)
  try have k_1 := ia_n 1 (by first | decide | omega)
  try simp only [ia_lt, ia_le, ia_eq, ia_m1, ia_0, ia_1, ne_eq, true_and, and_true, false_and, and_false, or_false, false_or, or_true, true_or, not_true_eq_false, not_false_eq_true] at *
  all_goals omega
set_option maxRecDepth 20000 in
theorem lf_x_layFar_19 (knowF : Nat → Int32) (bq : Nat) (gq : Nat) (g18 : Nat → Int32) (x28 : Int32) (f29 : Nat → Int32) (n35 : Nat) (k59 : Nat) (x60 : Int32) (f61 : Nat → Int32) (n70 : Nat) (k99 : Nat) (x100 : Int32) (f101 : Nat → Int32) (n110 : Nat) (r114 : Int32) (y116 : Int32) (r121 : Int32) (ab_now : NB knowF) (hbq : bq < 6) (hgq : gq < 36) (nb20 : FB36 g18) (hI21 : FI knowF g18 bq gq) (j30 : x28 = nI 0 ∨ x28 = nI 1) (j31 : FB36 f29) (j32 : FI knowF f29 bq gq) (j33 : x28 = nI 1 ∨ FX knowF f29 bq 36 0) (hm37 : 2 * sumF f29 36 + x28.toInt.toNat < n35 + 1) (c38 : ¬ x28 = 0) (j62 : k59 ≤ 36) (j63 : x60 = nI 0 ∨ x60 = nI 1) (j64 : FB36 f61) (j65 : FI knowF f61 bq gq) (j66 : x60 = nI 1 ∨ FX knowF f61 bq k59 0) (j67 : sumF f61 36 ≤ sumF f29 36) (j68 : x60 = nI 0 ∨ sumF f61 36 < sumF f29 36) (hm72 : 36 - k59 < n70 + 1) (c73 : k59 < 36) (t76 : inS knowF k59) (j102 : k99 ≤ 4) (j103 : x100 = nI 0 ∨ x100 = nI 1) (j104 : FB36 f101) (j105 : FI knowF f101 bq gq) (j106 : x100 = nI 1 ∨ FX knowF f101 bq k59 k99) (j107 : sumF f101 36 ≤ sumF f29 36) (j108 : x100 = nI 0 ∨ sumF f101 36 < sumF f29 36) (hm112 : 4 - k99 < n110 + 1) (c113 : k99 ≤ 3) (p115 : r114.toInt = fbL knowF f101 bq k59 k99 ∧ 0 ≤ r114.toInt ∧ r114.toInt ≤ 100256) (e117 : y116 = f101 k59) (b118 : 0 ≤ y116.toInt) (b119 : y116.toInt ≤ 100000) (c120 : r114 < y116) (p122 : r121.toInt = fbL knowF f101 bq k59 k99 ∧ 0 ≤ r121.toInt ∧ r121.toInt ≤ 100256) : k59 < 36 := by
  have b_x28 := ia_b x28
  have b_x60 := ia_b x60
  have b_x100 := ia_b x100
  have b_r114 := ia_b r114
  have b_y116 := ia_b y116
  have b_r121 := ia_b r121
  try have k_0 := ia_n 0 (by first | decide | omega)
  try have k_1 := ia_n 1 (by first | decide | omega)
  try simp only [ia_lt, ia_le, ia_eq, ia_m1, ia_0, ia_1, ne_eq, true_and, and_true, false_and, and_false, or_false, false_or, or_true, true_or, not_true_eq_false, not_false_eq_true] at *
  all_goals omega
set_option maxRecDepth 20000 in
theorem lf_x_layFar_20 (knowF : Nat → Int32) (bq : Nat) (gq : Nat) (g18 : Nat → Int32) (x28 : Int32) (f29 : Nat → Int32) (n35 : Nat) (k59 : Nat) (x60 : Int32) (f61 : Nat → Int32) (n70 : Nat) (k99 : Nat) (x100 : Int32) (f101 : Nat → Int32) (n110 : Nat) (r114 : Int32) (y116 : Int32) (r121 : Int32) (ab_now : NB knowF) (hbq : bq < 6) (hgq : gq < 36) (nb20 : FB36 g18) (hI21 : FI knowF g18 bq gq) (j30 : x28 = nI 0 ∨ x28 = nI 1) (j31 : FB36 f29) (j32 : FI knowF f29 bq gq) (j33 : x28 = nI 1 ∨ FX knowF f29 bq 36 0) (hm37 : 2 * sumF f29 36 + x28.toInt.toNat < n35 + 1) (c38 : ¬ x28 = 0) (j62 : k59 ≤ 36) (j63 : x60 = nI 0 ∨ x60 = nI 1) (j64 : FB36 f61) (j65 : FI knowF f61 bq gq) (j66 : x60 = nI 1 ∨ FX knowF f61 bq k59 0) (j67 : sumF f61 36 ≤ sumF f29 36) (j68 : x60 = nI 0 ∨ sumF f61 36 < sumF f29 36) (hm72 : 36 - k59 < n70 + 1) (c73 : k59 < 36) (t76 : inS knowF k59) (j102 : k99 ≤ 4) (j103 : x100 = nI 0 ∨ x100 = nI 1) (j104 : FB36 f101) (j105 : FI knowF f101 bq gq) (j106 : x100 = nI 1 ∨ FX knowF f101 bq k59 k99) (j107 : sumF f101 36 ≤ sumF f29 36) (j108 : x100 = nI 0 ∨ sumF f101 36 < sumF f29 36) (hm112 : 4 - k99 < n110 + 1) (c113 : k99 ≤ 3) (p115 : r114.toInt = fbL knowF f101 bq k59 k99 ∧ 0 ≤ r114.toInt ∧ r114.toInt ≤ 100256) (e117 : y116 = f101 k59) (b118 : 0 ≤ y116.toInt) (b119 : y116.toInt ≤ 100000) (c120 : r114 < y116) (p122 : r121.toInt = fbL knowF f101 bq k59 k99 ∧ 0 ≤ r121.toInt ∧ r121.toInt ≤ 100256) : 0 ≤ k59 := by
  have b_x28 := ia_b x28
  have b_x60 := ia_b x60
  have b_x100 := ia_b x100
  have b_r114 := ia_b r114
  have b_y116 := ia_b y116
  have b_r121 := ia_b r121
  try have k_0 := ia_n 0 (by first | decide | omega)
  try have k_1 := ia_n 1 (by first | decide | omega)
  try simp only [ia_lt, ia_le, ia_eq, ia_m1, ia_0, ia_1, ne_eq, true_and, and_true, false_and, and_false, or_false, false_or, or_true, true_or, not_true_eq_false, not_false_eq_true] at *
  all_goals omega
set_option maxRecDepth 20000 in
theorem lf_x_layFar_21 (knowF : Nat → Int32) (bq : Nat) (gq : Nat) (g18 : Nat → Int32) (x28 : Int32) (f29 : Nat → Int32) (n35 : Nat) (k59 : Nat) (x60 : Int32) (f61 : Nat → Int32) (n70 : Nat) (k99 : Nat) (x100 : Int32) (f101 : Nat → Int32) (n110 : Nat) (r114 : Int32) (y116 : Int32) (r121 : Int32) (ab_now : NB knowF) (hbq : bq < 6) (hgq : gq < 36) (nb20 : FB36 g18) (hI21 : FI knowF g18 bq gq) (j30 : x28 = nI 0 ∨ x28 = nI 1) (j31 : FB36 f29) (j32 : FI knowF f29 bq gq) (j33 : x28 = nI 1 ∨ FX knowF f29 bq 36 0) (hm37 : 2 * sumF f29 36 + x28.toInt.toNat < n35 + 1) (c38 : ¬ x28 = 0) (j62 : k59 ≤ 36) (j63 : x60 = nI 0 ∨ x60 = nI 1) (j64 : FB36 f61) (j65 : FI knowF f61 bq gq) (j66 : x60 = nI 1 ∨ FX knowF f61 bq k59 0) (j67 : sumF f61 36 ≤ sumF f29 36) (j68 : x60 = nI 0 ∨ sumF f61 36 < sumF f29 36) (hm72 : 36 - k59 < n70 + 1) (c73 : k59 < 36) (t76 : inS knowF k59) (j102 : k99 ≤ 4) (j103 : x100 = nI 0 ∨ x100 = nI 1) (j104 : FB36 f101) (j105 : FI knowF f101 bq gq) (j106 : x100 = nI 1 ∨ FX knowF f101 bq k59 k99) (j107 : sumF f101 36 ≤ sumF f29 36) (j108 : x100 = nI 0 ∨ sumF f101 36 < sumF f29 36) (hm112 : 4 - k99 < n110 + 1) (c113 : k99 ≤ 3) (p115 : r114.toInt = fbL knowF f101 bq k59 k99 ∧ 0 ≤ r114.toInt ∧ r114.toInt ≤ 100256) (e117 : y116 = f101 k59) (b118 : 0 ≤ y116.toInt) (b119 : y116.toInt ≤ 100000) (c120 : r114 < y116) (p122 : r121.toInt = fbL knowF f101 bq k59 k99 ∧ 0 ≤ r121.toInt ∧ r121.toInt ≤ 100256) : k59 < 36 := by
  have b_x28 := ia_b x28
  have b_x60 := ia_b x60
  have b_x100 := ia_b x100
  have b_r114 := ia_b r114
  have b_y116 := ia_b y116
  have b_r121 := ia_b r121
  try have k_0 := ia_n 0 (by first | decide | omega)
  try have k_1 := ia_n 1 (by first | decide | omega)
  try simp only [ia_lt, ia_le, ia_eq, ia_m1, ia_0, ia_1, ne_eq, true_and, and_true, false_and, and_false, or_false, false_or, or_true, true_or, not_true_eq_false, not_false_eq_true] at *
  all_goals omega
set_option maxRecDepth 20000 in
theorem lf_x_layFar_22 (knowF : Nat → Int32) (bq : Nat) (gq : Nat) (g18 : Nat → Int32) (x28 : Int32) (f29 : Nat → Int32) (n35 : Nat) (k59 : Nat) (x60 : Int32) (f61 : Nat → Int32) (n70 : Nat) (k99 : Nat) (x100 : Int32) (f101 : Nat → Int32) (n110 : Nat) (r114 : Int32) (y116 : Int32) (r121 : Int32) (ab_now : NB knowF) (hbq : bq < 6) (hgq : gq < 36) (nb20 : FB36 g18) (hI21 : FI knowF g18 bq gq) (j30 : x28 = nI 0 ∨ x28 = nI 1) (j31 : FB36 f29) (j32 : FI knowF f29 bq gq) (j33 : x28 = nI 1 ∨ FX knowF f29 bq 36 0) (hm37 : 2 * sumF f29 36 + x28.toInt.toNat < n35 + 1) (c38 : ¬ x28 = 0) (j62 : k59 ≤ 36) (j63 : x60 = nI 0 ∨ x60 = nI 1) (j64 : FB36 f61) (j65 : FI knowF f61 bq gq) (j66 : x60 = nI 1 ∨ FX knowF f61 bq k59 0) (j67 : sumF f61 36 ≤ sumF f29 36) (j68 : x60 = nI 0 ∨ sumF f61 36 < sumF f29 36) (hm72 : 36 - k59 < n70 + 1) (c73 : k59 < 36) (t76 : inS knowF k59) (j102 : k99 ≤ 4) (j103 : x100 = nI 0 ∨ x100 = nI 1) (j104 : FB36 f101) (j105 : FI knowF f101 bq gq) (j106 : x100 = nI 1 ∨ FX knowF f101 bq k59 k99) (j107 : sumF f101 36 ≤ sumF f29 36) (j108 : x100 = nI 0 ∨ sumF f101 36 < sumF f29 36) (hm112 : 4 - k99 < n110 + 1) (c113 : k99 ≤ 3) (p115 : r114.toInt = fbL knowF f101 bq k59 k99 ∧ 0 ≤ r114.toInt ∧ r114.toInt ≤ 100256) (e117 : y116 = f101 k59) (b118 : 0 ≤ y116.toInt) (b119 : y116.toInt ≤ 100000) (c120 : r114 < y116) (p122 : r121.toInt = fbL knowF f101 bq k59 k99 ∧ 0 ≤ r121.toInt ∧ r121.toInt ≤ 100256) : r121.toInt < (f101 k59).toInt := by
  have b_x28 := ia_b x28
  have b_x60 := ia_b x60
  have b_x100 := ia_b x100
  have b_r114 := ia_b r114
  have b_y116 := ia_b y116
  have b_r121 := ia_b r121
  try have k_0 := ia_n 0 (by first | decide | omega)
  try have k_1 := ia_n 1 (by first | decide | omega)
  try simp only [ia_lt, ia_le, ia_eq, ia_m1, ia_0, ia_1, ne_eq, true_and, and_true, false_and, and_false, or_false, false_or, or_true, true_or, not_true_eq_false, not_false_eq_true] at *
  all_goals omega
set_option maxRecDepth 20000 in
theorem lf_x_layFar_23 (knowF : Nat → Int32) (bq : Nat) (gq : Nat) (g18 : Nat → Int32) (x28 : Int32) (f29 : Nat → Int32) (n35 : Nat) (k59 : Nat) (x60 : Int32) (f61 : Nat → Int32) (n70 : Nat) (k99 : Nat) (x100 : Int32) (f101 : Nat → Int32) (n110 : Nat) (r114 : Int32) (y116 : Int32) (r121 : Int32) (ab_now : NB knowF) (hbq : bq < 6) (hgq : gq < 36) (nb20 : FB36 g18) (hI21 : FI knowF g18 bq gq) (j30 : x28 = nI 0 ∨ x28 = nI 1) (j31 : FB36 f29) (j32 : FI knowF f29 bq gq) (j33 : x28 = nI 1 ∨ FX knowF f29 bq 36 0) (hm37 : 2 * sumF f29 36 + x28.toInt.toNat < n35 + 1) (c38 : ¬ x28 = 0) (j62 : k59 ≤ 36) (j63 : x60 = nI 0 ∨ x60 = nI 1) (j64 : FB36 f61) (j65 : FI knowF f61 bq gq) (j66 : x60 = nI 1 ∨ FX knowF f61 bq k59 0) (j67 : sumF f61 36 ≤ sumF f29 36) (j68 : x60 = nI 0 ∨ sumF f61 36 < sumF f29 36) (hm72 : 36 - k59 < n70 + 1) (c73 : k59 < 36) (t76 : inS knowF k59) (j102 : k99 ≤ 4) (j103 : x100 = nI 0 ∨ x100 = nI 1) (j104 : FB36 f101) (j105 : FI knowF f101 bq gq) (j106 : x100 = nI 1 ∨ FX knowF f101 bq k59 k99) (j107 : sumF f101 36 ≤ sumF f29 36) (j108 : x100 = nI 0 ∨ sumF f101 36 < sumF f29 36) (hm112 : 4 - k99 < n110 + 1) (c113 : k99 ≤ 3) (p115 : r114.toInt = fbL knowF f101 bq k59 k99 ∧ 0 ≤ r114.toInt ∧ r114.toInt ≤ 100256) (e117 : y116 = f101 k59) (b118 : 0 ≤ y116.toInt) (b119 : y116.toInt ≤ 100000) (c120 : r114 < y116) (p122 : r121.toInt = fbL knowF f101 bq k59 k99 ∧ 0 ≤ r121.toInt ∧ r121.toInt ≤ 100256) : 0 ≤ r121.toInt := by
  have b_x28 := ia_b x28
  have b_x60 := ia_b x60
  have b_x100 := ia_b x100
  have b_r114 := ia_b r114
  have b_y116 := ia_b y116
  have b_r121 := ia_b r121
  try have k_0 := ia_n 0 (by first | decide | omega)
  try have k_1 := ia_n 1 (by first | decide | omega)
  try simp only [ia_lt, ia_le, ia_eq, ia_m1, ia_0, ia_1, ne_eq, true_and, and_true, false_and, and_false, or_false, false_or, or_true, true_or, not_true_eq_false, not_false_eq_true] at *
  all_goals omega
set_option maxRecDepth 20000 in
theorem lf_x_layFar_24 (knowF : Nat → Int32) (bq : Nat) (gq : Nat) (g18 : Nat → Int32) (x28 : Int32) (f29 : Nat → Int32) (n35 : Nat) (k59 : Nat) (x60 : Int32) (f61 : Nat → Int32) (n70 : Nat) (k99 : Nat) (x100 : Int32) (f101 : Nat → Int32) (n110 : Nat) (r114 : Int32) (y116 : Int32) (r121 : Int32) (g123 : Nat → Int32) (ab_now : NB knowF) (hbq : bq < 6) (hgq : gq < 36) (nb20 : FB36 g18) (hI21 : FI knowF g18 bq gq) (j30 : x28 = nI 0 ∨ x28 = nI 1) (j31 : FB36 f29) (j32 : FI knowF f29 bq gq) (j33 : x28 = nI 1 ∨ FX knowF f29 bq 36 0) (hm37 : 2 * sumF f29 36 + x28.toInt.toNat < n35 + 1) (c38 : ¬ x28 = 0) (j62 : k59 ≤ 36) (j63 : x60 = nI 0 ∨ x60 = nI 1) (j64 : FB36 f61) (j65 : FI knowF f61 bq gq) (j66 : x60 = nI 1 ∨ FX knowF f61 bq k59 0) (j67 : sumF f61 36 ≤ sumF f29 36) (j68 : x60 = nI 0 ∨ sumF f61 36 < sumF f29 36) (hm72 : 36 - k59 < n70 + 1) (c73 : k59 < 36) (t76 : inS knowF k59) (j102 : k99 ≤ 4) (j103 : x100 = nI 0 ∨ x100 = nI 1) (j104 : FB36 f101) (j105 : FI knowF f101 bq gq) (j106 : x100 = nI 1 ∨ FX knowF f101 bq k59 k99) (j107 : sumF f101 36 ≤ sumF f29 36) (j108 : x100 = nI 0 ∨ sumF f101 36 < sumF f29 36) (hm112 : 4 - k99 < n110 + 1) (c113 : k99 ≤ 3) (p115 : r114.toInt = fbL knowF f101 bq k59 k99 ∧ 0 ≤ r114.toInt ∧ r114.toInt ≤ 100256) (e117 : y116 = f101 k59) (b118 : 0 ≤ y116.toInt) (b119 : y116.toInt ≤ 100000) (c120 : r114 < y116) (p122 : r121.toInt = fbL knowF f101 bq k59 k99 ∧ 0 ≤ r121.toInt ∧ r121.toInt ≤ 100256) (nb125 : FB36 g123) (hI126 : FI knowF g123 bq gq) (hs127 : sumF g123 36 < sumF f101 36) : (k99 + 1) ≤ 4 := by
  have b_x28 := ia_b x28
  have b_x60 := ia_b x60
  have b_x100 := ia_b x100
  have b_r114 := ia_b r114
  have b_y116 := ia_b y116
  have b_r121 := ia_b r121
  try have k_0 := ia_n 0 (by first | decide | omega)
  try have k_1 := ia_n 1 (by first | decide | omega)
  try simp only [ia_lt, ia_le, ia_eq, ia_m1, ia_0, ia_1, ne_eq, true_and, and_true, false_and, and_false, or_false, false_or, or_true, true_or, not_true_eq_false, not_false_eq_true] at *
  all_goals omega
set_option maxRecDepth 20000 in
theorem lf_x_layFar_25   : (nI 1) = nI 0 ∨ (nI 1) = nI 1 := by
  try have k_0 := ia_n 1 (by first | decide | omega)
  try have k_1 := ia_n 0 (by first | decide | omega)
  try simp only [ia_lt, ia_le, ia_eq, ia_m1, ia_0, ia_1, ne_eq, true_and, and_true, false_and, and_false, or_false, false_or, or_true, true_or, not_true_eq_false, not_false_eq_true] at *
  all_goals omega
set_option maxRecDepth 20000 in
theorem lf_x_layFar_26 (knowF : Nat → Int32) (bq : Nat) (gq : Nat) (g18 : Nat → Int32) (x28 : Int32) (f29 : Nat → Int32) (n35 : Nat) (k59 : Nat) (x60 : Int32) (f61 : Nat → Int32) (n70 : Nat) (k99 : Nat) (x100 : Int32) (f101 : Nat → Int32) (n110 : Nat) (r114 : Int32) (y116 : Int32) (r121 : Int32) (g123 : Nat → Int32) (ab_now : NB knowF) (hbq : bq < 6) (hgq : gq < 36) (nb20 : FB36 g18) (hI21 : FI knowF g18 bq gq) (j30 : x28 = nI 0 ∨ x28 = nI 1) (j31 : FB36 f29) (j32 : FI knowF f29 bq gq) (j33 : x28 = nI 1 ∨ FX knowF f29 bq 36 0) (hm37 : 2 * sumF f29 36 + x28.toInt.toNat < n35 + 1) (c38 : ¬ x28 = 0) (j62 : k59 ≤ 36) (j63 : x60 = nI 0 ∨ x60 = nI 1) (j64 : FB36 f61) (j65 : FI knowF f61 bq gq) (j66 : x60 = nI 1 ∨ FX knowF f61 bq k59 0) (j67 : sumF f61 36 ≤ sumF f29 36) (j68 : x60 = nI 0 ∨ sumF f61 36 < sumF f29 36) (hm72 : 36 - k59 < n70 + 1) (c73 : k59 < 36) (t76 : inS knowF k59) (j102 : k99 ≤ 4) (j103 : x100 = nI 0 ∨ x100 = nI 1) (j104 : FB36 f101) (j105 : FI knowF f101 bq gq) (j106 : x100 = nI 1 ∨ FX knowF f101 bq k59 k99) (j107 : sumF f101 36 ≤ sumF f29 36) (j108 : x100 = nI 0 ∨ sumF f101 36 < sumF f29 36) (hm112 : 4 - k99 < n110 + 1) (c113 : k99 ≤ 3) (p115 : r114.toInt = fbL knowF f101 bq k59 k99 ∧ 0 ≤ r114.toInt ∧ r114.toInt ≤ 100256) (e117 : y116 = f101 k59) (b118 : 0 ≤ y116.toInt) (b119 : y116.toInt ≤ 100000) (c120 : r114 < y116) (p122 : r121.toInt = fbL knowF f101 bq k59 k99 ∧ 0 ≤ r121.toInt ∧ r121.toInt ≤ 100256) (nb125 : FB36 g123) (hI126 : FI knowF g123 bq gq) (hs127 : sumF g123 36 < sumF f101 36) : (nI 1) = nI 1 ∨ FX knowF g123 bq k59 (k99 + 1) := by
  exact Or.inl rfl
set_option maxRecDepth 20000 in
theorem lf_x_layFar_27 (knowF : Nat → Int32) (bq : Nat) (gq : Nat) (g18 : Nat → Int32) (x28 : Int32) (f29 : Nat → Int32) (n35 : Nat) (k59 : Nat) (x60 : Int32) (f61 : Nat → Int32) (n70 : Nat) (k99 : Nat) (x100 : Int32) (f101 : Nat → Int32) (n110 : Nat) (r114 : Int32) (y116 : Int32) (r121 : Int32) (g123 : Nat → Int32) (ab_now : NB knowF) (hbq : bq < 6) (hgq : gq < 36) (nb20 : FB36 g18) (hI21 : FI knowF g18 bq gq) (j30 : x28 = nI 0 ∨ x28 = nI 1) (j31 : FB36 f29) (j32 : FI knowF f29 bq gq) (j33 : x28 = nI 1 ∨ FX knowF f29 bq 36 0) (hm37 : 2 * sumF f29 36 + x28.toInt.toNat < n35 + 1) (c38 : ¬ x28 = 0) (j62 : k59 ≤ 36) (j63 : x60 = nI 0 ∨ x60 = nI 1) (j64 : FB36 f61) (j65 : FI knowF f61 bq gq) (j66 : x60 = nI 1 ∨ FX knowF f61 bq k59 0) (j67 : sumF f61 36 ≤ sumF f29 36) (j68 : x60 = nI 0 ∨ sumF f61 36 < sumF f29 36) (hm72 : 36 - k59 < n70 + 1) (c73 : k59 < 36) (t76 : inS knowF k59) (j102 : k99 ≤ 4) (j103 : x100 = nI 0 ∨ x100 = nI 1) (j104 : FB36 f101) (j105 : FI knowF f101 bq gq) (j106 : x100 = nI 1 ∨ FX knowF f101 bq k59 k99) (j107 : sumF f101 36 ≤ sumF f29 36) (j108 : x100 = nI 0 ∨ sumF f101 36 < sumF f29 36) (hm112 : 4 - k99 < n110 + 1) (c113 : k99 ≤ 3) (p115 : r114.toInt = fbL knowF f101 bq k59 k99 ∧ 0 ≤ r114.toInt ∧ r114.toInt ≤ 100256) (e117 : y116 = f101 k59) (b118 : 0 ≤ y116.toInt) (b119 : y116.toInt ≤ 100000) (c120 : r114 < y116) (p122 : r121.toInt = fbL knowF f101 bq k59 k99 ∧ 0 ≤ r121.toInt ∧ r121.toInt ≤ 100256) (nb125 : FB36 g123) (hI126 : FI knowF g123 bq gq) (hs127 : sumF g123 36 < sumF f101 36) : sumF g123 36 ≤ sumF f29 36 := by
  have b_x28 := ia_b x28
  have b_x60 := ia_b x60
  have b_x100 := ia_b x100
  have b_r114 := ia_b r114
  have b_y116 := ia_b y116
  have b_r121 := ia_b r121
  try have k_0 := ia_n 0 (by first | decide | omega)
  try have k_1 := ia_n 1 (by first | decide | omega)
  try simp only [ia_lt, ia_le, ia_eq, ia_m1, ia_0, ia_1, ne_eq, true_and, and_true, false_and, and_false, or_false, false_or, or_true, true_or, not_true_eq_false, not_false_eq_true] at *
  all_goals omega
set_option maxRecDepth 20000 in
theorem lf_x_layFar_28 (knowF : Nat → Int32) (bq : Nat) (gq : Nat) (g18 : Nat → Int32) (x28 : Int32) (f29 : Nat → Int32) (n35 : Nat) (k59 : Nat) (x60 : Int32) (f61 : Nat → Int32) (n70 : Nat) (k99 : Nat) (x100 : Int32) (f101 : Nat → Int32) (n110 : Nat) (r114 : Int32) (y116 : Int32) (r121 : Int32) (g123 : Nat → Int32) (ab_now : NB knowF) (hbq : bq < 6) (hgq : gq < 36) (nb20 : FB36 g18) (hI21 : FI knowF g18 bq gq) (j30 : x28 = nI 0 ∨ x28 = nI 1) (j31 : FB36 f29) (j32 : FI knowF f29 bq gq) (j33 : x28 = nI 1 ∨ FX knowF f29 bq 36 0) (hm37 : 2 * sumF f29 36 + x28.toInt.toNat < n35 + 1) (c38 : ¬ x28 = 0) (j62 : k59 ≤ 36) (j63 : x60 = nI 0 ∨ x60 = nI 1) (j64 : FB36 f61) (j65 : FI knowF f61 bq gq) (j66 : x60 = nI 1 ∨ FX knowF f61 bq k59 0) (j67 : sumF f61 36 ≤ sumF f29 36) (j68 : x60 = nI 0 ∨ sumF f61 36 < sumF f29 36) (hm72 : 36 - k59 < n70 + 1) (c73 : k59 < 36) (t76 : inS knowF k59) (j102 : k99 ≤ 4) (j103 : x100 = nI 0 ∨ x100 = nI 1) (j104 : FB36 f101) (j105 : FI knowF f101 bq gq) (j106 : x100 = nI 1 ∨ FX knowF f101 bq k59 k99) (j107 : sumF f101 36 ≤ sumF f29 36) (j108 : x100 = nI 0 ∨ sumF f101 36 < sumF f29 36) (hm112 : 4 - k99 < n110 + 1) (c113 : k99 ≤ 3) (p115 : r114.toInt = fbL knowF f101 bq k59 k99 ∧ 0 ≤ r114.toInt ∧ r114.toInt ≤ 100256) (e117 : y116 = f101 k59) (b118 : 0 ≤ y116.toInt) (b119 : y116.toInt ≤ 100000) (c120 : r114 < y116) (p122 : r121.toInt = fbL knowF f101 bq k59 k99 ∧ 0 ≤ r121.toInt ∧ r121.toInt ≤ 100256) (nb125 : FB36 g123) (hI126 : FI knowF g123 bq gq) (hs127 : sumF g123 36 < sumF f101 36) : (nI 1) = nI 0 ∨ sumF g123 36 < sumF f29 36 := by
  have b_x28 := ia_b x28
  have b_x60 := ia_b x60
  have b_x100 := ia_b x100
  have b_r114 := ia_b r114
  have b_y116 := ia_b y116
  have b_r121 := ia_b r121
  try have k_0 := ia_n 0 (by first | decide | omega)
  try have k_1 := ia_n 1 (by first | decide | omega)
  try simp only [ia_lt, ia_le, ia_eq, ia_m1, ia_0, ia_1, ne_eq, true_and, and_true, false_and, and_false, or_false, false_or, or_true, true_or, not_true_eq_false, not_false_eq_true] at *
  all_goals omega
set_option maxRecDepth 20000 in
theorem lf_x_layFar_29 (knowF : Nat → Int32) (bq : Nat) (gq : Nat) (g18 : Nat → Int32) (x28 : Int32) (f29 : Nat → Int32) (n35 : Nat) (k59 : Nat) (x60 : Int32) (f61 : Nat → Int32) (n70 : Nat) (k99 : Nat) (x100 : Int32) (f101 : Nat → Int32) (n110 : Nat) (r114 : Int32) (y116 : Int32) (r121 : Int32) (g123 : Nat → Int32) (ab_now : NB knowF) (hbq : bq < 6) (hgq : gq < 36) (nb20 : FB36 g18) (hI21 : FI knowF g18 bq gq) (j30 : x28 = nI 0 ∨ x28 = nI 1) (j31 : FB36 f29) (j32 : FI knowF f29 bq gq) (j33 : x28 = nI 1 ∨ FX knowF f29 bq 36 0) (hm37 : 2 * sumF f29 36 + x28.toInt.toNat < n35 + 1) (c38 : ¬ x28 = 0) (j62 : k59 ≤ 36) (j63 : x60 = nI 0 ∨ x60 = nI 1) (j64 : FB36 f61) (j65 : FI knowF f61 bq gq) (j66 : x60 = nI 1 ∨ FX knowF f61 bq k59 0) (j67 : sumF f61 36 ≤ sumF f29 36) (j68 : x60 = nI 0 ∨ sumF f61 36 < sumF f29 36) (hm72 : 36 - k59 < n70 + 1) (c73 : k59 < 36) (t76 : inS knowF k59) (j102 : k99 ≤ 4) (j103 : x100 = nI 0 ∨ x100 = nI 1) (j104 : FB36 f101) (j105 : FI knowF f101 bq gq) (j106 : x100 = nI 1 ∨ FX knowF f101 bq k59 k99) (j107 : sumF f101 36 ≤ sumF f29 36) (j108 : x100 = nI 0 ∨ sumF f101 36 < sumF f29 36) (hm112 : 4 - k99 < n110 + 1) (c113 : k99 ≤ 3) (p115 : r114.toInt = fbL knowF f101 bq k59 k99 ∧ 0 ≤ r114.toInt ∧ r114.toInt ≤ 100256) (e117 : y116 = f101 k59) (b118 : 0 ≤ y116.toInt) (b119 : y116.toInt ≤ 100000) (c120 : r114 < y116) (p122 : r121.toInt = fbL knowF f101 bq k59 k99 ∧ 0 ≤ r121.toInt ∧ r121.toInt ≤ 100256) (nb125 : FB36 g123) (hI126 : FI knowF g123 bq gq) (hs127 : sumF g123 36 < sumF f101 36) : 4 - (k99 + 1) < n110 := by
  have b_x28 := ia_b x28
  have b_x60 := ia_b x60
  have b_x100 := ia_b x100
  have b_r114 := ia_b r114
  have b_y116 := ia_b y116
  have b_r121 := ia_b r121
  try have k_0 := ia_n 0 (by first | decide | omega)
  try have k_1 := ia_n 1 (by first | decide | omega)
  try simp only [ia_lt, ia_le, ia_eq, ia_m1, ia_0, ia_1, ne_eq, true_and, and_true, false_and, and_false, or_false, false_or, or_true, true_or, not_true_eq_false, not_false_eq_true] at *
  all_goals omega
set_option maxRecDepth 20000 in
theorem lf_x_layFar_30 (knowF : Nat → Int32) (bq : Nat) (gq : Nat) (g18 : Nat → Int32) (x28 : Int32) (f29 : Nat → Int32) (n35 : Nat) (k59 : Nat) (x60 : Int32) (f61 : Nat → Int32) (n70 : Nat) (k99 : Nat) (x100 : Int32) (f101 : Nat → Int32) (n110 : Nat) (r114 : Int32) (y116 : Int32) (ab_now : NB knowF) (hbq : bq < 6) (hgq : gq < 36) (nb20 : FB36 g18) (hI21 : FI knowF g18 bq gq) (j30 : x28 = nI 0 ∨ x28 = nI 1) (j31 : FB36 f29) (j32 : FI knowF f29 bq gq) (j33 : x28 = nI 1 ∨ FX knowF f29 bq 36 0) (hm37 : 2 * sumF f29 36 + x28.toInt.toNat < n35 + 1) (c38 : ¬ x28 = 0) (j62 : k59 ≤ 36) (j63 : x60 = nI 0 ∨ x60 = nI 1) (j64 : FB36 f61) (j65 : FI knowF f61 bq gq) (j66 : x60 = nI 1 ∨ FX knowF f61 bq k59 0) (j67 : sumF f61 36 ≤ sumF f29 36) (j68 : x60 = nI 0 ∨ sumF f61 36 < sumF f29 36) (hm72 : 36 - k59 < n70 + 1) (c73 : k59 < 36) (t76 : inS knowF k59) (j102 : k99 ≤ 4) (j103 : x100 = nI 0 ∨ x100 = nI 1) (j104 : FB36 f101) (j105 : FI knowF f101 bq gq) (j106 : x100 = nI 1 ∨ FX knowF f101 bq k59 k99) (j107 : sumF f101 36 ≤ sumF f29 36) (j108 : x100 = nI 0 ∨ sumF f101 36 < sumF f29 36) (hm112 : 4 - k99 < n110 + 1) (c113 : k99 ≤ 3) (p115 : r114.toInt = fbL knowF f101 bq k59 k99 ∧ 0 ≤ r114.toInt ∧ r114.toInt ≤ 100256) (e117 : y116 = f101 k59) (b118 : 0 ≤ y116.toInt) (b119 : y116.toInt ≤ 100000) (c120 : ¬ r114 < y116) : (k99 + 1) ≤ 4 := by
  have b_x28 := ia_b x28
  have b_x60 := ia_b x60
  have b_x100 := ia_b x100
  have b_r114 := ia_b r114
  have b_y116 := ia_b y116
  try have k_0 := ia_n 0 (by first | decide | omega)
  try have k_1 := ia_n 1 (by first | decide | omega)
  try simp only [ia_lt, ia_le, ia_eq, ia_m1, ia_0, ia_1, ne_eq, true_and, and_true, false_and, and_false, or_false, false_or, or_true, true_or, not_true_eq_false, not_false_eq_true] at *
  all_goals omega
set_option maxRecDepth 20000 in
theorem lf_x_layFar_31 (knowF : Nat → Int32) (bq : Nat) (gq : Nat) (g18 : Nat → Int32) (x28 : Int32) (f29 : Nat → Int32) (n35 : Nat) (k59 : Nat) (x60 : Int32) (f61 : Nat → Int32) (n70 : Nat) (k99 : Nat) (x100 : Int32) (f101 : Nat → Int32) (n110 : Nat) (r114 : Int32) (y116 : Int32) (ab_now : NB knowF) (hbq : bq < 6) (hgq : gq < 36) (nb20 : FB36 g18) (hI21 : FI knowF g18 bq gq) (j30 : x28 = nI 0 ∨ x28 = nI 1) (j31 : FB36 f29) (j32 : FI knowF f29 bq gq) (j33 : x28 = nI 1 ∨ FX knowF f29 bq 36 0) (hm37 : 2 * sumF f29 36 + x28.toInt.toNat < n35 + 1) (c38 : ¬ x28 = 0) (j62 : k59 ≤ 36) (j63 : x60 = nI 0 ∨ x60 = nI 1) (j64 : FB36 f61) (j65 : FI knowF f61 bq gq) (j66 : x60 = nI 1 ∨ FX knowF f61 bq k59 0) (j67 : sumF f61 36 ≤ sumF f29 36) (j68 : x60 = nI 0 ∨ sumF f61 36 < sumF f29 36) (hm72 : 36 - k59 < n70 + 1) (c73 : k59 < 36) (t76 : inS knowF k59) (j102 : k99 ≤ 4) (j103 : x100 = nI 0 ∨ x100 = nI 1) (j104 : FB36 f101) (j105 : FI knowF f101 bq gq) (j106 : x100 = nI 1 ∨ FX knowF f101 bq k59 k99) (j107 : sumF f101 36 ≤ sumF f29 36) (j108 : x100 = nI 0 ∨ sumF f101 36 < sumF f29 36) (hm112 : 4 - k99 < n110 + 1) (c113 : k99 ≤ 3) (p115 : r114.toInt = fbL knowF f101 bq k59 k99 ∧ 0 ≤ r114.toInt ∧ r114.toInt ≤ 100256) (e117 : y116 = f101 k59) (b118 : 0 ≤ y116.toInt) (b119 : y116.toInt ≤ 100000) (c120 : ¬ r114 < y116) : x100 = nI 1 ∨ FX knowF f101 bq k59 (k99 + 1) := by
  refine (j106).imp id (fun h9 => FX_next h9 ?_)
  rw [← e117, ← p115.1]
  have h8 := c120
  rw [ia_lt] at h8
  omega
set_option maxRecDepth 20000 in
theorem lf_x_layFar_32 (knowF : Nat → Int32) (bq : Nat) (gq : Nat) (g18 : Nat → Int32) (x28 : Int32) (f29 : Nat → Int32) (n35 : Nat) (k59 : Nat) (x60 : Int32) (f61 : Nat → Int32) (n70 : Nat) (k99 : Nat) (x100 : Int32) (f101 : Nat → Int32) (n110 : Nat) (r114 : Int32) (y116 : Int32) (ab_now : NB knowF) (hbq : bq < 6) (hgq : gq < 36) (nb20 : FB36 g18) (hI21 : FI knowF g18 bq gq) (j30 : x28 = nI 0 ∨ x28 = nI 1) (j31 : FB36 f29) (j32 : FI knowF f29 bq gq) (j33 : x28 = nI 1 ∨ FX knowF f29 bq 36 0) (hm37 : 2 * sumF f29 36 + x28.toInt.toNat < n35 + 1) (c38 : ¬ x28 = 0) (j62 : k59 ≤ 36) (j63 : x60 = nI 0 ∨ x60 = nI 1) (j64 : FB36 f61) (j65 : FI knowF f61 bq gq) (j66 : x60 = nI 1 ∨ FX knowF f61 bq k59 0) (j67 : sumF f61 36 ≤ sumF f29 36) (j68 : x60 = nI 0 ∨ sumF f61 36 < sumF f29 36) (hm72 : 36 - k59 < n70 + 1) (c73 : k59 < 36) (t76 : inS knowF k59) (j102 : k99 ≤ 4) (j103 : x100 = nI 0 ∨ x100 = nI 1) (j104 : FB36 f101) (j105 : FI knowF f101 bq gq) (j106 : x100 = nI 1 ∨ FX knowF f101 bq k59 k99) (j107 : sumF f101 36 ≤ sumF f29 36) (j108 : x100 = nI 0 ∨ sumF f101 36 < sumF f29 36) (hm112 : 4 - k99 < n110 + 1) (c113 : k99 ≤ 3) (p115 : r114.toInt = fbL knowF f101 bq k59 k99 ∧ 0 ≤ r114.toInt ∧ r114.toInt ≤ 100256) (e117 : y116 = f101 k59) (b118 : 0 ≤ y116.toInt) (b119 : y116.toInt ≤ 100000) (c120 : ¬ r114 < y116) : 4 - (k99 + 1) < n110 := by
  have b_x28 := ia_b x28
  have b_x60 := ia_b x60
  have b_x100 := ia_b x100
  have b_r114 := ia_b r114
  have b_y116 := ia_b y116
  try have k_0 := ia_n 0 (by first | decide | omega)
  try have k_1 := ia_n 1 (by first | decide | omega)
  try simp only [ia_lt, ia_le, ia_eq, ia_m1, ia_0, ia_1, ne_eq, true_and, and_true, false_and, and_false, or_false, false_or, or_true, true_or, not_true_eq_false, not_false_eq_true] at *
  all_goals omega
set_option maxRecDepth 20000 in
theorem lf_x_layFar_33   : 0 ≤ 4 := by
  try simp only [ia_lt, ia_le, ia_eq, ia_m1, ia_0, ia_1, ne_eq, true_and, and_true, false_and, and_false, or_false, false_or, or_true, true_or, not_true_eq_false, not_false_eq_true] at *
  all_goals omega
set_option maxRecDepth 20000 in
theorem lf_x_layFar_34 (knowF : Nat → Int32) (bq : Nat) (gq : Nat) (g18 : Nat → Int32) (x28 : Int32) (f29 : Nat → Int32) (n35 : Nat) (k59 : Nat) (x60 : Int32) (f61 : Nat → Int32) (n70 : Nat) (ab_now : NB knowF) (hbq : bq < 6) (hgq : gq < 36) (nb20 : FB36 g18) (hI21 : FI knowF g18 bq gq) (j30 : x28 = nI 0 ∨ x28 = nI 1) (j31 : FB36 f29) (j32 : FI knowF f29 bq gq) (j33 : x28 = nI 1 ∨ FX knowF f29 bq 36 0) (hm37 : 2 * sumF f29 36 + x28.toInt.toNat < n35 + 1) (c38 : ¬ x28 = 0) (j62 : k59 ≤ 36) (j63 : x60 = nI 0 ∨ x60 = nI 1) (j64 : FB36 f61) (j65 : FI knowF f61 bq gq) (j66 : x60 = nI 1 ∨ FX knowF f61 bq k59 0) (j67 : sumF f61 36 ≤ sumF f29 36) (j68 : x60 = nI 0 ∨ sumF f61 36 < sumF f29 36) (hm72 : 36 - k59 < n70 + 1) (c73 : k59 < 36) (t77 : ¬ inS knowF k59) : (k59 + 1) ≤ 36 := by
  have b_x28 := ia_b x28
  have b_x60 := ia_b x60
  try have k_0 := ia_n 0 (by first | decide | omega)
  try have k_1 := ia_n 1 (by first | decide | omega)
  try simp only [ia_lt, ia_le, ia_eq, ia_m1, ia_0, ia_1, ne_eq, true_and, and_true, false_and, and_false, or_false, false_or, or_true, true_or, not_true_eq_false, not_false_eq_true] at *
  all_goals omega
set_option maxRecDepth 20000 in
theorem lf_x_layFar_35 (knowF : Nat → Int32) (bq : Nat) (gq : Nat) (g18 : Nat → Int32) (x28 : Int32) (f29 : Nat → Int32) (n35 : Nat) (k59 : Nat) (x60 : Int32) (f61 : Nat → Int32) (n70 : Nat) (ab_now : NB knowF) (hbq : bq < 6) (hgq : gq < 36) (nb20 : FB36 g18) (hI21 : FI knowF g18 bq gq) (j30 : x28 = nI 0 ∨ x28 = nI 1) (j31 : FB36 f29) (j32 : FI knowF f29 bq gq) (j33 : x28 = nI 1 ∨ FX knowF f29 bq 36 0) (hm37 : 2 * sumF f29 36 + x28.toInt.toNat < n35 + 1) (c38 : ¬ x28 = 0) (j62 : k59 ≤ 36) (j63 : x60 = nI 0 ∨ x60 = nI 1) (j64 : FB36 f61) (j65 : FI knowF f61 bq gq) (j66 : x60 = nI 1 ∨ FX knowF f61 bq k59 0) (j67 : sumF f61 36 ≤ sumF f29 36) (j68 : x60 = nI 0 ∨ sumF f61 36 < sumF f29 36) (hm72 : 36 - k59 < n70 + 1) (c73 : k59 < 36) (t77 : ¬ inS knowF k59) : x60 = nI 1 ∨ FX knowF f61 bq (k59 + 1) 0 := by
  exact (j66).imp id (fun h9 => FX_skip h9 t77)
set_option maxRecDepth 20000 in
theorem lf_x_layFar_36 (knowF : Nat → Int32) (bq : Nat) (gq : Nat) (g18 : Nat → Int32) (x28 : Int32) (f29 : Nat → Int32) (n35 : Nat) (k59 : Nat) (x60 : Int32) (f61 : Nat → Int32) (n70 : Nat) (ab_now : NB knowF) (hbq : bq < 6) (hgq : gq < 36) (nb20 : FB36 g18) (hI21 : FI knowF g18 bq gq) (j30 : x28 = nI 0 ∨ x28 = nI 1) (j31 : FB36 f29) (j32 : FI knowF f29 bq gq) (j33 : x28 = nI 1 ∨ FX knowF f29 bq 36 0) (hm37 : 2 * sumF f29 36 + x28.toInt.toNat < n35 + 1) (c38 : ¬ x28 = 0) (j62 : k59 ≤ 36) (j63 : x60 = nI 0 ∨ x60 = nI 1) (j64 : FB36 f61) (j65 : FI knowF f61 bq gq) (j66 : x60 = nI 1 ∨ FX knowF f61 bq k59 0) (j67 : sumF f61 36 ≤ sumF f29 36) (j68 : x60 = nI 0 ∨ sumF f61 36 < sumF f29 36) (hm72 : 36 - k59 < n70 + 1) (c73 : k59 < 36) (t77 : ¬ inS knowF k59) : 36 - (k59 + 1) < n70 := by
  have b_x28 := ia_b x28
  have b_x60 := ia_b x60
  try have k_0 := ia_n 0 (by first | decide | omega)
  try have k_1 := ia_n 1 (by first | decide | omega)
  try simp only [ia_lt, ia_le, ia_eq, ia_m1, ia_0, ia_1, ne_eq, true_and, and_true, false_and, and_false, or_false, false_or, or_true, true_or, not_true_eq_false, not_false_eq_true] at *
  all_goals omega
set_option maxRecDepth 20000 in
theorem lf_x_layFar_37   : 0 ≤ 36 := by
  try simp only [ia_lt, ia_le, ia_eq, ia_m1, ia_0, ia_1, ne_eq, true_and, and_true, false_and, and_false, or_false, false_or, or_true, true_or, not_true_eq_false, not_false_eq_true] at *
  all_goals omega
set_option maxRecDepth 20000 in
theorem lf_x_layFar_38   : (nI 0) = nI 0 ∨ (nI 0) = nI 1 := by
  try have k_0 := ia_n 0 (by first | decide | omega)
  try have k_1 := ia_n 1 (by first | decide | omega)
  try simp only [ia_lt, ia_le, ia_eq, ia_m1, ia_0, ia_1, ne_eq, true_and, and_true, false_and, and_false, or_false, false_or, or_true, true_or, not_true_eq_false, not_false_eq_true] at *
  all_goals omega
set_option maxRecDepth 20000 in
theorem lf_x_layFar_39 (knowF : Nat → Int32) (bq : Nat) (gq : Nat) (g18 : Nat → Int32) (x28 : Int32) (f29 : Nat → Int32) (n35 : Nat) (ab_now : NB knowF) (hbq : bq < 6) (hgq : gq < 36) (nb20 : FB36 g18) (hI21 : FI knowF g18 bq gq) (j30 : x28 = nI 0 ∨ x28 = nI 1) (j31 : FB36 f29) (j32 : FI knowF f29 bq gq) (j33 : x28 = nI 1 ∨ FX knowF f29 bq 36 0) (hm37 : 2 * sumF f29 36 + x28.toInt.toNat < n35 + 1) (c38 : ¬ x28 = 0) : (nI 0) = nI 1 ∨ FX knowF f29 bq 0 0 := by
  exact Or.inr (FX_zero _ _ _)
set_option maxRecDepth 20000 in
theorem lf_x_layFar_40 (knowF : Nat → Int32) (bq : Nat) (gq : Nat) (g18 : Nat → Int32) (x28 : Int32) (f29 : Nat → Int32) (n35 : Nat) (ab_now : NB knowF) (hbq : bq < 6) (hgq : gq < 36) (nb20 : FB36 g18) (hI21 : FI knowF g18 bq gq) (j30 : x28 = nI 0 ∨ x28 = nI 1) (j31 : FB36 f29) (j32 : FI knowF f29 bq gq) (j33 : x28 = nI 1 ∨ FX knowF f29 bq 36 0) (hm37 : 2 * sumF f29 36 + x28.toInt.toNat < n35 + 1) (c38 : ¬ x28 = 0) : sumF f29 36 ≤ sumF f29 36 := by
  have b_x28 := ia_b x28
  try have k_0 := ia_n 0 (by first | decide | omega)
  try have k_1 := ia_n 1 (by first | decide | omega)
  try simp only [ia_lt, ia_le, ia_eq, ia_m1, ia_0, ia_1, ne_eq, true_and, and_true, false_and, and_false, or_false, false_or, or_true, true_or, not_true_eq_false, not_false_eq_true] at *
  all_goals omega
set_option maxRecDepth 20000 in
theorem lf_x_layFar_41 (knowF : Nat → Int32) (bq : Nat) (gq : Nat) (g18 : Nat → Int32) (x28 : Int32) (f29 : Nat → Int32) (n35 : Nat) (ab_now : NB knowF) (hbq : bq < 6) (hgq : gq < 36) (nb20 : FB36 g18) (hI21 : FI knowF g18 bq gq) (j30 : x28 = nI 0 ∨ x28 = nI 1) (j31 : FB36 f29) (j32 : FI knowF f29 bq gq) (j33 : x28 = nI 1 ∨ FX knowF f29 bq 36 0) (hm37 : 2 * sumF f29 36 + x28.toInt.toNat < n35 + 1) (c38 : ¬ x28 = 0) : (nI 0) = nI 0 ∨ sumF f29 36 < sumF f29 36 := by
  have b_x28 := ia_b x28
  try have k_0 := ia_n 0 (by first | decide | omega)
  try have k_1 := ia_n 1 (by first | decide | omega)
  try simp only [ia_lt, ia_le, ia_eq, ia_m1, ia_0, ia_1, ne_eq, true_and, and_true, false_and, and_false, or_false, false_or, or_true, true_or, not_true_eq_false, not_false_eq_true] at *
  all_goals omega
set_option maxRecDepth 20000 in
theorem lf_x_layFar_42   : (nI 1) = nI 0 ∨ (nI 1) = nI 1 := by
  try have k_0 := ia_n 1 (by first | decide | omega)
  try have k_1 := ia_n 0 (by first | decide | omega)
  try simp only [ia_lt, ia_le, ia_eq, ia_m1, ia_0, ia_1, ne_eq, true_and, and_true, false_and, and_false, or_false, false_or, or_true, true_or, not_true_eq_false, not_false_eq_true] at *
  all_goals omega
set_option maxRecDepth 20000 in
theorem lf_x_layFar_43 (knowF : Nat → Int32) (bq : Nat) (gq : Nat) (g18 : Nat → Int32) (ab_now : NB knowF) (hbq : bq < 6) (hgq : gq < 36) (nb20 : FB36 g18) (hI21 : FI knowF g18 bq gq) : (nI 1) = nI 1 ∨ FX knowF g18 bq 36 0 := by
  exact Or.inl rfl
set_option maxRecDepth 20000 in
theorem lf_x_layFar_44   : 0 ≤ (nI 100000).toInt := by
  try have k_0 := ia_n 100000 (by first | decide | omega)
  try simp only [ia_lt, ia_le, ia_eq, ia_m1, ia_0, ia_1, ne_eq, true_and, and_true, false_and, and_false, or_false, false_or, or_true, true_or, not_true_eq_false, not_false_eq_true] at *
  all_goals omega
set_option maxRecDepth 20000 in
theorem lf_x_layFar_45   : (nI 100000).toInt ≤ 100000 := by
  try have k_0 := ia_n 100000 (by first | decide | omega)
  try simp only [ia_lt, ia_le, ia_eq, ia_m1, ia_0, ia_1, ne_eq, true_and, and_true, false_and, and_false, or_false, false_or, or_true, true_or, not_true_eq_false, not_false_eq_true] at *
  all_goals omega
set_option maxRecDepth 20000 in
theorem lf_x_layFar_46 (k9 : Nat) (f10 : Nat → Int32) (n14 : Nat) (j11 : k9 ≤ 36) (j12 : FB36 f10) (hfill : ∀ j9, j9 < k9 → (f10 j9).toInt = 100000) (hm16 : 36 - k9 < n14 + 1) (c17 : k9 < 36) : k9 < 36 := by
  try simp only [ia_lt, ia_le, ia_eq, ia_m1, ia_0, ia_1, ne_eq, true_and, and_true, false_and, and_false, or_false, false_or, or_true, true_or, not_true_eq_false, not_false_eq_true] at *
  all_goals omega
set_option maxRecDepth 20000 in
theorem lf_x_layFar_47 (k9 : Nat) (f10 : Nat → Int32) (n14 : Nat) (j11 : k9 ≤ 36) (j12 : FB36 f10) (hfill : ∀ j9, j9 < k9 → (f10 j9).toInt = 100000) (hm16 : 36 - k9 < n14 + 1) (c17 : k9 < 36) : 0 ≤ k9 := by
  try simp only [ia_lt, ia_le, ia_eq, ia_m1, ia_0, ia_1, ne_eq, true_and, and_true, false_and, and_false, or_false, false_or, or_true, true_or, not_true_eq_false, not_false_eq_true] at *
  all_goals omega
set_option maxRecDepth 20000 in
theorem lf_x_layFar_48 (k9 : Nat) (f10 : Nat → Int32) (n14 : Nat) (j11 : k9 ≤ 36) (j12 : FB36 f10) (hfill : ∀ j9, j9 < k9 → (f10 j9).toInt = 100000) (hm16 : 36 - k9 < n14 + 1) (c17 : k9 < 36) : k9 < 36 := by
  try simp only [ia_lt, ia_le, ia_eq, ia_m1, ia_0, ia_1, ne_eq, true_and, and_true, false_and, and_false, or_false, false_or, or_true, true_or, not_true_eq_false, not_false_eq_true] at *
  all_goals omega
set_option maxRecDepth 20000 in
theorem lf_x_layFar_49 (k9 : Nat) (f10 : Nat → Int32) (n14 : Nat) (g129 : Nat → Int32) (j11 : k9 ≤ 36) (j12 : FB36 f10) (hfill : ∀ j9, j9 < k9 → (f10 j9).toInt = 100000) (hm16 : 36 - k9 < n14 + 1) (c17 : k9 < 36) (nb131 : FB36 g129) (e130 : g129 = upd f10 k9 (nI 100000)) : (k9 + 1) ≤ 36 := by
  try have k_0 := ia_n 100000 (by first | decide | omega)
  try simp only [ia_lt, ia_le, ia_eq, ia_m1, ia_0, ia_1, ne_eq, true_and, and_true, false_and, and_false, or_false, false_or, or_true, true_or, not_true_eq_false, not_false_eq_true] at *
  all_goals omega
set_option maxRecDepth 20000 in
theorem lf_x_layFar_50 (k9 : Nat) (f10 : Nat → Int32) (n14 : Nat) (g129 : Nat → Int32) (j11 : k9 ≤ 36) (j12 : FB36 f10) (hfill : ∀ j9, j9 < k9 → (f10 j9).toInt = 100000) (hm16 : 36 - k9 < n14 + 1) (c17 : k9 < 36) (nb131 : FB36 g129) (e130 : g129 = upd f10 k9 (nI 100000)) : ∀ j9, j9 < (k9 + 1) → (g129 j9).toInt = 100000 := by
  intro j9 hj9
  by_cases h9 : j9 = k9
  · rw [h9, e130, upd_eq]; decide
  · rw [e130, upd_ne (by omega)]; exact hfill j9 (by omega)
set_option maxRecDepth 20000 in
theorem lf_x_layFar_51 (k9 : Nat) (f10 : Nat → Int32) (n14 : Nat) (g129 : Nat → Int32) (j11 : k9 ≤ 36) (j12 : FB36 f10) (hfill : ∀ j9, j9 < k9 → (f10 j9).toInt = 100000) (hm16 : 36 - k9 < n14 + 1) (c17 : k9 < 36) (nb131 : FB36 g129) (e130 : g129 = upd f10 k9 (nI 100000)) : 36 - (k9 + 1) < n14 := by
  try have k_0 := ia_n 100000 (by first | decide | omega)
  try simp only [ia_lt, ia_le, ia_eq, ia_m1, ia_0, ia_1, ne_eq, true_and, and_true, false_and, and_false, or_false, false_or, or_true, true_or, not_true_eq_false, not_false_eq_true] at *
  all_goals omega
set_option maxRecDepth 20000 in
theorem lf_x_layFar_52   : 0 ≤ 36 := by
  try simp only [ia_lt, ia_le, ia_eq, ia_m1, ia_0, ia_1, ne_eq, true_and, and_true, false_and, and_false, or_false, false_or, or_true, true_or, not_true_eq_false, not_false_eq_true] at *
  all_goals omega
set_option maxRecDepth 20000 in
theorem lf_x_layFar_53 (kfarF : Nat → Int32) (ab_far : FB36 kfarF) : ∀ j9, j9 < 0 → (kfarF j9).toInt = 100000 := by
  intro j9 hj9
  omega
set_option maxHeartbeats 4000000 in
set_option maxRecDepth 100000 in
theorem c_x_layFar (l : Launch) (dC : Nat → ClassId) (dI : Nat → Nat → Nat) (ky : Nat → ClassId) (sz : Nat) (o : Nat) (kthrown : Int32) (ktape : Nat) (ktaped : Nat) (ksize : Nat) (klimit : Nat) (kto : Nat) (kfrom : Nat) (kkind : Int32) (knumber : Int32) (ksign : Int32) (kfault : Int32) (kplace : Int32) (kword : Int64) (ktold : Int32) (know : Nat) (kread : Nat) (kkept : Nat) (ksnaps : Nat) (kaside : Nat) (kname : Nat) (kreadName : Nat) (kkeptName : Nat) (kisKept : Nat) (konces : Nat) (ksnapMany : Nat) (khasCells : Int32) (kpoured : Nat) (kfar : Nat) (ksides : Nat) (ksideMany : Nat) (kwayDays : Int32) (khasWay : Int32) (klines : Nat) (kmet : Nat) (kmetMany : Nat) (ksunk : Nat) (ktrying : Nat) (ksunkMany : Nat) (ksending : Int32) (kfleets : Int32) (ktext : Nat) (ktexts : Nat) (kseed : Int32) (kline : Nat) (kwritten : Nat) (klineMany : Nat) (khasWritten : Int32) (knode : Nat) (knodes : Nat) (konesMany : Nat) (kwithin : Nat) (ktop : Nat) (knowF : Nat → Int32) (kfarF : Nat → Int32) (bq : Nat) (gq : Nat) (iv_ko_0 : ktaped ≤ 940) (iv_ko_1 : ksize ≤ 940) (iv_ko_2 : klimit ≤ 900) (iv_ko_3 : kto ≤ ksize) (iv_ko_4 : kfrom ≤ 940) (iv_ko_5 : ksnapMany ≤ 8) (iv_ko_6 : ksideMany ≤ 36) (iv_ko_7 : kmetMany ≤ 3) (iv_ko_8 : ksunkMany ≤ 36) (iv_ko_9 : ktexts ≤ 64) (iv_ko_10 : klineMany ≤ 40) (iv_ko_11 : knodes ≤ 60) (iv_ko_12 : konesMany ≤ 20) (iv_ko_13 : kwithin ≤ 8) (iv_ko_14 : ktop ≤ 59) (ab_now : NB knowF) (ab_far : FB36 kfarF) (hbq : bq < 6) (hgq : gq < 36) : Met l yX12_layFar wsX12_layFar ({ frames := 4, cells := 0, slots := 0, locals := 92 }) (PcU dC dI ky [.ref o, .int (nI bq), .int (nI gq)] [(o, .inr (12, [.int kthrown, .ref ktape, .int (nI ktaped), .int (nI ksize), .int (nI klimit), .int (nI kto), .int (nI kfrom), .int kkind, .int knumber, .int ksign, .int kfault, .int kplace, .long kword, .int ktold, .ref know, .ref kread, .ref kkept, .ref ksnaps, .ref kaside, .ref kname, .ref kreadName, .ref kkeptName, .ref kisKept, .ref konces, .int (nI ksnapMany), .int khasCells, .ref kpoured, .ref kfar, .ref ksides, .int (nI ksideMany), .int kwayDays, .int khasWay, .ref klines, .ref kmet, .int (nI kmetMany), .ref ksunk, .ref ktrying, .int (nI ksunkMany), .int ksending, .int kfleets, .ref ktext, .int (nI ktexts), .int kseed, .ref kline, .ref kwritten, .int (nI klineMany), .int khasWritten, .ref knode, .int (nI knodes), .int (nI konesMany), .int (nI kwithin), .int (nI ktop)])), (know, .inl (ky 0, 373, .inl knowF)), (kfar, .inl (ky 0, 36, .inl kfarF))] sz) (va_Qv (fun (kfarG : (Nat → Int32)) => (FB36 kfarG) ∧ (FI knowF kfarG bq gq) ∧ (FX knowF kfarG bq 36 0)) (BU dC dI ky (fun (kfarG : (Nat → Int32)) => [(o, .inr (12, [.int kthrown, .ref ktape, .int (nI ktaped), .int (nI ksize), .int (nI klimit), .int (nI kto), .int (nI kfrom), .int kkind, .int knumber, .int ksign, .int kfault, .int kplace, .long kword, .int ktold, .ref know, .ref kread, .ref kkept, .ref ksnaps, .ref kaside, .ref kname, .ref kreadName, .ref kkeptName, .ref kisKept, .ref konces, .int (nI ksnapMany), .int khasCells, .ref kpoured, .ref kfar, .ref ksides, .int (nI ksideMany), .int kwayDays, .int khasWay, .ref klines, .ref kmet, .int (nI kmetMany), .ref ksunk, .ref ktrying, .int (nI ksunkMany), .int ksending, .int kfleets, .ref ktext, .int (nI ktexts), .int kseed, .ref kline, .ref kwritten, .int (nI klineMany), .int khasWritten, .ref knode, .int (nI knodes), .int (nI konesMany), .int (nI kwithin), .int (nI ktop)])), (know, .inl (ky 0, 373, .inl knowF)), (kfar, .inl (ky 0, 36, .inl kfarG))]) (va_A [(o, .inr (12, [.int kthrown, .ref ktape, .int (nI ktaped), .int (nI ksize), .int (nI klimit), .int (nI kto), .int (nI kfrom), .int kkind, .int knumber, .int ksign, .int kfault, .int kplace, .long kword, .int ktold, .ref know, .ref kread, .ref kkept, .ref ksnaps, .ref kaside, .ref kname, .ref kreadName, .ref kkeptName, .ref kisKept, .ref konces, .int (nI ksnapMany), .int khasCells, .ref kpoured, .ref kfar, .ref ksides, .int (nI ksideMany), .int kwayDays, .int khasWay, .ref klines, .ref kmet, .int (nI kmetMany), .ref ksunk, .ref ktrying, .int (nI ksunkMany), .int ksending, .int kfleets, .ref ktext, .int (nI ktexts), .int kseed, .ref kline, .ref kwritten, .int (nI klineMany), .int khasWritten, .ref knode, .int (nI knodes), .int (nI konesMany), .int (nI kwithin), .int (nI ktop)])), (know, .inl (ky 0, 373, .inl knowF)), (kfar, .inl (ky 0, 36, .inl kfarF))] sz)) (va_A [(o, .inr (12, [.int kthrown, .ref ktape, .int (nI ktaped), .int (nI ksize), .int (nI klimit), .int (nI kto), .int (nI kfrom), .int kkind, .int knumber, .int ksign, .int kfault, .int kplace, .long kword, .int ktold, .ref know, .ref kread, .ref kkept, .ref ksnaps, .ref kaside, .ref kname, .ref kreadName, .ref kkeptName, .ref kisKept, .ref konces, .int (nI ksnapMany), .int khasCells, .ref kpoured, .ref kfar, .ref ksides, .int (nI ksideMany), .int kwayDays, .int khasWay, .ref klines, .ref kmet, .int (nI kmetMany), .ref ksunk, .ref ktrying, .int (nI ksunkMany), .int ksending, .int kfleets, .ref ktext, .int (nI ktexts), .int kseed, .ref kline, .ref kwritten, .int (nI klineMany), .int khasWritten, .ref knode, .int (nI knodes), .int (nI konesMany), .int (nI kwithin), .int (nI ktop)])), (know, .inl (ky 0, 373, .inl knowF)), (kfar, .inl (ky 0, 36, .inl kfarF))] sz)) 0 0 (va_A [(o, .inr (12, [.int kthrown, .ref ktape, .int (nI ktaped), .int (nI ksize), .int (nI klimit), .int (nI kto), .int (nI kfrom), .int kkind, .int knumber, .int ksign, .int kfault, .int kplace, .long kword, .int ktold, .ref know, .ref kread, .ref kkept, .ref ksnaps, .ref kaside, .ref kname, .ref kreadName, .ref kkeptName, .ref kisKept, .ref konces, .int (nI ksnapMany), .int khasCells, .ref kpoured, .ref kfar, .ref ksides, .int (nI ksideMany), .int kwayDays, .int khasWay, .ref klines, .ref kmet, .int (nI kmetMany), .ref ksunk, .ref ktrying, .int (nI ksunkMany), .int ksending, .int kfleets, .ref ktext, .int (nI ktexts), .int kseed, .ref kline, .ref kwritten, .int (nI klineMany), .int khasWritten, .ref knode, .int (nI knodes), .int (nI konesMany), .int (nI kwithin), .int (nI ktop)])), (know, .inl (ky 0, 373, .inl knowF)), (kfar, .inl (ky 0, 36, .inl kfarF))] sz) := by
  refine Met.ofW (cc := cX12_layFar) (maxL := 6) (ret := none) (by decide) rfl ?_
  intro p e s m args below meth c s₁ B hml hv
  obtain ⟨rfl, hsz, hP, hK, hD0⟩ := hv
  have hx := B.exec
  have hb := B.bytes
  have hr := B.returns
  have hts := atoms_spec (ws := wsX12_layFar) B.pre
  have hown : s.vm.findClass RX12 = some m.cls := findClass_of_methodNamed B.named
  have hlocks := B.notSynchronized
  have hin12 : ∀ w ∈ u_ws RX12 TX12 52, w ∈ wsX12_layFar := by decide +kernel
  subst hsz
  have hD := hD0.self (sz := s.heap.size)
  generalize hAe : va_A [(o, .inr (12, [.int kthrown, .ref ktape, .int (nI ktaped), .int (nI ksize), .int (nI klimit), .int (nI kto), .int (nI kfrom), .int kkind, .int knumber, .int ksign, .int kfault, .int kplace, .long kword, .int ktold, .ref know, .ref kread, .ref kkept, .ref ksnaps, .ref kaside, .ref kname, .ref kreadName, .ref kkeptName, .ref kisKept, .ref konces, .int (nI ksnapMany), .int khasCells, .ref kpoured, .ref kfar, .ref ksides, .int (nI ksideMany), .int kwayDays, .int khasWay, .ref klines, .ref kmet, .int (nI kmetMany), .ref ksunk, .ref ktrying, .int (nI ksunkMany), .int ksending, .int kfleets, .ref ktext, .int (nI ktexts), .int kseed, .ref kline, .ref kwritten, .int (nI klineMany), .int khasWritten, .ref knode, .int (nI knodes), .int (nI konesMany), .int (nI kwithin), .int (nI ktop)])), (know, .inl (ky 0, 373, .inl knowF)), (kfar, .inl (ky 0, 36, .inl kfarF))] s.heap.size = A at hD ⊢
  have hA : ∀ q : Nat, s.heap.size ≤ q → A q := fun q h => by rw [← hAe]; exact Or.inr h
  have hS : va_S A s.heap s.heap [] := va_S.rf
  have hl := lv_entry ([.ref o, .int (nI bq), .int (nI gq)]) (n := 6) (Nat.le_of_ble_eq_true rfl)
  rw [lg_entry_eq]
  generalize (lg_sl ([.ref o, .int (nI bq), .int (nI gq)]) ++ List.replicate (6 - (lg_sl ([.ref o, .int (nI bq), .int (nI gq)])).length) Slot.unset).toArray = ls at hl ⊢
  have hl : lv_has ls 6 [(0, .ref o), (1, .int (nI bq)), (2, .int (nI gq))] := hl
  refine q_name (fun Q hQ => ?_)
  generalize ([.ref o, .int (nI bq), .int (nI gq)] : List Value).toArray = args at hts hQ ⊢
  refine lv_iconst (v := nI 0) hx hb dX12_layFar_0 (by decide) ?_
  refine lv_istore_n (lv' := [(3, .int (nI 0)), (0, .ref o), (1, .int (nI bq)), (2, .int (nI gq))]) hx hb dX12_layFar_1 rfl hl (by decide) rfl (fun ls hl => ?_)
  have hL13 : ∀ (n14 : Nat) (k9 : Nat) (f10 : Nat → Int32), (k9 ≤ 36) → (FB36 f10) → (∀ j9, j9 < k9 → (f10 j9).toInt = 100000) → 36 - k9 < n14 → ∀ (H : Heap) (locs : List Loc) (ls : Array Slot), va_P (dC, dI) vwCl [(o, .inr (12, [.int kthrown, .ref ktape, .int (nI ktaped), .int (nI ksize), .int (nI klimit), .int (nI kto), .int (nI kfrom), .int kkind, .int knumber, .int ksign, .int kfault, .int kplace, .long kword, .int ktold, .ref know, .ref kread, .ref kkept, .ref ksnaps, .ref kaside, .ref kname, .ref kreadName, .ref kkeptName, .ref kisKept, .ref konces, .int (nI ksnapMany), .int khasCells, .ref kpoured, .ref kfar, .ref ksides, .int (nI ksideMany), .int kwayDays, .int khasWay, .ref klines, .ref kmet, .int (nI kmetMany), .ref ksunk, .ref ktrying, .int (nI ksunkMany), .int ksending, .int kfleets, .ref ktext, .int (nI ktexts), .int kseed, .ref kline, .ref kwritten, .int (nI klineMany), .int khasWritten, .ref knode, .int (nI knodes), .int (nI konesMany), .int (nI kwithin), .int (nI ktop)])), (know, .inl (ky 0, 373, .inl knowF)), (kfar, .inl (ky 0, 36, .inl f10))] H → va_D A [(o, .inr (12, [.int kthrown, .ref ktape, .int (nI ktaped), .int (nI ksize), .int (nI klimit), .int (nI kto), .int (nI kfrom), .int kkind, .int knumber, .int ksign, .int kfault, .int kplace, .long kword, .int ktold, .ref know, .ref kread, .ref kkept, .ref ksnaps, .ref kaside, .ref kname, .ref kreadName, .ref kkeptName, .ref kisKept, .ref konces, .int (nI ksnapMany), .int khasCells, .ref kpoured, .ref kfar, .ref ksides, .int (nI ksideMany), .int kwayDays, .int khasWay, .ref klines, .ref kmet, .int (nI kmetMany), .ref ksunk, .ref ktrying, .int (nI ksunkMany), .int ksending, .int kfleets, .ref ktext, .int (nI ktexts), .int kseed, .ref kline, .ref kwritten, .int (nI klineMany), .int khasWritten, .ref knode, .int (nI knodes), .int (nI konesMany), .int (nI kwithin), .int (nI ktop)])), (know, .inl (ky 0, 373, .inl knowF)), (kfar, .inl (ky 0, 36, .inl f10))] → va_S A s.heap H locs → lv_has ls 6 [(3, .int (nI k9)), (0, .ref o), (1, .int (nI bq)), (2, .int (nI gq))] → W p l e (headSpec wsX12_layFar ({ frames := 4, cells := 0, slots := 0, locals := 92 })).room s m args below meth c H locs 0 0 Q (F0 m 2 ls []) := by
    intro n14
    induction n14 with
    | zero => intro k9 f10 _ _ _ h9; exact absurd h9 (Nat.not_lt_zero _)
    | succ n14 ih15 =>
      intro k9 f10 j11 j12 hfill hm16 H locs ls hP hD hS hl
      refine lv_iload_n hx hb dX12_layFar_2 rfl (lv_at hl 0 rfl) ?_
      refine lv_bipush (v := nI 36) hx hb dX12_layFar_3 (by decide) ?_
      refine n_icmp_ge (x := k9) (y := 36) (tgt := 23) hx hb (by omega) (by omega) dX12_layFar_5 (by decide) (fun c17 => ?_) (fun c17 => ?_)
      · refine lv_aload_n hx hb dX12_layFar_23 rfl (lv_at hl 1 rfl) ?_
        refine va_get (D := (dC, dI)) (ci := 12) (v := .ref kfar) (C := RX12) (T := TX12) (N := 52) hx hb hts hin12 hown hK hP 0 rfl rfl 27 (by decide) (hts (.fieldLink RX12 133 "PorridgeSeaModel" "far" "[I") (List.mem_of_getElem? (i := 1) rfl)) (fun _ h9 => h9) rfl dX12_layFar_24 ?_
        refine lv_iload_n hx hb dX12_layFar_27 rfl (lv_at hl 3 rfl) ?_
        refine lv_iconst (v := nI 0) hx hb dX12_layFar_28 (by decide) ?_
        refine r_iast (x := (nI 0)) hx hb hK hP hD hS 2 rfl gq (lf_x_layFar_3 gq hgq) (by decide) dX12_layFar_29 (fun H locs hP hD hS => ?_)
        obtain ⟨g18, e19⟩ : ∃ z9, z9 = upd f10 gq (nI 0) := ⟨_, rfl⟩
        rw [← e19] at hP hD
        have nb20 : FB36 g18 := by rw [e19]; exact st_FB36_0 j12 gq (lf_x_layFar_4 gq hgq) (lf_x_layFar_5 gq hgq) (lf_x_layFar_1) (lf_x_layFar_2)
        have hI21 : FI knowF g18 bq gq := by rw [e19]; exact FI_init (fun j h => hfill j (by omega))
        have hP : va_P (dC, dI) vwCl [(o, .inr (12, [.int kthrown, .ref ktape, .int (nI ktaped), .int (nI ksize), .int (nI klimit), .int (nI kto), .int (nI kfrom), .int kkind, .int knumber, .int ksign, .int kfault, .int kplace, .long kword, .int ktold, .ref know, .ref kread, .ref kkept, .ref ksnaps, .ref kaside, .ref kname, .ref kreadName, .ref kkeptName, .ref kisKept, .ref konces, .int (nI ksnapMany), .int khasCells, .ref kpoured, .ref kfar, .ref ksides, .int (nI ksideMany), .int kwayDays, .int khasWay, .ref klines, .ref kmet, .int (nI kmetMany), .ref ksunk, .ref ktrying, .int (nI ksunkMany), .int ksending, .int kfleets, .ref ktext, .int (nI ktexts), .int kseed, .ref kline, .ref kwritten, .int (nI klineMany), .int khasWritten, .ref knode, .int (nI knodes), .int (nI konesMany), .int (nI kwithin), .int (nI ktop)])), (know, .inl (ky 0, 373, .inl knowF)), (kfar, .inl (ky 0, 36, .inl g18))] H := hP
        have hD : va_D A [(o, .inr (12, [.int kthrown, .ref ktape, .int (nI ktaped), .int (nI ksize), .int (nI klimit), .int (nI kto), .int (nI kfrom), .int kkind, .int knumber, .int ksign, .int kfault, .int kplace, .long kword, .int ktold, .ref know, .ref kread, .ref kkept, .ref ksnaps, .ref kaside, .ref kname, .ref kreadName, .ref kkeptName, .ref kisKept, .ref konces, .int (nI ksnapMany), .int khasCells, .ref kpoured, .ref kfar, .ref ksides, .int (nI ksideMany), .int kwayDays, .int khasWay, .ref klines, .ref kmet, .int (nI kmetMany), .ref ksunk, .ref ktrying, .int (nI ksunkMany), .int ksending, .int kfleets, .ref ktext, .int (nI ktexts), .int kseed, .ref kline, .ref kwritten, .int (nI klineMany), .int khasWritten, .ref knode, .int (nI knodes), .int (nI konesMany), .int (nI kwithin), .int (nI ktop)])), (know, .inl (ky 0, 373, .inl knowF)), (kfar, .inl (ky 0, 36, .inl g18))] := hD
        refine lv_iconst (v := nI 1) hx hb dX12_layFar_30 (by decide) ?_
        refine lv_istore_n (lv' := [(3, .int (nI 1)), (0, .ref o), (1, .int (nI bq)), (2, .int (nI gq))]) hx hb dX12_layFar_31 rfl hl (by decide) rfl (fun ls hl => ?_)
        have hL34 : ∀ (n35 : Nat) (x28 : Int32) (f29 : Nat → Int32), (x28 = nI 0 ∨ x28 = nI 1) → (FB36 f29) → (FI knowF f29 bq gq) → (x28 = nI 1 ∨ FX knowF f29 bq 36 0) → 2 * sumF f29 36 + x28.toInt.toNat < n35 → ∀ (H : Heap) (locs : List Loc) (ls : Array Slot), va_P (dC, dI) vwCl [(o, .inr (12, [.int kthrown, .ref ktape, .int (nI ktaped), .int (nI ksize), .int (nI klimit), .int (nI kto), .int (nI kfrom), .int kkind, .int knumber, .int ksign, .int kfault, .int kplace, .long kword, .int ktold, .ref know, .ref kread, .ref kkept, .ref ksnaps, .ref kaside, .ref kname, .ref kreadName, .ref kkeptName, .ref kisKept, .ref konces, .int (nI ksnapMany), .int khasCells, .ref kpoured, .ref kfar, .ref ksides, .int (nI ksideMany), .int kwayDays, .int khasWay, .ref klines, .ref kmet, .int (nI kmetMany), .ref ksunk, .ref ktrying, .int (nI ksunkMany), .int ksending, .int kfleets, .ref ktext, .int (nI ktexts), .int kseed, .ref kline, .ref kwritten, .int (nI klineMany), .int khasWritten, .ref knode, .int (nI knodes), .int (nI konesMany), .int (nI kwithin), .int (nI ktop)])), (know, .inl (ky 0, 373, .inl knowF)), (kfar, .inl (ky 0, 36, .inl f29))] H → va_D A [(o, .inr (12, [.int kthrown, .ref ktape, .int (nI ktaped), .int (nI ksize), .int (nI klimit), .int (nI kto), .int (nI kfrom), .int kkind, .int knumber, .int ksign, .int kfault, .int kplace, .long kword, .int ktold, .ref know, .ref kread, .ref kkept, .ref ksnaps, .ref kaside, .ref kname, .ref kreadName, .ref kkeptName, .ref kisKept, .ref konces, .int (nI ksnapMany), .int khasCells, .ref kpoured, .ref kfar, .ref ksides, .int (nI ksideMany), .int kwayDays, .int khasWay, .ref klines, .ref kmet, .int (nI kmetMany), .ref ksunk, .ref ktrying, .int (nI ksunkMany), .int ksending, .int kfleets, .ref ktext, .int (nI ktexts), .int kseed, .ref kline, .ref kwritten, .int (nI klineMany), .int khasWritten, .ref knode, .int (nI knodes), .int (nI konesMany), .int (nI kwithin), .int (nI ktop)])), (know, .inl (ky 0, 373, .inl knowF)), (kfar, .inl (ky 0, 36, .inl f29))] → va_S A s.heap H locs → lv_has ls 6 [(3, .int x28), (0, .ref o), (1, .int (nI bq))] → W p l e (headSpec wsX12_layFar ({ frames := 4, cells := 0, slots := 0, locals := 92 })).room s m args below meth c H locs 0 0 Q (F0 m 32 ls []) := by
          intro n35
          induction n35 with
          | zero => intro x28 f29 _ _ _ _ h9; exact absurd h9 (Nat.not_lt_zero _)
          | succ n35 ih36 =>
            intro x28 f29 j30 j31 j32 j33 hm37 H locs ls hP hD hS hl
            refine lv_iload_n hx hb dX12_layFar_32 rfl (lv_at hl 0 rfl) ?_
            refine lv_if_eq (tgt := 124) hx hb dX12_layFar_33 (by decide) (fun c38 => ?_) (fun c38 => ?_)
            · rw [hQ]
              exact W.vret hx hb hr (fun t9 ht9 hW9 => ⟨⟨f29, rfl, ⟨j31, j32, (lf_x_layFar_6 knowF bq gq g18 x28 f29 n35 ab_now hbq hgq nb20 hI21 j30 j31 j32 j33 hm37 c38)⟩, by rw [ht9]; exact hP, va_K.moved hW9.alike hK, hD⟩, hS.F ht9⟩) hS.2.2 dX12_layFar_124
            · refine lv_iconst (v := nI 0) hx hb dX12_layFar_36 (by decide) ?_
              refine lv_istore_n (lv' := [(3, .int (nI 0)), (0, .ref o), (1, .int (nI bq))]) hx hb dX12_layFar_37 rfl hl (by decide) rfl (fun ls hl => ?_)
              refine lv_iconst (v := nI 0) hx hb dX12_layFar_38 (by decide) ?_
              refine lv_istore (lv' := [(4, .int (nI 0)), (3, .int (nI 0)), (0, .ref o), (1, .int (nI bq))]) hx hb dX12_layFar_39 hl (by decide) rfl (fun ls hl => ?_)
              have hL69 : ∀ (n70 : Nat) (k59 : Nat) (x60 : Int32) (f61 : Nat → Int32), (k59 ≤ 36) → (x60 = nI 0 ∨ x60 = nI 1) → (FB36 f61) → (FI knowF f61 bq gq) → (x60 = nI 1 ∨ FX knowF f61 bq k59 0) → (sumF f61 36 ≤ sumF f29 36) → (x60 = nI 0 ∨ sumF f61 36 < sumF f29 36) → 36 - k59 < n70 → ∀ (H : Heap) (locs : List Loc) (ls : Array Slot), va_P (dC, dI) vwCl [(o, .inr (12, [.int kthrown, .ref ktape, .int (nI ktaped), .int (nI ksize), .int (nI klimit), .int (nI kto), .int (nI kfrom), .int kkind, .int knumber, .int ksign, .int kfault, .int kplace, .long kword, .int ktold, .ref know, .ref kread, .ref kkept, .ref ksnaps, .ref kaside, .ref kname, .ref kreadName, .ref kkeptName, .ref kisKept, .ref konces, .int (nI ksnapMany), .int khasCells, .ref kpoured, .ref kfar, .ref ksides, .int (nI ksideMany), .int kwayDays, .int khasWay, .ref klines, .ref kmet, .int (nI kmetMany), .ref ksunk, .ref ktrying, .int (nI ksunkMany), .int ksending, .int kfleets, .ref ktext, .int (nI ktexts), .int kseed, .ref kline, .ref kwritten, .int (nI klineMany), .int khasWritten, .ref knode, .int (nI knodes), .int (nI konesMany), .int (nI kwithin), .int (nI ktop)])), (know, .inl (ky 0, 373, .inl knowF)), (kfar, .inl (ky 0, 36, .inl f61))] H → va_D A [(o, .inr (12, [.int kthrown, .ref ktape, .int (nI ktaped), .int (nI ksize), .int (nI klimit), .int (nI kto), .int (nI kfrom), .int kkind, .int knumber, .int ksign, .int kfault, .int kplace, .long kword, .int ktold, .ref know, .ref kread, .ref kkept, .ref ksnaps, .ref kaside, .ref kname, .ref kreadName, .ref kkeptName, .ref kisKept, .ref konces, .int (nI ksnapMany), .int khasCells, .ref kpoured, .ref kfar, .ref ksides, .int (nI ksideMany), .int kwayDays, .int khasWay, .ref klines, .ref kmet, .int (nI kmetMany), .ref ksunk, .ref ktrying, .int (nI ksunkMany), .int ksending, .int kfleets, .ref ktext, .int (nI ktexts), .int kseed, .ref kline, .ref kwritten, .int (nI klineMany), .int khasWritten, .ref knode, .int (nI knodes), .int (nI konesMany), .int (nI kwithin), .int (nI ktop)])), (know, .inl (ky 0, 373, .inl knowF)), (kfar, .inl (ky 0, 36, .inl f61))] → va_S A s.heap H locs → lv_has ls 6 [(4, .int (nI k59)), (3, .int x60), (0, .ref o), (1, .int (nI bq))] → W p l e (headSpec wsX12_layFar ({ frames := 4, cells := 0, slots := 0, locals := 92 })).room s m args below meth c H locs 0 0 Q (F0 m 41 ls []) := by
                intro n70
                induction n70 with
                | zero => intro k59 x60 f61 _ _ _ _ _ _ _ h9; exact absurd h9 (Nat.not_lt_zero _)
                | succ n70 ih71 =>
                  intro k59 x60 f61 j62 j63 j64 j65 j66 j67 j68 hm72 H locs ls hP hD hS hl
                  refine lv_iload hx hb dX12_layFar_41 (lv_at hl 0 rfl) ?_
                  refine lv_bipush (v := nI 36) hx hb dX12_layFar_43 (by decide) ?_
                  refine n_icmp_ge (x := k59) (y := 36) (tgt := 121) hx hb (by omega) (by omega) dX12_layFar_45 (by decide) (fun c73 => ?_) (fun c73 => ?_)
                  · refine lv_goto (tgt := 32) hx hb dX12_layFar_121 (by decide) ?_
                    exact ih36 x60 f61 j63 j64 j65 (lf_x_layFar_7 knowF bq gq g18 x28 f29 n35 k59 x60 f61 n70 ab_now hbq hgq nb20 hI21 j30 j31 j32 j33 hm37 c38 j62 j63 j64 j65 j66 j67 j68 hm72 c73) (lf_x_layFar_8 knowF bq gq g18 x28 f29 n35 k59 x60 f61 n70 ab_now hbq hgq nb20 hI21 j30 j31 j32 j33 hm37 c38 j62 j63 j64 j65 j66 j67 j68 hm72 c73) _ _ _ hP hD hS (lv_sub hl [1, 2, 3] rfl)
                  · refine lv_aload_n hx hb dX12_layFar_48 rfl (lv_at hl 2 rfl) ?_
                    refine lv_iload hx hb dX12_layFar_49 (lv_at hl 0 rfl) ?_
                    refine vp_callSi (W.runV (As := [.int (nI k59)]) (rest := []) ⟨hx, hb, hml, hown, hts⟩ (c_x_isInSeaE l dC dI ky o kthrown ktape ktaped ksize klimit kto kfrom kkind knumber ksign kfault kplace kword ktold know kread kkept ksnaps kaside kname kreadName kkeptName kisKept konces ksnapMany khasCells kpoured kfar ksides ksideMany kwayDays khasWay klines kmet kmetMany ksunk ktrying ksunkMany ksending kfleets ktext ktexts kseed kline kwritten klineMany khasWritten knode knodes konesMany kwithin ktop knowF k59 iv_ko_0 iv_ko_1 iv_ko_2 iv_ko_3 iv_ko_4 iv_ko_5 iv_ko_6 iv_ko_7 iv_ko_8 iv_ko_9 iv_ko_10 iv_ko_11 iv_ko_12 iv_ko_13 iv_ko_14 ab_now c73) (cwV 1 hts gX12_layFar_X12_isInSea rfl rfl rfl (by decide +kernel) ⟨(Nat.le_of_ble_eq_true rfl), (Nat.le_of_ble_eq_true rfl)⟩) (pre_PV hK hP [0, 1] rfl (ci := 12) (q0 := 0) rfl rfl) rfl rfl hl.1 rfl (lv_room (Nat.le_of_ble_eq_true rfl)) dX12_layFar_51 ⟨(Nat.le_of_ble_eq_true rfl), (Nat.le_of_ble_eq_true rfl)⟩) (fun r74 p75 => ?_)
                    rcases p75 with ⟨rfl, t76⟩ | ⟨rfl, t77⟩
                    · refine lv_if_ne (tgt := 60) hx hb dX12_layFar_54 (by decide) (fun c78 => ?_) (fun c78 => absurd c78 (by decide))
                      refine lv_iconst (v := nI 0) hx hb dX12_layFar_60 (by decide) ?_
                      refine lv_istore (lv' := [(5, .int (nI 0)), (4, .int (nI k59)), (3, .int x60), (0, .ref o), (1, .int (nI bq))]) hx hb dX12_layFar_61 hl (by decide) rfl (fun ls hl => ?_)
                      have hL109 : ∀ (n110 : Nat) (k99 : Nat) (x100 : Int32) (f101 : Nat → Int32), (k99 ≤ 4) → (x100 = nI 0 ∨ x100 = nI 1) → (FB36 f101) → (FI knowF f101 bq gq) → (x100 = nI 1 ∨ FX knowF f101 bq k59 k99) → (sumF f101 36 ≤ sumF f29 36) → (x100 = nI 0 ∨ sumF f101 36 < sumF f29 36) → 4 - k99 < n110 → ∀ (H : Heap) (locs : List Loc) (ls : Array Slot), va_P (dC, dI) vwCl [(o, .inr (12, [.int kthrown, .ref ktape, .int (nI ktaped), .int (nI ksize), .int (nI klimit), .int (nI kto), .int (nI kfrom), .int kkind, .int knumber, .int ksign, .int kfault, .int kplace, .long kword, .int ktold, .ref know, .ref kread, .ref kkept, .ref ksnaps, .ref kaside, .ref kname, .ref kreadName, .ref kkeptName, .ref kisKept, .ref konces, .int (nI ksnapMany), .int khasCells, .ref kpoured, .ref kfar, .ref ksides, .int (nI ksideMany), .int kwayDays, .int khasWay, .ref klines, .ref kmet, .int (nI kmetMany), .ref ksunk, .ref ktrying, .int (nI ksunkMany), .int ksending, .int kfleets, .ref ktext, .int (nI ktexts), .int kseed, .ref kline, .ref kwritten, .int (nI klineMany), .int khasWritten, .ref knode, .int (nI knodes), .int (nI konesMany), .int (nI kwithin), .int (nI ktop)])), (know, .inl (ky 0, 373, .inl knowF)), (kfar, .inl (ky 0, 36, .inl f101))] H → va_D A [(o, .inr (12, [.int kthrown, .ref ktape, .int (nI ktaped), .int (nI ksize), .int (nI klimit), .int (nI kto), .int (nI kfrom), .int kkind, .int knumber, .int ksign, .int kfault, .int kplace, .long kword, .int ktold, .ref know, .ref kread, .ref kkept, .ref ksnaps, .ref kaside, .ref kname, .ref kreadName, .ref kkeptName, .ref kisKept, .ref konces, .int (nI ksnapMany), .int khasCells, .ref kpoured, .ref kfar, .ref ksides, .int (nI ksideMany), .int kwayDays, .int khasWay, .ref klines, .ref kmet, .int (nI kmetMany), .ref ksunk, .ref ktrying, .int (nI ksunkMany), .int ksending, .int kfleets, .ref ktext, .int (nI ktexts), .int kseed, .ref kline, .ref kwritten, .int (nI klineMany), .int khasWritten, .ref knode, .int (nI knodes), .int (nI konesMany), .int (nI kwithin), .int (nI ktop)])), (know, .inl (ky 0, 373, .inl knowF)), (kfar, .inl (ky 0, 36, .inl f101))] → va_S A s.heap H locs → lv_has ls 6 [(5, .int (nI k99)), (4, .int (nI k59)), (3, .int x100), (0, .ref o), (1, .int (nI bq))] → W p l e (headSpec wsX12_layFar ({ frames := 4, cells := 0, slots := 0, locals := 92 })).room s m args below meth c H locs 0 0 Q (F0 m 63 ls []) := by
                        intro n110
                        induction n110 with
                        | zero => intro k99 x100 f101 _ _ _ _ _ _ _ h9; exact absurd h9 (Nat.not_lt_zero _)
                        | succ n110 ih111 =>
                          intro k99 x100 f101 j102 j103 j104 j105 j106 j107 j108 hm112 H locs ls hP hD hS hl
                          refine lv_iload hx hb dX12_layFar_63 (lv_at hl 0 rfl) ?_
                          refine lv_iconst (v := nI 3) hx hb dX12_layFar_65 (by decide) ?_
                          refine n_icmp_gt (x := k99) (y := 3) (tgt := 115) hx hb (by omega) (by omega) dX12_layFar_66 (by decide) (fun c113 => ?_) (fun c113 => ?_)
                          · refine lv_iinc (v := nI (k59 + 1)) (lv' := [(4, .int (nI (k59 + 1))), (5, .int (nI k99)), (3, .int x100), (0, .ref o), (1, .int (nI bq))]) hx hb dX12_layFar_115 hl (k := 1) rfl (show nI k59 + nI 1 = nI (k59 + 1) from nI_add _ _) (by decide) rfl (fun ls hl => ?_)
                            refine lv_goto (tgt := 41) hx hb dX12_layFar_118 (by decide) ?_
                            exact ih71 (k59 + 1) x100 f101 (lf_x_layFar_9 knowF bq gq g18 x28 f29 n35 k59 x60 f61 n70 k99 x100 f101 n110 ab_now hbq hgq nb20 hI21 j30 j31 j32 j33 hm37 c38 j62 j63 j64 j65 j66 j67 j68 hm72 c73 t76 j102 j103 j104 j105 j106 j107 j108 hm112 c113) j103 j104 j105 (lf_x_layFar_10 knowF bq gq g18 x28 f29 n35 k59 x60 f61 n70 k99 x100 f101 n110 ab_now hbq hgq nb20 hI21 j30 j31 j32 j33 hm37 c38 j62 j63 j64 j65 j66 j67 j68 hm72 c73 t76 j102 j103 j104 j105 j106 j107 j108 hm112 c113) j107 j108 (lf_x_layFar_11 knowF bq gq g18 x28 f29 n35 k59 x60 f61 n70 k99 x100 f101 n110 ab_now hbq hgq nb20 hI21 j30 j31 j32 j33 hm37 c38 j62 j63 j64 j65 j66 j67 j68 hm72 c73 t76 j102 j103 j104 j105 j106 j107 j108 hm112 c113) _ _ _ hP hD hS (lv_sub hl [0, 2, 3, 4] rfl)
                          · refine lv_aload_n hx hb dX12_layFar_69 rfl (lv_at hl 3 rfl) ?_
                            refine lv_iload_n hx hb dX12_layFar_70 rfl (lv_at hl 4 rfl) ?_
                            refine lv_iload hx hb dX12_layFar_71 (lv_at hl 1 rfl) ?_
                            refine lv_iload hx hb dX12_layFar_73 (lv_at hl 0 rfl) ?_
                            refine vp_callSi (W.runV (As := [.int (nI bq), .int (nI k59), .int (nI k99)]) (rest := []) ⟨hx, hb, hml, hown, hts⟩ (c_x_farBy l dC dI ky o kthrown ktape ktaped ksize klimit kto kfrom kkind knumber ksign kfault kplace kword ktold know kread kkept ksnaps kaside kname kreadName kkeptName kisKept konces ksnapMany khasCells kpoured kfar ksides ksideMany kwayDays khasWay klines kmet kmetMany ksunk ktrying ksunkMany ksending kfleets ktext ktexts kseed kline kwritten klineMany khasWritten knode knodes konesMany kwithin ktop knowF f101 bq k59 k99 iv_ko_0 iv_ko_1 iv_ko_2 iv_ko_3 iv_ko_4 iv_ko_5 iv_ko_6 iv_ko_7 iv_ko_8 iv_ko_9 iv_ko_10 iv_ko_11 iv_ko_12 iv_ko_13 iv_ko_14 ab_now j104 hbq c73 (lf_x_layFar_12 knowF bq gq g18 x28 f29 n35 k59 x60 f61 n70 k99 x100 f101 n110 ab_now hbq hgq nb20 hI21 j30 j31 j32 j33 hm37 c38 j62 j63 j64 j65 j66 j67 j68 hm72 c73 t76 j102 j103 j104 j105 j106 j107 j108 hm112 c113)) (cwV 3 hts gX12_layFar_X12_farBy rfl rfl rfl (by decide +kernel) ⟨(Nat.le_of_ble_eq_true rfl), (Nat.le_of_ble_eq_true rfl)⟩) (pre_PV hK hP [0, 1, 2] rfl (ci := 12) (q0 := 0) rfl rfl) rfl rfl hl.1 rfl (lv_room (Nat.le_of_ble_eq_true rfl)) dX12_layFar_75 ⟨(Nat.le_of_ble_eq_true rfl), (Nat.le_of_ble_eq_true rfl)⟩) (fun r114 p115 => ?_)
                            refine lv_aload_n hx hb dX12_layFar_78 rfl (lv_at hl 3 rfl) ?_
                            refine va_get (D := (dC, dI)) (ci := 12) (v := .ref kfar) (C := RX12) (T := TX12) (N := 52) hx hb hts hin12 hown hK hP 0 rfl rfl 27 (by decide) (hts (.fieldLink RX12 133 "PorridgeSeaModel" "far" "[I") (List.mem_of_getElem? (i := 1) rfl)) (fun _ h9 => h9) rfl dX12_layFar_79 ?_
                            refine lv_iload hx hb dX12_layFar_82 (lv_at hl 1 rfl) ?_
                            obtain ⟨y116, e117⟩ : ∃ z9, z9 = f101 k59 := ⟨_, rfl⟩
                            refine r_iald hx hb hK hP 2 rfl k59 (lf_x_layFar_13 knowF bq gq g18 x28 f29 n35 k59 x60 f61 n70 k99 x100 f101 n110 r114 y116 ab_now hbq hgq nb20 hI21 j30 j31 j32 j33 hm37 c38 j62 j63 j64 j65 j66 j67 j68 hm72 c73 t76 j102 j103 j104 j105 j106 j107 j108 hm112 c113 p115 e117) (by decide) y116 e117.symm dX12_layFar_84 ?_
                            obtain ⟨b118, b119⟩ : (0 : Int) ≤ y116.toInt ∧ y116.toInt ≤ 100000 := by rw [e117]; exact ld_FB36_0 j104 k59 (lf_x_layFar_14 knowF bq gq g18 x28 f29 n35 k59 x60 f61 n70 k99 x100 f101 n110 r114 y116 ab_now hbq hgq nb20 hI21 j30 j31 j32 j33 hm37 c38 j62 j63 j64 j65 j66 j67 j68 hm72 c73 t76 j102 j103 j104 j105 j106 j107 j108 hm112 c113 p115 e117) (lf_x_layFar_15 knowF bq gq g18 x28 f29 n35 k59 x60 f61 n70 k99 x100 f101 n110 r114 y116 ab_now hbq hgq nb20 hI21 j30 j31 j32 j33 hm37 c38 j62 j63 j64 j65 j66 j67 j68 hm72 c73 t76 j102 j103 j104 j105 j106 j107 j108 hm112 c113 p115 e117)
                            refine lv_icmp_lt (tgt := 91) hx hb dX12_layFar_85 (by decide) (fun c120 => ?_) (fun c120 => ?_)
                            · refine lv_aload_n hx hb dX12_layFar_91 rfl (lv_at hl 3 rfl) ?_
                              refine va_get (D := (dC, dI)) (ci := 12) (v := .ref kfar) (C := RX12) (T := TX12) (N := 52) hx hb hts hin12 hown hK hP 0 rfl rfl 27 (by decide) (hts (.fieldLink RX12 133 "PorridgeSeaModel" "far" "[I") (List.mem_of_getElem? (i := 1) rfl)) (fun _ h9 => h9) rfl dX12_layFar_92 ?_
                              refine lv_iload hx hb dX12_layFar_95 (lv_at hl 1 rfl) ?_
                              refine lv_aload_n hx hb dX12_layFar_97 rfl (lv_at hl 3 rfl) ?_
                              refine lv_iload_n hx hb dX12_layFar_98 rfl (lv_at hl 4 rfl) ?_
                              refine lv_iload hx hb dX12_layFar_99 (lv_at hl 1 rfl) ?_
                              refine lv_iload hx hb dX12_layFar_101 (lv_at hl 0 rfl) ?_
                              refine vp_callSi (W.runV (As := [.int (nI bq), .int (nI k59), .int (nI k99)]) (rest := [.int (nI k59), .ref kfar]) ⟨hx, hb, hml, hown, hts⟩ (c_x_farBy l dC dI ky o kthrown ktape ktaped ksize klimit kto kfrom kkind knumber ksign kfault kplace kword ktold know kread kkept ksnaps kaside kname kreadName kkeptName kisKept konces ksnapMany khasCells kpoured kfar ksides ksideMany kwayDays khasWay klines kmet kmetMany ksunk ktrying ksunkMany ksending kfleets ktext ktexts kseed kline kwritten klineMany khasWritten knode knodes konesMany kwithin ktop knowF f101 bq k59 k99 iv_ko_0 iv_ko_1 iv_ko_2 iv_ko_3 iv_ko_4 iv_ko_5 iv_ko_6 iv_ko_7 iv_ko_8 iv_ko_9 iv_ko_10 iv_ko_11 iv_ko_12 iv_ko_13 iv_ko_14 ab_now j104 hbq c73 (lf_x_layFar_16 knowF bq gq g18 x28 f29 n35 k59 x60 f61 n70 k99 x100 f101 n110 r114 y116 ab_now hbq hgq nb20 hI21 j30 j31 j32 j33 hm37 c38 j62 j63 j64 j65 j66 j67 j68 hm72 c73 t76 j102 j103 j104 j105 j106 j107 j108 hm112 c113 p115 e117 b118 b119 c120)) (cwV 3 hts gX12_layFar_X12_farBy rfl rfl rfl (by decide +kernel) ⟨(Nat.le_of_ble_eq_true rfl), (Nat.le_of_ble_eq_true rfl)⟩) (pre_PV hK hP [0, 1, 2] rfl (ci := 12) (q0 := 0) rfl rfl) rfl rfl hl.1 rfl (lv_room (Nat.le_of_ble_eq_true rfl)) dX12_layFar_103 ⟨(Nat.le_of_ble_eq_true rfl), (Nat.le_of_ble_eq_true rfl)⟩) (fun r121 p122 => ?_)
                              refine r_iast (x := r121) hx hb hK hP hD hS 2 rfl k59 (lf_x_layFar_19 knowF bq gq g18 x28 f29 n35 k59 x60 f61 n70 k99 x100 f101 n110 r114 y116 r121 ab_now hbq hgq nb20 hI21 j30 j31 j32 j33 hm37 c38 j62 j63 j64 j65 j66 j67 j68 hm72 c73 t76 j102 j103 j104 j105 j106 j107 j108 hm112 c113 p115 e117 b118 b119 c120 p122) (by decide) dX12_layFar_106 (fun H locs hP hD hS => ?_)
                              obtain ⟨g123, e124⟩ : ∃ z9, z9 = upd f101 k59 r121 := ⟨_, rfl⟩
                              rw [← e124] at hP hD
                              have nb125 : FB36 g123 := by rw [e124]; exact st_FB36_0 j104 k59 (lf_x_layFar_20 knowF bq gq g18 x28 f29 n35 k59 x60 f61 n70 k99 x100 f101 n110 r114 y116 r121 ab_now hbq hgq nb20 hI21 j30 j31 j32 j33 hm37 c38 j62 j63 j64 j65 j66 j67 j68 hm72 c73 t76 j102 j103 j104 j105 j106 j107 j108 hm112 c113 p115 e117 b118 b119 c120 p122) (lf_x_layFar_21 knowF bq gq g18 x28 f29 n35 k59 x60 f61 n70 k99 x100 f101 n110 r114 y116 r121 ab_now hbq hgq nb20 hI21 j30 j31 j32 j33 hm37 c38 j62 j63 j64 j65 j66 j67 j68 hm72 c73 t76 j102 j103 j104 j105 j106 j107 j108 hm112 c113 p115 e117 b118 b119 c120 p122) (lf_x_layFar_17 knowF bq gq g18 x28 f29 n35 k59 x60 f61 n70 k99 x100 f101 n110 r114 y116 r121 ab_now hbq hgq nb20 hI21 j30 j31 j32 j33 hm37 c38 j62 j63 j64 j65 j66 j67 j68 hm72 c73 t76 j102 j103 j104 j105 j106 j107 j108 hm112 c113 p115 e117 b118 b119 c120 p122) (lf_x_layFar_18 knowF bq gq g18 x28 f29 n35 k59 x60 f61 n70 k99 x100 f101 n110 r114 y116 r121 ab_now hbq hgq nb20 hI21 j30 j31 j32 j33 hm37 c38 j62 j63 j64 j65 j66 j67 j68 hm72 c73 t76 j102 j103 j104 j105 j106 j107 j108 hm112 c113 p115 e117 b118 b119 c120 p122)
                              have hI126 : FI knowF g123 bq gq := by rw [e124]; exact FI_step ab_now j105 (by omega) t76 (by omega) p122.1 (lf_x_layFar_22 knowF bq gq g18 x28 f29 n35 k59 x60 f61 n70 k99 x100 f101 n110 r114 y116 r121 ab_now hbq hgq nb20 hI21 j30 j31 j32 j33 hm37 c38 j62 j63 j64 j65 j66 j67 j68 hm72 c73 t76 j102 j103 j104 j105 j106 j107 j108 hm112 c113 p115 e117 b118 b119 c120 p122)
                              have hs127 : sumF g123 36 < sumF f101 36 := by rw [e124]; exact sumF_lt (by omega) (lf_x_layFar_23 knowF bq gq g18 x28 f29 n35 k59 x60 f61 n70 k99 x100 f101 n110 r114 y116 r121 ab_now hbq hgq nb20 hI21 j30 j31 j32 j33 hm37 c38 j62 j63 j64 j65 j66 j67 j68 hm72 c73 t76 j102 j103 j104 j105 j106 j107 j108 hm112 c113 p115 e117 b118 b119 c120 p122) (lf_x_layFar_22 knowF bq gq g18 x28 f29 n35 k59 x60 f61 n70 k99 x100 f101 n110 r114 y116 r121 ab_now hbq hgq nb20 hI21 j30 j31 j32 j33 hm37 c38 j62 j63 j64 j65 j66 j67 j68 hm72 c73 t76 j102 j103 j104 j105 j106 j107 j108 hm112 c113 p115 e117 b118 b119 c120 p122)
                              have hP : va_P (dC, dI) vwCl [(o, .inr (12, [.int kthrown, .ref ktape, .int (nI ktaped), .int (nI ksize), .int (nI klimit), .int (nI kto), .int (nI kfrom), .int kkind, .int knumber, .int ksign, .int kfault, .int kplace, .long kword, .int ktold, .ref know, .ref kread, .ref kkept, .ref ksnaps, .ref kaside, .ref kname, .ref kreadName, .ref kkeptName, .ref kisKept, .ref konces, .int (nI ksnapMany), .int khasCells, .ref kpoured, .ref kfar, .ref ksides, .int (nI ksideMany), .int kwayDays, .int khasWay, .ref klines, .ref kmet, .int (nI kmetMany), .ref ksunk, .ref ktrying, .int (nI ksunkMany), .int ksending, .int kfleets, .ref ktext, .int (nI ktexts), .int kseed, .ref kline, .ref kwritten, .int (nI klineMany), .int khasWritten, .ref knode, .int (nI knodes), .int (nI konesMany), .int (nI kwithin), .int (nI ktop)])), (know, .inl (ky 0, 373, .inl knowF)), (kfar, .inl (ky 0, 36, .inl g123))] H := hP
                              have hD : va_D A [(o, .inr (12, [.int kthrown, .ref ktape, .int (nI ktaped), .int (nI ksize), .int (nI klimit), .int (nI kto), .int (nI kfrom), .int kkind, .int knumber, .int ksign, .int kfault, .int kplace, .long kword, .int ktold, .ref know, .ref kread, .ref kkept, .ref ksnaps, .ref kaside, .ref kname, .ref kreadName, .ref kkeptName, .ref kisKept, .ref konces, .int (nI ksnapMany), .int khasCells, .ref kpoured, .ref kfar, .ref ksides, .int (nI ksideMany), .int kwayDays, .int khasWay, .ref klines, .ref kmet, .int (nI kmetMany), .ref ksunk, .ref ktrying, .int (nI ksunkMany), .int ksending, .int kfleets, .ref ktext, .int (nI ktexts), .int kseed, .ref kline, .ref kwritten, .int (nI klineMany), .int khasWritten, .ref knode, .int (nI knodes), .int (nI konesMany), .int (nI kwithin), .int (nI ktop)])), (know, .inl (ky 0, 373, .inl knowF)), (kfar, .inl (ky 0, 36, .inl g123))] := hD
                              refine lv_iconst (v := nI 1) hx hb dX12_layFar_107 (by decide) ?_
                              refine lv_istore_n (lv' := [(3, .int (nI 1)), (5, .int (nI k99)), (4, .int (nI k59)), (0, .ref o), (1, .int (nI bq))]) hx hb dX12_layFar_108 rfl hl (by decide) rfl (fun ls hl => ?_)
                              refine lv_iinc (v := nI (k99 + 1)) (lv' := [(5, .int (nI (k99 + 1))), (3, .int (nI 1)), (4, .int (nI k59)), (0, .ref o), (1, .int (nI bq))]) hx hb dX12_layFar_109 hl (k := 1) rfl (show nI k99 + nI 1 = nI (k99 + 1) from nI_add _ _) (by decide) rfl (fun ls hl => ?_)
                              refine lv_goto (tgt := 63) hx hb dX12_layFar_112 (by decide) ?_
                              exact ih111 (k99 + 1) (nI 1) g123 (lf_x_layFar_24 knowF bq gq g18 x28 f29 n35 k59 x60 f61 n70 k99 x100 f101 n110 r114 y116 r121 g123 ab_now hbq hgq nb20 hI21 j30 j31 j32 j33 hm37 c38 j62 j63 j64 j65 j66 j67 j68 hm72 c73 t76 j102 j103 j104 j105 j106 j107 j108 hm112 c113 p115 e117 b118 b119 c120 p122 nb125 hI126 hs127) (lf_x_layFar_25) nb125 hI126 (lf_x_layFar_26 knowF bq gq g18 x28 f29 n35 k59 x60 f61 n70 k99 x100 f101 n110 r114 y116 r121 g123 ab_now hbq hgq nb20 hI21 j30 j31 j32 j33 hm37 c38 j62 j63 j64 j65 j66 j67 j68 hm72 c73 t76 j102 j103 j104 j105 j106 j107 j108 hm112 c113 p115 e117 b118 b119 c120 p122 nb125 hI126 hs127) (lf_x_layFar_27 knowF bq gq g18 x28 f29 n35 k59 x60 f61 n70 k99 x100 f101 n110 r114 y116 r121 g123 ab_now hbq hgq nb20 hI21 j30 j31 j32 j33 hm37 c38 j62 j63 j64 j65 j66 j67 j68 hm72 c73 t76 j102 j103 j104 j105 j106 j107 j108 hm112 c113 p115 e117 b118 b119 c120 p122 nb125 hI126 hs127) (lf_x_layFar_28 knowF bq gq g18 x28 f29 n35 k59 x60 f61 n70 k99 x100 f101 n110 r114 y116 r121 g123 ab_now hbq hgq nb20 hI21 j30 j31 j32 j33 hm37 c38 j62 j63 j64 j65 j66 j67 j68 hm72 c73 t76 j102 j103 j104 j105 j106 j107 j108 hm112 c113 p115 e117 b118 b119 c120 p122 nb125 hI126 hs127) (lf_x_layFar_29 knowF bq gq g18 x28 f29 n35 k59 x60 f61 n70 k99 x100 f101 n110 r114 y116 r121 g123 ab_now hbq hgq nb20 hI21 j30 j31 j32 j33 hm37 c38 j62 j63 j64 j65 j66 j67 j68 hm72 c73 t76 j102 j103 j104 j105 j106 j107 j108 hm112 c113 p115 e117 b118 b119 c120 p122 nb125 hI126 hs127) _ _ _ hP hD hS (lv_sub hl [0, 2, 1, 3, 4] rfl)
                            · refine lv_goto (tgt := 109) hx hb dX12_layFar_88 (by decide) ?_
                              refine lv_iinc (v := nI (k99 + 1)) (lv' := [(5, .int (nI (k99 + 1))), (4, .int (nI k59)), (3, .int x100), (0, .ref o), (1, .int (nI bq))]) hx hb dX12_layFar_109 hl (k := 0) rfl (show nI k99 + nI 1 = nI (k99 + 1) from nI_add _ _) (by decide) rfl (fun ls hl => ?_)
                              refine lv_goto (tgt := 63) hx hb dX12_layFar_112 (by decide) ?_
                              exact ih111 (k99 + 1) x100 f101 (lf_x_layFar_30 knowF bq gq g18 x28 f29 n35 k59 x60 f61 n70 k99 x100 f101 n110 r114 y116 ab_now hbq hgq nb20 hI21 j30 j31 j32 j33 hm37 c38 j62 j63 j64 j65 j66 j67 j68 hm72 c73 t76 j102 j103 j104 j105 j106 j107 j108 hm112 c113 p115 e117 b118 b119 c120) j103 j104 j105 (lf_x_layFar_31 knowF bq gq g18 x28 f29 n35 k59 x60 f61 n70 k99 x100 f101 n110 r114 y116 ab_now hbq hgq nb20 hI21 j30 j31 j32 j33 hm37 c38 j62 j63 j64 j65 j66 j67 j68 hm72 c73 t76 j102 j103 j104 j105 j106 j107 j108 hm112 c113 p115 e117 b118 b119 c120) j107 j108 (lf_x_layFar_32 knowF bq gq g18 x28 f29 n35 k59 x60 f61 n70 k99 x100 f101 n110 r114 y116 ab_now hbq hgq nb20 hI21 j30 j31 j32 j33 hm37 c38 j62 j63 j64 j65 j66 j67 j68 hm72 c73 t76 j102 j103 j104 j105 j106 j107 j108 hm112 c113 p115 e117 b118 b119 c120) _ _ _ hP hD hS (lv_sub hl [0, 1, 2, 3, 4] rfl)
                      exact hL109 ((4 - 0) + 1) 0 x60 f61 (lf_x_layFar_33) j63 j64 j65 j66 j67 j68 (Nat.lt_succ_self _) _ _ _ hP hD hS (lv_sub hl [0, 1, 2, 3, 4] rfl)
                    · refine lv_if_ne (tgt := 60) hx hb dX12_layFar_54 (by decide) (fun c128 => absurd c128 (by decide)) (fun c128 => ?_)
                      refine lv_goto (tgt := 115) hx hb dX12_layFar_57 (by decide) ?_
                      refine lv_iinc (v := nI (k59 + 1)) (lv' := [(4, .int (nI (k59 + 1))), (3, .int x60), (0, .ref o), (1, .int (nI bq))]) hx hb dX12_layFar_115 hl (k := 0) rfl (show nI k59 + nI 1 = nI (k59 + 1) from nI_add _ _) (by decide) rfl (fun ls hl => ?_)
                      refine lv_goto (tgt := 41) hx hb dX12_layFar_118 (by decide) ?_
                      exact ih71 (k59 + 1) x60 f61 (lf_x_layFar_34 knowF bq gq g18 x28 f29 n35 k59 x60 f61 n70 ab_now hbq hgq nb20 hI21 j30 j31 j32 j33 hm37 c38 j62 j63 j64 j65 j66 j67 j68 hm72 c73 t77) j63 j64 j65 (lf_x_layFar_35 knowF bq gq g18 x28 f29 n35 k59 x60 f61 n70 ab_now hbq hgq nb20 hI21 j30 j31 j32 j33 hm37 c38 j62 j63 j64 j65 j66 j67 j68 hm72 c73 t77) j67 j68 (lf_x_layFar_36 knowF bq gq g18 x28 f29 n35 k59 x60 f61 n70 ab_now hbq hgq nb20 hI21 j30 j31 j32 j33 hm37 c38 j62 j63 j64 j65 j66 j67 j68 hm72 c73 t77) _ _ _ hP hD hS (lv_sub hl [0, 1, 2, 3] rfl)
              exact hL69 ((36 - 0) + 1) 0 (nI 0) f29 (lf_x_layFar_37) (lf_x_layFar_38) j31 j32 (lf_x_layFar_39 knowF bq gq g18 x28 f29 n35 ab_now hbq hgq nb20 hI21 j30 j31 j32 j33 hm37 c38) (lf_x_layFar_40 knowF bq gq g18 x28 f29 n35 ab_now hbq hgq nb20 hI21 j30 j31 j32 j33 hm37 c38) (lf_x_layFar_41 knowF bq gq g18 x28 f29 n35 ab_now hbq hgq nb20 hI21 j30 j31 j32 j33 hm37 c38) (Nat.lt_succ_self _) _ _ _ hP hD hS (lv_sub hl [0, 1, 2, 3] rfl)
        exact hL34 ((2 * sumF g18 36 + (nI 1).toInt.toNat) + 1) (nI 1) g18 (lf_x_layFar_42) nb20 hI21 (lf_x_layFar_43 knowF bq gq g18 ab_now hbq hgq nb20 hI21) (Nat.lt_succ_self _) _ _ _ hP hD hS (lv_sub hl [0, 1, 2] rfl)
      · refine lv_aload_n hx hb dX12_layFar_8 rfl (lv_at hl 1 rfl) ?_
        refine va_get (D := (dC, dI)) (ci := 12) (v := .ref kfar) (C := RX12) (T := TX12) (N := 52) hx hb hts hin12 hown hK hP 0 rfl rfl 27 (by decide) (hts (.fieldLink RX12 133 "PorridgeSeaModel" "far" "[I") (List.mem_of_getElem? (i := 1) rfl)) (fun _ h9 => h9) rfl dX12_layFar_9 ?_
        refine lv_iload_n hx hb dX12_layFar_12 rfl (lv_at hl 0 rfl) ?_
        refine lv_ldcw (v := nI 100000) hx hb hown (hts (.constant RX12 315 (nI 100000)) (List.mem_of_getElem? (i := 2) rfl)) dX12_layFar_13 ?_
        refine r_iast (x := (nI 100000)) hx hb hK hP hD hS 2 rfl k9 (lf_x_layFar_46 k9 f10 n14 j11 j12 hfill hm16 c17) (by decide) dX12_layFar_16 (fun H locs hP hD hS => ?_)
        obtain ⟨g129, e130⟩ : ∃ z9, z9 = upd f10 k9 (nI 100000) := ⟨_, rfl⟩
        rw [← e130] at hP hD
        have nb131 : FB36 g129 := by rw [e130]; exact st_FB36_0 j12 k9 (lf_x_layFar_47 k9 f10 n14 j11 j12 hfill hm16 c17) (lf_x_layFar_48 k9 f10 n14 j11 j12 hfill hm16 c17) (lf_x_layFar_44) (lf_x_layFar_45)
        have hP : va_P (dC, dI) vwCl [(o, .inr (12, [.int kthrown, .ref ktape, .int (nI ktaped), .int (nI ksize), .int (nI klimit), .int (nI kto), .int (nI kfrom), .int kkind, .int knumber, .int ksign, .int kfault, .int kplace, .long kword, .int ktold, .ref know, .ref kread, .ref kkept, .ref ksnaps, .ref kaside, .ref kname, .ref kreadName, .ref kkeptName, .ref kisKept, .ref konces, .int (nI ksnapMany), .int khasCells, .ref kpoured, .ref kfar, .ref ksides, .int (nI ksideMany), .int kwayDays, .int khasWay, .ref klines, .ref kmet, .int (nI kmetMany), .ref ksunk, .ref ktrying, .int (nI ksunkMany), .int ksending, .int kfleets, .ref ktext, .int (nI ktexts), .int kseed, .ref kline, .ref kwritten, .int (nI klineMany), .int khasWritten, .ref knode, .int (nI knodes), .int (nI konesMany), .int (nI kwithin), .int (nI ktop)])), (know, .inl (ky 0, 373, .inl knowF)), (kfar, .inl (ky 0, 36, .inl g129))] H := hP
        have hD : va_D A [(o, .inr (12, [.int kthrown, .ref ktape, .int (nI ktaped), .int (nI ksize), .int (nI klimit), .int (nI kto), .int (nI kfrom), .int kkind, .int knumber, .int ksign, .int kfault, .int kplace, .long kword, .int ktold, .ref know, .ref kread, .ref kkept, .ref ksnaps, .ref kaside, .ref kname, .ref kreadName, .ref kkeptName, .ref kisKept, .ref konces, .int (nI ksnapMany), .int khasCells, .ref kpoured, .ref kfar, .ref ksides, .int (nI ksideMany), .int kwayDays, .int khasWay, .ref klines, .ref kmet, .int (nI kmetMany), .ref ksunk, .ref ktrying, .int (nI ksunkMany), .int ksending, .int kfleets, .ref ktext, .int (nI ktexts), .int kseed, .ref kline, .ref kwritten, .int (nI klineMany), .int khasWritten, .ref knode, .int (nI knodes), .int (nI konesMany), .int (nI kwithin), .int (nI ktop)])), (know, .inl (ky 0, 373, .inl knowF)), (kfar, .inl (ky 0, 36, .inl g129))] := hD
        refine lv_iinc (v := nI (k9 + 1)) (lv' := [(3, .int (nI (k9 + 1))), (0, .ref o), (1, .int (nI bq)), (2, .int (nI gq))]) hx hb dX12_layFar_17 hl (k := 0) rfl (show nI k9 + nI 1 = nI (k9 + 1) from nI_add _ _) (by decide) rfl (fun ls hl => ?_)
        refine lv_goto (tgt := 2) hx hb dX12_layFar_20 (by decide) ?_
        exact ih15 (k9 + 1) g129 (lf_x_layFar_49 k9 f10 n14 g129 j11 j12 hfill hm16 c17 nb131 e130) nb131 (lf_x_layFar_50 k9 f10 n14 g129 j11 j12 hfill hm16 c17 nb131 e130) (lf_x_layFar_51 k9 f10 n14 g129 j11 j12 hfill hm16 c17 nb131 e130) _ _ _ hP hD hS (lv_sub hl [0, 1, 2, 3] rfl)
  exact hL13 ((36 - 0) + 1) 0 kfarF (lf_x_layFar_52) ab_far (lf_x_layFar_53 kfarF ab_far) (Nat.lt_succ_self _) _ _ _ hP hD hS (lv_sub hl [0, 1, 2, 3] rfl)
